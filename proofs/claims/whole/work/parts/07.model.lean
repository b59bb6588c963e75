/-! The reference's object: whole numbers by their fields' places (N), its rows (F: whole numbers; those of shN hold them less 1), the money (B) -/
def shN (k : Nat) : Bool := k == 2 || k == 16 || k == 17 || k == 18 || k == 20
def rowM (F : Nat → Nat → Nat) (B : Nat → Int32) (k : Nat) : Nat → Int32 := fun i => if k = 4 then B i else if shN k = true then nI (F k i) - 1 else nI (F k i)
def lenM (k : Nat) : Nat := if k ≤ 4 then 16 else if k = 5 then 4 else if k ≤ 11 then 100 else if k ≤ 21 then 36 else if k ≤ 24 then 720 else 16
def arK (k : Nat) : Bool := (2 ≤ k && k ≤ 5) || (7 ≤ k && k ≤ 11) || (14 ≤ k && k ≤ 27)
def fieldsM (N ar : Nat → Nat) : List Value := [.int (nI (N 0)), .int (nI (N 1)), .ref (ar 2), .ref (ar 3), .ref (ar 4), .ref (ar 5), .int (nI (N 6)), .ref (ar 7), .ref (ar 8), .ref (ar 9), .ref (ar 10), .ref (ar 11), .int (nI (N 12)), .int (nI (N 13)), .ref (ar 14), .ref (ar 15), .ref (ar 16), .ref (ar 17), .ref (ar 18), .ref (ar 19), .ref (ar 20), .ref (ar 21), .ref (ar 22), .ref (ar 23), .ref (ar 24), .ref (ar 25), .ref (ar 26), .ref (ar 27), .int (nI (N 28)), .int (nI (N 29))]
def RM (G : mG) (x : Nat) (ar N : Nat → Nat) (F : Nat → Nat → Nat) (B : Nat → Int32) (M : Mem) : Prop :=
  M x = some (.inr (8, fieldsM N ar)) ∧ (∀ k, arK k = true → M (ar k) = some (.inl (G.2 0, lenM k, .inl (rowM F B k)))) ∧ ∀ k k', arK k = true → arK k' = true → ar k = ar k' → k = k'
theorem va_up_at {α : Type} (f : Nat → α) (k : Nat) (v : α) : va_up f k v k = v := by simp [va_up]
theorem va_up_off {α : Type} (f : Nat → α) {k j : Nat} (v : α) (h : j ≠ k) : va_up f k v j = f j := by simp [va_up, h]
theorem rowM_off {F : Nat → Nat → Nat} {B : Nat → Int32} {k j : Nat} (g : Nat → Nat) (h : j ≠ k) : rowM (va_up F k g) B j = rowM F B j := by
  funext i
  simp only [rowM, va_up_off F g h]
theorem RM.xne {G : mG} {x : Nat} {ar N : Nat → Nat} {F : Nat → Nat → Nat} {B : Nat → Int32} {M : Mem} (h : RM G x ar N F B M) {k : Nat} (hk : arK k = true) : ar k ≠ x := mem_ne h.1 (h.2.1 k hk) (fun q => by cases q)
theorem RM.sc {G : mG} {x : Nat} {ar N N' : Nat → Nat} {F : Nat → Nat → Nat} {B : Nat → Int32} {M : Mem} (h : RM G x ar N F B M) {fs : List Value} (hf : fs = fieldsM N' ar) : RM G x ar N' F B (mU M x (.inr (8, fs))) := by
  refine ⟨by rw [mU_eq, hf], fun k hk => ?_, h.2.2⟩
  rw [mU_ne (h.xne hk)]
  exact h.2.1 k hk
theorem RM.ro {G : mG} {x : Nat} {ar N : Nat → Nat} {F F' : Nat → Nat → Nat} {B B' : Nat → Int32} {M : Mem} (h : RM G x ar N F B M) {k : Nat} (hk : arK k = true) {g : Nat → Int32} (hg : g = rowM F' B' k) (ho : ∀ j, j ≠ k → rowM F' B' j = rowM F B j) : RM G x ar N F' B' (mU M (ar k) (.inl (G.2 0, lenM k, .inl g))) := by
  refine ⟨by rw [mU_ne (fun q => h.xne hk q.symm)]; exact h.1, fun j hj => ?_, h.2.2⟩
  by_cases hjk : j = k
  · subst hjk
    rw [mU_eq, hg]
  · rw [mU_ne (fun q => hjk (h.2.2 j k hj hk q)), ho j hjk]
    exact h.2.1 j hj
def mM (G : mG) (A : Nat → Prop) (H0 : Heap) (x : Nat) (ar N : Nat → Nat) (F : Nat → Nat → Nat) (B : Nat → Int32) (H : Heap) (locs : List Loc) : Prop := ∃ M : Mem, mW G A H0 M H locs ∧ RM G x ar N F B M
def encM (k v : Nat) : Int32 := if shN k = true then nI v - 1 else nI v
theorem upd_enc {F : Nat → Nat → Nat} {B : Nat → Int32} {k i v : Nat} (h4 : k ≠ 4) : upd (rowM F B k) i (encM k v) = rowM (va_up F k (va_up (F k) i v)) B k := by
  funext j
  simp only [upd, rowM, encM, if_neg h4, va_up_at]
  by_cases hj : j = i
  · subst hj
    simp only [↓reduceIte, va_up_at]
  · simp only [if_neg hj, va_up_off (F k) v hj]
theorem upd_mon {F : Nat → Nat → Nat} {B : Nat → Int32} {i : Nat} {w : Int32} : upd (rowM F B 4) i w = rowM F (upd B i w) 4 := by
  funext j
  rfl
theorem rowM_B {F : Nat → Nat → Nat} {B B' : Nat → Int32} {j : Nat} (h : j ≠ 4) : rowM F B' j = rowM F B j := by
  funext i
  simp only [rowM, if_neg h]
abbrev MPost : Type := Option Value → (Nat → Nat) → (Nat → Nat → Nat) → (Nat → Int32) → Prop
def MMet (l : Launch) (y : MethodName) (bc : ByteArray) (nL : Nat) (ret : Option FieldType) (rm : Room) (G : mG) (x : Nat) (ar : Nat → Nat) (av : List Value) (N : Nat → Nat) (F : Nat → Nat → Nat) (B : Nat → Int32) (Post : MPost) : Prop :=
  ∀ M : Mem, RM G x ar N F B M → mMet l y bc nL ret rm G av M (fun r M' => ∃ (N' : Nat → Nat) (F' : Nat → Nat → Nat) (B' : Nat → Int32), Post r N' F' B' ∧ RM G x ar N' F' B' M')
/-- the end's predicate of a reference's method -/
abbrev MZ (G : mG) (A : Nat → Prop) (x : Nat) (ar : Nat → Nat) (Post : MPost) (below : List Frame) (args : Array Value) (s : State) (mc ms : Nat) : State → Prop := MQ below (mQ G A (fun r M' => ∃ (N' : Nat → Nat) (F' : Nat → Nat → Nat) (B' : Nat → Int32), Post r N' F' B' ∧ RM G x ar N' F' B' M')) args s mc ms A
section MODEL
variable {p : Program} {l : Launch} {e : Env} {R : Room} {s : State} {m : MethodId} {args : Array Value} {below : List Frame} {meth : Method} {c : Code} {H : Heap} {locs : List Loc} {cells slots : Nat} {Q : State → Prop}
variable {cc : ByteArray} {pc nL : Nat} {ls : Array Slot} {st0 rest : List Value} {G : mG} {A : Nat → Prop} {own : String} {H0 : Heap} {x : Nat} {ar N : Nat → Nat} {F : Nat → Nat → Nat} {B : Nat → Int32}
theorem MMet.of {y : MethodName} {bc : ByteArray} {ret : Option FieldType} {rm : Room} {av : List Value} {Post : MPost} (hy : plainName y.cls = true) (hav : (lg_sl av).length ≤ nL)
    (body : ∀ (p : Program) (e : Env) (s : State) (m : MethodId) (args : Array Value) (below : List Frame) (meth : Method) (c : Code) (A : Nat → Prop) (ls : Array Slot), Cx p c s m bc y.cls nL G → meth.sig.returnType = ret → meth.locks = false → mM G A s.heap x ar N F B s.heap [] → lv_has ls nL (lv_args 0 av) →
      W p l e rm s m args below meth c s.heap [] 0 0 (MZ G A x ar Post below args s rm.cells rm.slots) (F0 m 0 ls [])) : MMet l y bc nL ret rm G x ar av N F B Post :=
  fun M hR => mMet.of hy hav (fun p e s m args below meth c A ls X hr hlocks _ hM hl => body p e s m args below meth c A ls X hr hlocks ⟨M, hM, hR⟩ hl)
theorem mr_get (X : Cx p c s m cc RX7 nL G) (h : mM G A H0 x ar N F B H locs) {k index : Nat} (hl : Cond.fieldLink RX7 index (TX7 k).1 (TX7 k).2.1 (TX7 k).2.2.1 ∈ KTW) (hk : k < 30) (hdg : decode cc pc = .ok (.getfield index, 3)) {v : Value} (hv : (fieldsM N ar)[k]? = some v)
    (kk : W p l e R s m args below meth c H locs cells slots Q (F0 m (pc + 3) ls (v :: rest))) : W p l e R s m args below meth c H locs cells slots Q (F0 m pc ls (.ref x :: rest)) := by
  obtain ⟨M, hM, hR⟩ := h
  exact mg_get X hM (ci := 8) rfl kwX7 hk hl hdg hR.1 hv kk
theorem mr_put (X : Cx p c s m cc RX7 nL G) (h : mM G A H0 x ar N F B H locs) {k index : Nat} (hl : Cond.fieldLink RX7 index (TX7 k).1 (TX7 k).2.1 (TX7 k).2.2.1 ∈ KTW) (hk : k < 30) (hfin : (TX7 k).2.2.2 = false) (hty : tyX7 k = .int) (hdg : decode cc pc = .ok (.putfield index, 3)) {v : Nat} (hv : (fieldsM N ar).set k (.int (nI v)) = fieldsM (va_up N k v) ar)
    (kk : ∀ (H1 : Heap) (locs1 : List Loc), mM G A H0 x ar (va_up N k v) F B H1 locs1 → W p l e R s m args below meth c H1 locs1 cells slots Q (F0 m (pc + 3) ls rest)) : W p l e R s m args below meth c H locs cells slots Q (F0 m pc ls (.int (nI v) :: .ref x :: rest)) := by
  obtain ⟨M, hM, hR⟩ := h
  exact mg_put X hM tyX7 tyX7_ok nmX7 (ci := 8) rfl kwX7 hk hl hfin hdg hR.1 (by rw [hty]; rfl) (by rw [hty]; rfl) hk (fun H1 locs1 h1 => kk H1 locs1 ⟨_, h1, hR.sc hv⟩)
theorem mr_ald (X : Cx p c s m cc own nL G) (h : mM G A H0 x ar N F B H locs) (k : Nat) (hk : arK k = true) (hdg : decode cc pc = .ok (.iaload, 1)) {i : Nat} {xi v : Int32} (hx : xi = nI i) (hi : i < lenM k) (hv : rowM F B k i = v)
    (kk : W p l e R s m args below meth c H locs cells slots Q (F0 m (pc + 1) ls (.int v :: rest))) : W p l e R s m args below meth c H locs cells slots Q (F0 m pc ls (.int xi :: .ref (ar k) :: rest)) := by
  obtain ⟨M, hM, hR⟩ := h
  subst hx
  have hl : lenM k ≤ 720 := by unfold lenM; split <;> (try split) <;> (try split) <;> (try split) <;> (try split) <;> omega
  refine mg_iald X hM hdg (hR.2.1 k hk) (vp_in_nI hi (by omega)) ?_
  rw [nI_clamp (by omega), hv]
  exact kk
theorem mr_ast (X : Cx p c s m cc own nL G) (h : mM G A H0 x ar N F B H locs) (k : Nat) (hk : arK k = true) (h4 : k ≠ 4) (hdg : decode cc pc = .ok (.iastore, 1)) {i v : Nat} {xi xv : Int32} (hx : xi = nI i) (hi : i < lenM k) (hv : xv = encM k v)
    (kk : ∀ (H1 : Heap) (locs1 : List Loc), mM G A H0 x ar N (va_up F k (va_up (F k) i v)) B H1 locs1 → W p l e R s m args below meth c H1 locs1 cells slots Q (F0 m (pc + 1) ls rest)) : W p l e R s m args below meth c H locs cells slots Q (F0 m pc ls (.int xv :: .int xi :: .ref (ar k) :: rest)) := by
  obtain ⟨M, hM, hR⟩ := h
  subst hx
  subst hv
  have hl : lenM k ≤ 720 := by unfold lenM; split <;> (try split) <;> (try split) <;> (try split) <;> (try split) <;> omega
  refine mg_iast X hM hdg (hR.2.1 k hk) (vp_in_nI hi (by omega)) (fun H1 locs1 h1 => kk H1 locs1 ⟨_, h1, hR.ro hk ?_ (fun j hj => rowM_off _ hj)⟩)
  rw [nI_clamp (by omega)]
  exact upd_enc h4
theorem mr_astB (X : Cx p c s m cc own nL G) (h : mM G A H0 x ar N F B H locs) (hdg : decode cc pc = .ok (.iastore, 1)) {i : Nat} {xi xv : Int32} (hx : xi = nI i) (hi : i < 16)
    (kk : ∀ (H1 : Heap) (locs1 : List Loc), mM G A H0 x ar N F (upd B i xv) H1 locs1 → W p l e R s m args below meth c H1 locs1 cells slots Q (F0 m (pc + 1) ls rest)) : W p l e R s m args below meth c H locs cells slots Q (F0 m pc ls (.int xv :: .int xi :: .ref (ar 4) :: rest)) := by
  obtain ⟨M, hM, hR⟩ := h
  subst hx
  refine mg_iast X hM hdg (hR.2.1 4 rfl) (vp_in_nI (by show i < 16; exact hi) (by decide)) (fun H1 locs1 h1 => kk H1 locs1 ⟨_, h1, hR.ro rfl ?_ (fun j hj => rowM_B hj)⟩)
  rw [nI_clamp (by omega)]
  exact upd_mon
theorem mr_callV (X : Cx p c s m cc own nL G) (h : mM G A H0 x ar N F B H locs) {index n : Nat} {y : MethodName} {bytes : ByteArray} {maxL : Nat} {ret : Option FieldType} {rm : Room} {As : List Value} {Post : MPost} (K : mCk own index y bytes maxL ret n) (hi : Cond.instanceMethod y ∈ KTW) (hs : Cond.selects RX7 y y ∈ KTW)
    (hdg : decode cc pc = .ok (.invokevirtual index, 3)) (hC : MMet l y bytes maxL ret rm G x ar (.ref x :: As) N F B Post) (hn : As.length = n) {lv : List (Nat × Value)} (hls : lv_has ls nL lv) (hst : st0 = As.reverse ++ .ref x :: rest) (hW : (rest.map fun v => v.category).sum ≤ 8) (hR : rm.frames + 1 ≤ R.frames ∧ 8 + (maxL + 11) + rm.locals ≤ R.locals) (hf : cells + rm.cells ≤ R.cells ∧ slots + rm.slots ≤ R.slots)
    (kk : ∀ (r : Option Value) (N1 : Nat → Nat) (F1 : Nat → Nat → Nat) (B1 : Nat → Int32) (H1 : Heap) (locs1 : List Loc), Post r N1 F1 B1 → mM G A H0 x ar N1 F1 B1 H1 locs1 → W p l e R s m args below meth c H1 locs1 (cells + rm.cells) (slots + rm.slots) Q (F0 m (pc + 3) ls (r.toList ++ rest))) : W p l e R s m args below meth c H locs cells slots Q (F0 m pc ls st0) := by
  obtain ⟨M, hM, hRM⟩ := h
  exact m_callV X hM K hi hs (ci := 8) rfl hdg (hC M hRM) hRM.1 hn hls hst hW hR hf (fun r M1 H1 locs1 ⟨N1, F1, B1, hp, h1⟩ hM1 => kk r N1 F1 B1 H1 locs1 hp ⟨M1, hM1, h1⟩)
theorem mr_callS (X : Cx p c s m cc own nL G) (h : mM G A H0 x ar N F B H locs) {index n : Nat} {y : MethodName} {bytes : ByteArray} {maxL : Nat} {ret : Option FieldType} {rm : Room} {As : List Value} {Post : MPost} (K : mCk own index y bytes maxL ret n) (hs : Cond.static y ∈ KTW)
    (hdg : decode cc pc = .ok (.invokestatic index, 3)) (hC : MMet l y bytes maxL ret rm G x ar As N F B Post) (hn : As.length = n) {lv : List (Nat × Value)} (hls : lv_has ls nL lv) (hst : st0 = As.reverse ++ rest) (hW : (rest.map fun v => v.category).sum ≤ 8) (hR : rm.frames + 1 ≤ R.frames ∧ 8 + (maxL + 11) + rm.locals ≤ R.locals) (hf : cells + rm.cells ≤ R.cells ∧ slots + rm.slots ≤ R.slots)
    (kk : ∀ (r : Option Value) (N1 : Nat → Nat) (F1 : Nat → Nat → Nat) (B1 : Nat → Int32) (H1 : Heap) (locs1 : List Loc), Post r N1 F1 B1 → mM G A H0 x ar N1 F1 B1 H1 locs1 → W p l e R s m args below meth c H1 locs1 (cells + rm.cells) (slots + rm.slots) Q (F0 m (pc + 3) ls (r.toList ++ rest))) : W p l e R s m args below meth c H locs cells slots Q (F0 m pc ls st0) := by
  obtain ⟨M, hM, hRM⟩ := h
  exact m_callS X hM K hs hdg (hC M hRM) hn hls hst hW hR hf (fun r M1 H1 locs1 ⟨N1, F1, B1, hp, h1⟩ hM1 => kk r N1 F1 B1 H1 locs1 hp ⟨M1, hM1, h1⟩)
theorem mr_iret {Post : MPost} {mc ms : Nat} {v : Int32} (X : Cx p c s m cc own nL G) (hr : meth.sig.returnType = some .int) (hlocks : meth.locks = false) (h : mM G A s.heap x ar N F B H locs) (hdg : decode cc pc = .ok (.ireturn, 1)) (hcs : cells ≤ mc ∧ slots ≤ ms) (hp : Post (some (.int v)) N F B) : W p l e R s m args below meth c H locs cells slots (MZ G A x ar Post below args s mc ms) (F0 m pc ls [.int v]) := by
  obtain ⟨M, hM, hRM⟩ := h
  exact m_iret X hr hlocks hM hdg hcs ⟨N, F, B, hp, hRM⟩
theorem mr_zret {Post : MPost} {mc ms : Nat} {v : Int32} {ty : FieldType} (X : Cx p c s m cc own nL G) (hr : meth.sig.returnType = some ty) (hlocks : meth.locks = false) (h : mM G A s.heap x ar N F B H locs) (hdg : decode cc pc = .ok (.ireturn, 1)) (hcs : cells ≤ mc ∧ slots ≤ ms) (hn : narrow ty (.int v) = .int v) (hp : Post (some (.int v)) N F B) : W p l e R s m args below meth c H locs cells slots (MZ G A x ar Post below args s mc ms) (F0 m pc ls [.int v]) := by
  obtain ⟨M, hM, hRM⟩ := h
  exact m_zret X hr hlocks hM hdg hcs hn ⟨N, F, B, hp, hRM⟩
theorem mr_vret {Post : MPost} {mc ms : Nat} (X : Cx p c s m cc own nL G) (hr : meth.sig.returnType = none) (hlocks : meth.locks = false) (h : mM G A s.heap x ar N F B H locs) (hdg : decode cc pc = .ok (.return_, 1)) (hcs : cells ≤ mc ∧ slots ≤ ms) (hp : Post none N F B) : W p l e R s m args below meth c H locs cells slots (MZ G A x ar Post below args s mc ms) (F0 m pc ls []) := by
  obtain ⟨M, hM, hRM⟩ := h
  exact m_vret X hr hlocks hM hdg hcs ⟨N, F, B, hp, hRM⟩
end MODEL
