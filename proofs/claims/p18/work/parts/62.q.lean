/-! The law's world: the class's state C beside the law's own arrays, which hold the state D -/
abbrev LSt : Type := (Nat → Nat) × (Nat → Nat → Nat) × (Nat → Int32)
def lenL (k : Nat) : Nat := if k = 0 then 48 else if k ≤ 2 then 60 else if k ≤ 7 then 36 else if k = 8 then 60 else 9
theorem lenL_le (k : Nat) : lenL k ≤ 60 := by unfold lenL; split <;> (try split) <;> (try split) <;> (try split) <;> omega
def LA (G : mG) (ar : Nat → Nat) (V : Nat → Nat → Int32) (M : Mem) : Prop := (∀ k, k < 10 → M (ar k) = some (.inl (G.2 0, lenL k, .inl (V k)))) ∧ ∀ k k', k < 10 → k' < 10 → ar k = ar k' → k = k'
def mvS (F : Nat → Nat → Nat) (j : Nat) : Nat := F 7 j + 16 * F 8 j + 256 * F 9 j + 1024 * F 11 j
def kvS (F : Nat → Nat → Nat) (k : Nat) : Nat := F 14 k + 16 * F 15 k
def hvS (F : Nat → Nat → Nat) (k : Nat) : Nat := F 16 k + 32 * F 17 k + 1024 * F 18 k
def svS (F : Nat → Nat → Nat) (i : Nat) : Nat := F 22 i + 16 * F 23 i + 256 * F 24 i
/-- what the law's arrays hold: p m d k h u f n s g are 0 .. 9 -/
def LR (N : Nat → Nat) (F : Nat → Nat → Nat) (B : Nat → Int32) (V : Nat → Nat → Int32) : Prop :=
  ((∀ i, i < N 1 → V 0 i = nI (F 2 i) - 1) ∧ (∀ i, i < 16 → V 0 (16 + i) = nI (F 3 i)) ∧ ∀ i, i < 16 → V 0 (32 + i) = B i) ∧
  ((∀ j, j < N 6 → V 1 j = nI (mvS F j)) ∧ ∀ j, j < N 6 → V 2 j = nI (F 10 j)) ∧
  ((∀ k, k < N 13 → V 3 k = nI (kvS F k)) ∧ (∀ k, k < N 13 → V 4 k = nI (hvS F k)) ∧ ∀ k, k < 36 → V 5 k = nI (F 19 k)) ∧
  ((∀ k, k < 36 → V 6 k = nI (if k < N 13 then F 20 k else 0)) ∧ ∀ k, k < 36 → V 7 k = nI (if k < N 13 then F 21 k else 0)) ∧
  (∀ k i, k < N 13 → i < F 21 k → V 8 (10 * k + i) = nI (svS F (20 * k + i))) ∧
  (V 9 0 = nI (N 0) ∧ V 9 1 = nI (N 1) ∧ V 9 2 = nI (N 6) ∧ V 9 3 = nI (N 12) ∧ V 9 4 = nI (N 13) ∧ ∀ r, r < 4 → V 9 (5 + r) = nI (F 5 r)) ∧
  N 6 ≤ 60 ∧ ∀ k, k < N 13 → F 21 k ≤ 10 ∧ (5 < k → F 21 k = 0)
theorem mJ_put {M0 M1 : Mem} {a : Nat} {e : va_E} (h : M0 a = none) : mU (mJ M0 M1) a e = mJ M0 (mU M1 a e) := by
  funext q
  by_cases hq : q = a
  · subst hq
    rw [mU_eq, mJ_n h, mU_eq]
  · rw [mU_ne hq]
    cases h0 : M0 q with
    | some e0 => rw [mJ_l h0, mJ_l h0]
    | none => rw [mJ_n h0, mJ_n h0, mU_ne hq]
theorem mDj.put {M0 M1 : Mem} (d : mDj M0 M1) {a : Nat} {e : va_E} (h : M0 a = none) : mDj M0 (mU M1 a e) := fun q e0 hq => by
  rw [mU_ne (fun z => by subst z; rw [h] at hq; cases hq)]
  exact d q e0 hq
theorem LA.put {G : mG} {ar : Nat → Nat} {V : Nat → Nat → Int32} {M : Mem} (h : LA G ar V M) {k : Nat} (hk : k < 10) (g : Nat → Int32) : LA G ar (va_up V k g) (mU M (ar k) (.inl (G.2 0, lenL k, .inl g))) := by
  refine ⟨fun j hj => ?_, h.2⟩
  by_cases hjk : j = k
  · subst hjk
    rw [mU_eq, va_up_at]
  · rw [mU_ne (fun q => hjk (h.2 j k hj hk q)), va_up_off V g hjk]
    exact h.1 j hj
theorem CS.cell {G : mG} {x : Nat} {N : Nat → Nat} {F : Nat → Nat → Nat} {B : Nat → Int32} {M : Mem} (h : CS G x N F B M) : ∃ fs : List Value, M x = some (.inr (7, fs)) := by
  obtain ⟨ad, E, P, Q, hx, R, -⟩ := h
  exact ⟨_, by rw [← hx]; exact R.1 0 0 rfl⟩
def qIn (G : mG) (x : Nat) (ar : Nat → Nat) (C D : LSt) (M : Mem) : Prop := ∃ (MC ML : Mem) (V : Nat → Nat → Int32), M = mJ MC ML ∧ mDj MC ML ∧ CS G x C.1 C.2.1 C.2.2 MC ∧ LA G ar V ML ∧ LR D.1 D.2.1 D.2.2 V
def qM (G : mG) (A : Nat → Prop) (s : State) (x : Nat) (ar : Nat → Nat) (C D : LSt) (H : Heap) (locs : List Loc) : Prop := ∃ M : Mem, mW G A s.heap M H locs ∧ qIn G x ar C D M
/-! contracts of the law's methods -/
def nMet (l : Launch) (y : MethodName) (bc : ByteArray) (nL : Nat) (ret : Option FieldType) (rm : Room) (G : mG) (av : List Value) (M : Mem) (Post : Option Value → Mem → Prop) : Prop :=
  ∀ (A : Nat → Prop) (sz : Nat), Met l y [.code y bc nL ret] rm (lPre G A sz av M) (mQ G A Post) rm.cells rm.slots A
abbrev QPo : Type := Option Value → LSt → LSt → Prop
def qPo (G : mG) (x : Nat) (ar : Nat → Nat) (Post : QPo) : Option Value → Mem → Prop := fun r M' => ∃ C' D' : LSt, Post r C' D' ∧ qIn G x ar C' D' M'
def QMet (l : Launch) (y : MethodName) (bc : ByteArray) (nL : Nat) (ret : Option FieldType) (rm : Room) (G : mG) (x : Nat) (ar : Nat → Nat) (av : List Value) (C D : LSt) (Post : QPo) : Prop :=
  ∀ M : Mem, qIn G x ar C D M → nMet l y bc nL ret rm G av M (qPo G x ar Post)
def QLMet (l : Launch) (y : MethodName) (bc : ByteArray) (nL : Nat) (ret : Option FieldType) (hh : List (Nat × Nat × Nat × Nat)) (rm : Room) (G : mG) (x : Nat) (ar : Nat → Nat) (av : List Value) (C D : LSt) (Post : QPo) : Prop :=
  ∀ M : Mem, qIn G x ar C D M → lMet l y bc nL ret hh rm G av M (qPo G x ar Post)
abbrev QZ (G : mG) (A : Nat → Prop) (x : Nat) (ar : Nat → Nat) (Post : QPo) (below : List Frame) (args : Array Value) (s : State) (mc ms : Nat) : State → Prop := MQ below (mQ G A (qPo G x ar Post)) args s mc ms A
section QMET
variable {p : Program} {l : Launch} {e : Env} {R : Room} {s : State} {m : MethodId} {args : Array Value} {below : List Frame} {meth : Method} {c : Code} {H : Heap} {locs : List Loc} {cells slots : Nat} {Q : State → Prop}
variable {cc : ByteArray} {pc nL : Nat} {ls : Array Slot} {st0 rest : List Value} {G : mG} {A : Nat → Prop} {a : Nat} {M : Mem} {own : String} {x : Nat} {ar : Nat → Nat} {C D : LSt}
theorem nMet.of {y : MethodName} {bc : ByteArray} {ret : Option FieldType} {rm : Room} {av : List Value} {Post : Option Value → Mem → Prop} (hy : plainName y.cls = true) (hav : (lg_sl av).length ≤ nL)
    (body : ∀ (p : Program) (e : Env) (s : State) (m : MethodId) (args : Array Value) (below : List Frame) (meth : Method) (c : Code) (A : Nat → Prop) (ls : Array Slot), Cx p c s m bc y.cls nL G → meth.sig.returnType = ret → meth.locks = false → XS s → XZ G A s s.heap → NC s → mW G A s.heap M s.heap [] → lv_has ls nL (lv_args 0 av) →
      W p l e rm s m args below meth c s.heap [] 0 0 (MQ below (mQ G A Post) args s rm.cells rm.slots A) (F0 m 0 ls [])) : nMet l y bc nL ret rm G av M Post := by
  intro A sz
  refine Met.ofW (cc := bc) (maxL := nL) (ret := ret) (ws' := []) hy rfl ?_
  intro p e s m args below meth c s₁ B hml hv
  obtain ⟨⟨⟨rfl, hsz, h3, h4, h5, h6, h7⟩, hS, hZ⟩, hN⟩ := hv
  rw [lg_entry_eq]
  exact body p e s m _ below meth c A _ ⟨B.exec, B.bytes, hml, findClass_of_methodNamed B.named, h3, h4⟩ B.returns B.notSynchronized hS hZ hN ⟨h5, h6, va_S.rf, fun q hq => h7 q (by rw [← hsz]; exact hq)⟩ (lv_entry av hav)
theorem QMet.of {y : MethodName} {bc : ByteArray} {ret : Option FieldType} {rm : Room} {av : List Value} {Post : QPo} (hy : plainName y.cls = true) (hav : (lg_sl av).length ≤ nL)
    (body : ∀ (p : Program) (e : Env) (s : State) (m : MethodId) (args : Array Value) (below : List Frame) (meth : Method) (c : Code) (A : Nat → Prop) (ls : Array Slot), Cx p c s m bc y.cls nL G → meth.sig.returnType = ret → meth.locks = false → XS s → XZ G A s s.heap → NC s → qM G A s x ar C D s.heap [] → lv_has ls nL (lv_args 0 av) →
      W p l e rm s m args below meth c s.heap [] 0 0 (QZ G A x ar Post below args s rm.cells rm.slots) (F0 m 0 ls [])) : QMet l y bc nL ret rm G x ar av C D Post :=
  fun M hq => nMet.of hy hav (fun p e s m args below meth c A ls X hr hlocks hS hZ hN hM hl => body p e s m args below meth c A ls X hr hlocks hS hZ hN ⟨M, hM, hq⟩ hl)
theorem QLMet.of {y : MethodName} {bc : ByteArray} {ret : Option FieldType} {hh : List (Nat × Nat × Nat × Nat)} {rm : Room} {av : List Value} {Post : QPo} (hy : plainName y.cls = true) (hav : (lg_sl av).length ≤ nL)
    (body : ∀ (p : Program) (e : Env) (s : State) (m : MethodId) (args : Array Value) (below : List Frame) (meth : Method) (c : Code) (A : Nat → Prop) (ls : Array Slot), Cx p c s m bc y.cls nL G → meth.sig.returnType = ret → meth.locks = false → XS s → XZ G A s s.heap → NC s → qM G A s x ar C D s.heap [] → lv_has ls nL (lv_args 0 av) → c.exceptionTable.toList = tableOf hh →
      W p l e rm s m args below meth c s.heap [] 0 0 (QZ G A x ar Post below args s rm.cells rm.slots) (F0 m 0 ls [])) : QLMet l y bc nL ret hh rm G x ar av C D Post :=
  fun M hq => lMet.of hy hav (fun p e s m args below meth c A ls X hr hlocks hM hl hS hZ hN ht => body p e s m args below meth c A ls X hr hlocks hS hZ hN ⟨M, hM, hq⟩ hl ht)
theorem q_ald {N : Nat → Nat} {F : Nat → Nat → Nat} {B : Nat → Int32} (X : Cx p c s m cc own nL G) (h : qM G A s x ar C (N, F, B) H locs) (k : Nat) (hk : k < 10) (hdg : decode cc pc = .ok (.iaload, 1)) {i : Nat} {xi v : Int32} (hx : xi = nI i) (hi : i < lenL k) (hv : ∀ V, LR N F B V → V k i = v)
    (kk : W p l e R s m args below meth c H locs cells slots Q (F0 m (pc + 1) ls (.int v :: rest))) : W p l e R s m args below meth c H locs cells slots Q (F0 m pc ls (.int xi :: .ref (ar k) :: rest)) := by
  obtain ⟨M, hM, MC, ML, V, rfl, d, cs, la, lr⟩ := h
  subst hx
  have hl := lenL_le k
  refine mg_iald X hM hdg (mJ_r d (la.1 k hk)) (vp_in_nI hi (by omega)) ?_
  rw [nI_clamp (by omega), hv V lr]
  exact kk
theorem q_ast {N : Nat → Nat} {F : Nat → Nat → Nat} {B : Nat → Int32} (X : Cx p c s m cc own nL G) (h : qM G A s x ar C (N, F, B) H locs) (k : Nat) (hk : k < 10) (hdg : decode cc pc = .ok (.iastore, 1)) {i : Nat} {xi w : Int32} (N' : Nat → Nat) (F' : Nat → Nat → Nat) (B' : Nat → Int32) (hx : xi = nI i) (hi : i < lenL k) (hv : ∀ V, LR N F B V → LR N' F' B' (va_up V k (upd (V k) i w)))
    (kk : ∀ (H1 : Heap) (locs1 : List Loc), qM G A s x ar C (N', F', B') H1 locs1 → W p l e R s m args below meth c H1 locs1 cells slots Q (F0 m (pc + 1) ls rest)) : W p l e R s m args below meth c H locs cells slots Q (F0 m pc ls (.int w :: .int xi :: .ref (ar k) :: rest)) := by
  obtain ⟨M, hM, MC, ML, V, rfl, d, cs, la, lr⟩ := h
  subst hx
  have hl := lenL_le k
  refine mg_iast X hM hdg (mJ_r d (la.1 k hk)) (vp_in_nI hi (by omega)) (fun H1 locs1 h1 => kk H1 locs1 ⟨_, h1, ?_⟩)
  have hn := d.off (la.1 k hk)
  rw [nI_clamp (by omega), mJ_put hn]
  exact ⟨MC, _, _, rfl, d.put hn, cs, la.put hk _, hv V lr⟩
theorem q_call (X : Cx p c s m cc own nL G) (hS : XS s) (hZ : XZ G A s s.heap) (hN : NC s) (h : qM G A s x ar C D H locs) {index n : Nat} {y : MethodName} {bytes : ByteArray} {maxL : Nat} {ret : Option FieldType} {rm : Room} {As : List Value} {Post : QPo} (K : mCk own index y bytes maxL ret n) (hs : Cond.static y ∈ KTW)
    (hdg : decode cc pc = .ok (.invokestatic index, 3)) (hC : QMet l y bytes maxL ret rm G x ar As C D Post) (hn : As.length = n) {lv : List (Nat × Value)} (hls : lv_has ls nL lv) (hst : st0 = As.reverse ++ rest) (hW : (rest.map fun v => v.category).sum ≤ 8) (hR : rm.frames + 1 ≤ R.frames ∧ 8 + (maxL + 11) + rm.locals ≤ R.locals) (hf : cells + rm.cells ≤ R.cells ∧ slots + rm.slots ≤ R.slots)
    (kk : ∀ (r : Option Value) (C1 D1 : LSt) (H1 : Heap) (locs1 : List Loc), Post r C1 D1 → qM G A s x ar C1 D1 H1 locs1 → W p l e R s m args below meth c H1 locs1 (cells + rm.cells) (slots + rm.slots) Q (F0 m (pc + 3) ls (r.toList ++ rest))) : W p l e R s m args below meth c H locs cells slots Q (F0 m pc ls st0) := by
  subst hst
  obtain ⟨k1, k2, k3, k4, k5⟩ := K
  obtain ⟨M, hM, hq⟩ := h
  have hKT := X.2.2.2.2.1
  exact m_call (va_runS (As := As) (rest := rest) (g := F0 m pc ls (As.reverse ++ rest)) (Ts := KTW) ⟨X.1, X.2.1, X.2.2.1, X.2.2.2.1, hKT.ws⟩ (hC M hq A H.size) ⟨⟨rfl, rfl, hR.1, hR.2, m_w1 hKT k1, List.mem_singleton.mpr rfl, hKT.use k1, hKT.use k2, k3, k4, hKT.use k5⟩, hKT.use hs⟩ ⟨lPre.blind, fun U hU hW => lPre.at X hM hS hZ hN hU hW⟩ rfl hn hls.1 rfl (by show 2 * 0 + _ ≤ 8; omega) hdg hf) hM (fun r M1 H1 locs1 ⟨C1, D1, hp, h1⟩ hM1 => kk r C1 D1 H1 locs1 hp ⟨M1, hM1, h1⟩)
theorem q_callL (X : Cx p c s m cc own nL G) (hS : XS s) (hZ : XZ G A s s.heap) (hN : NC s) (h : qM G A s x ar C D H locs) {index n : Nat} {y : MethodName} {bytes : ByteArray} {maxL : Nat} {ret : Option FieldType} {hh : List (Nat × Nat × Nat × Nat)} {rm : Room} {As : List Value} {Post : QPo} (k1 : Cond.codeWith y bytes maxL ret hh ∈ KTW) (k2 : Cond.initialized y.cls ∈ KTW) (k3 : y.cls ≠ "java/lang/invoke/MethodHandle" ∧ y.cls ≠ "java/lang/invoke/VarHandle") (k4 : ∀ sig, parseMethodDescriptor y.desc = some sig → n = sig.parameters.length) (k5 : Cond.methodLink own index y ∈ KTW) (hs : Cond.static y ∈ KTW)
    (hdg : decode cc pc = .ok (.invokestatic index, 3)) (hC : QLMet l y bytes maxL ret hh rm G x ar As C D Post) (hn : As.length = n) {lv : List (Nat × Value)} (hls : lv_has ls nL lv) (hst : st0 = As.reverse ++ rest) (hW : (rest.map fun v => v.category).sum ≤ 8) (hR : rm.frames + 1 ≤ R.frames ∧ 8 + (maxL + 11) + rm.locals ≤ R.locals) (hf : cells + rm.cells ≤ R.cells ∧ slots + rm.slots ≤ R.slots)
    (kk : ∀ (r : Option Value) (C1 D1 : LSt) (H1 : Heap) (locs1 : List Loc), Post r C1 D1 → qM G A s x ar C1 D1 H1 locs1 → W p l e R s m args below meth c H1 locs1 (cells + rm.cells) (slots + rm.slots) Q (F0 m (pc + 3) ls (r.toList ++ rest))) : W p l e R s m args below meth c H locs cells slots Q (F0 m pc ls st0) := by
  obtain ⟨M, hM, hq⟩ := h
  exact l_callS X hM hS hZ hN k1 k2 k3 k4 k5 hs hdg (hC M hq) hn hls hst hW hR hf (fun r M1 H1 locs1 ⟨C1, D1, hp, h1⟩ hM1 => kk r C1 D1 H1 locs1 hp ⟨M1, hM1, h1⟩)
/-- a call of the class; where it throws -/
theorem q_callE (X : Cx p c s m cc own nL G) (hS : XS s) (hZ : XZ G A s s.heap) (h : qM G A s x ar C D H locs) {index n : Nat} {y : MethodName} {bytes : ByteArray} {maxL : Nat} {ret : Option FieldType} {rm : Room} {As : List Value} {C1 : LSt} {v : Int32} {K : Nat} {PX : String → Prop} (K0 : mCk own index y bytes maxL ret n) (hi : Cond.instanceMethod y ∈ KTW) (hs : Cond.selects RX6 y y ∈ KTW)
    (hdg : decode cc pc = .ok (.invokevirtual index, 3)) (hC : ∀ MC : Mem, CS G x C.1 C.2.1 C.2.2 MC → xMet l y bytes maxL ret rm G (.ref x :: As) MC (fun r M' => K = 0 ∧ r = some (.int v) ∧ CS G x C1.1 C1.2.1 C1.2.2 M') (fun E9 M' => CS G x C.1 C.2.1 C.2.2 M' ∧ PX E9)) (hn : As.length = n) {lv : List (Nat × Value)} (hls : lv_has ls nL lv) (hst : st0 = As.reverse ++ .ref x :: rest) (hW : (rest.map fun v => v.category).sum ≤ 8) (hR : rm.frames + 1 ≤ R.frames ∧ 8 + (maxL + 11) + rm.locals ≤ R.locals) (hf : cells + rm.cells ≤ R.cells ∧ slots + rm.slots ≤ R.slots)
    (kx : ∀ (E9 : String) (ce : Cell) (q9 : Addr) (H1 : Heap) (locs1 : List Loc), PX E9 → qM G A s x ar C D H1 locs1 → H1[q9]? = some ce → ce.vm = .none → s.vm.findClass E9 = some ce.cls → vx_W p l e R s m args below meth c H1 locs1 (cells + rm.cells) (slots + rm.slots) Q (F0 m pc ls rest) q9)
    (kk : ∀ (H1 : Heap) (locs1 : List Loc), K = 0 → qM G A s x ar C1 D H1 locs1 → W p l e R s m args below meth c H1 locs1 (cells + rm.cells) (slots + rm.slots) Q (F0 m (pc + 3) ls (.int v :: rest))) : W p l e R s m args below meth c H locs cells slots Q (F0 m pc ls st0) := by
  obtain ⟨M, hM, MC, ML, V, rfl, d, cs, la, lr⟩ := h
  obtain ⟨fs, hcx⟩ := cs.cell
  refine xm_callV X hM hS hZ K0 hi hs (ci := 7) rfl hdg ((hC MC cs).fr d) (mJ_l hcx) hn hls hst hW hR hf (fun E9 ce q9 M1 H1 locs1 hp hM1 g1 g2 g3 => ?_) (fun r M1 H1 locs1 hp hM1 => ?_)
  · obtain ⟨M2, ⟨hcs, hx⟩, dj, rfl⟩ := hp
    exact kx E9 ce q9 H1 locs1 hx ⟨_, hM1, M2, ML, V, rfl, dj, hcs, la, lr⟩ g1 g2 g3
  · obtain ⟨M2, ⟨hk, rfl, hcs⟩, dj, rfl⟩ := hp
    exact kk H1 locs1 hk ⟨_, hM1, M2, ML, V, rfl, dj, hcs, la, lr⟩
/-- a call of the class that doesn't throw -/
theorem q_callX (X : Cx p c s m cc own nL G) (hS : XS s) (hZ : XZ G A s s.heap) (h : qM G A s x ar C D H locs) {index n : Nat} {y : MethodName} {bytes : ByteArray} {maxL : Nat} {ret : Option FieldType} {rm : Room} {As : List Value} {C1 : LSt} {v : Int32} {K : Nat} {PX : String → Prop} (K0 : mCk own index y bytes maxL ret n) (hi : Cond.instanceMethod y ∈ KTW) (hs : Cond.selects RX6 y y ∈ KTW)
    (hdg : decode cc pc = .ok (.invokevirtual index, 3)) (hC : ∀ MC : Mem, CS G x C.1 C.2.1 C.2.2 MC → xMet l y bytes maxL ret rm G (.ref x :: As) MC (fun r M' => K = 0 ∧ r = some (.int v) ∧ CS G x C1.1 C1.2.1 C1.2.2 M') (fun E9 M' => CS G x C.1 C.2.1 C.2.2 M' ∧ PX E9)) (hno : ∀ E9, ¬ PX E9) (hn : As.length = n) {lv : List (Nat × Value)} (hls : lv_has ls nL lv) (hst : st0 = As.reverse ++ .ref x :: rest) (hW : (rest.map fun v => v.category).sum ≤ 8) (hR : rm.frames + 1 ≤ R.frames ∧ 8 + (maxL + 11) + rm.locals ≤ R.locals) (hf : cells + rm.cells ≤ R.cells ∧ slots + rm.slots ≤ R.slots)
    (kk : ∀ (H1 : Heap) (locs1 : List Loc), qM G A s x ar C1 D H1 locs1 → W p l e R s m args below meth c H1 locs1 (cells + rm.cells) (slots + rm.slots) Q (F0 m (pc + 3) ls (.int v :: rest))) : W p l e R s m args below meth c H locs cells slots Q (F0 m pc ls st0) :=
  q_callE X hS hZ h K0 hi hs hdg hC hn hls hst hW hR hf (fun E9 _ _ _ _ hx => absurd hx (hno E9)) (fun H1 locs1 _ h1 => kk H1 locs1 h1)
theorem q_iret {Post : QPo} {mc ms : Nat} {v : Int32} (X : Cx p c s m cc own nL G) (hr : meth.sig.returnType = some .int) (hlocks : meth.locks = false) (h : qM G A s x ar C D H locs) (hdg : decode cc pc = .ok (.ireturn, 1)) (hcs : cells ≤ mc ∧ slots ≤ ms) (hp : Post (some (.int v)) C D) : W p l e R s m args below meth c H locs cells slots (QZ G A x ar Post below args s mc ms) (F0 m pc ls [.int v]) := by
  obtain ⟨M, hM, hq⟩ := h
  exact m_iret X hr hlocks hM hdg hcs ⟨C, D, hp, hq⟩
theorem q_zret {Post : QPo} {mc ms : Nat} {v : Int32} {ty : FieldType} (X : Cx p c s m cc own nL G) (hr : meth.sig.returnType = some ty) (hlocks : meth.locks = false) (h : qM G A s x ar C D H locs) (hdg : decode cc pc = .ok (.ireturn, 1)) (hcs : cells ≤ mc ∧ slots ≤ ms) (hn : narrow ty (.int v) = .int v) (hp : Post (some (.int v)) C D) : W p l e R s m args below meth c H locs cells slots (QZ G A x ar Post below args s mc ms) (F0 m pc ls [.int v]) := by
  obtain ⟨M, hM, hq⟩ := h
  exact m_zret X hr hlocks hM hdg hcs hn ⟨C, D, hp, hq⟩
theorem q_vret {Post : QPo} {mc ms : Nat} (X : Cx p c s m cc own nL G) (hr : meth.sig.returnType = none) (hlocks : meth.locks = false) (h : qM G A s x ar C D H locs) (hdg : decode cc pc = .ok (.return_, 1)) (hcs : cells ≤ mc ∧ slots ≤ ms) (hp : Post none C D) : W p l e R s m args below meth c H locs cells slots (QZ G A x ar Post below args s mc ms) (F0 m pc ls []) := by
  obtain ⟨M, hM, hq⟩ := h
  exact m_vret X hr hlocks hM hdg hcs ⟨C, D, hp, hq⟩
end QMET
