/-! Methods that may throw, over a memory -/
abbrev EIS : String := "java/lang/IllegalStateException"
abbrev EIA : String := "java/lang/IllegalArgumentException"
abbrev EIO : String := "java/lang/IndexOutOfBoundsException"
abbrev ENm : List String := ["java/lang/RuntimeException", "java/lang/Exception"]
theorem xh_55 : ∀ w ∈ Cond.classLink RX6 51 EIS :: Cond.initialized EIS :: vx_atS RX6 55 EIS ENm, w ∈ KTW := by decide +kernel
theorem xh_67 : ∀ w ∈ Cond.classLink RX6 63 EIA :: Cond.initialized EIA :: vx_atS RX6 67 EIA ENm, w ∈ KTW := by decide +kernel
theorem xh_227 : ∀ w ∈ Cond.classLink RX6 223 EIO :: Cond.initialized EIO :: vx_atS RX6 227 EIO ENm, w ∈ KTW := by decide +kernel
theorem xg_55 : ∀ w ∈ Cond.classLink RX6 51 EIS :: Cond.initialized EIS :: vx_atS RX6 55 EIS ENm, vx_ot w = true := by decide +kernel
theorem xg_67 : ∀ w ∈ Cond.classLink RX6 63 EIA :: Cond.initialized EIA :: vx_atS RX6 67 EIA ENm, vx_ot w = true := by decide +kernel
theorem xg_227 : ∀ w ∈ Cond.classLink RX6 223 EIO :: Cond.initialized EIO :: vx_atS RX6 227 EIO ENm, vx_ot w = true := by decide +kernel
/-- the texts that it throws with -/
def xsL : List (Nat × String) := [(53, "no more players"), (247, "no such region"), (65, "no such room"), (245, "no such player"), (78, "winner and loser are the same"), (87, "no room for the match"), (96, "a player is banned"), (107, "the last season is on"), (253, "no such skin"), (117, "no such price"), (130, "the skin can't be sold so now"), (136, "no such days of lending"), (138, "the skin can't be lent so now"), (146, "no such day of a proof"), (160, "nothing is proven"), (165, "no such days of a ban"), (170, "no such days to pass"), (249, "no such match"), (251, "no such season"), (194, "nothing such of a ranking"), (218, "nothing such of a skin"), (225, "no such place of a label")]
abbrev wEns : Cond := Cond.selects RJ4 yJ5_ensureCapacityInternal_d00df yJ5_ensureCapacityInternal_d00df
def XS (U : State) : Prop := (∀ q ∈ xsL, ∃ a : Nat, vk_R RX6 q.1 q.2 a U) ∧ wEns.before #[] U = true
theorem XS.warm {s U : State} (hW : s.WarmedH U.vm) (h : XS s) : XS U := by
  refine ⟨fun q hq => ?_, KT.one hW (by decide +kernel) h.2⟩
  obtain ⟨a, ha⟩ := h.1 q hq
  exact ⟨a, vk_R.warm hW ha⟩
/-- a private method of a class above is what a call of it picks -/
theorem sel_priv {y : MethodName} {C : String} {s : State} {args : Array Value} {n : Nat} (hy : y.cls ≠ "java/lang/invoke/MethodHandle" ∧ y.cls ≠ "java/lang/invoke/VarHandle")
    (hins : (Cond.instantiable C n).before args s = true) (hinsY : ∃ (c : ClassId) (k : Class), s.vm.findClass y.cls = some c ∧ s.vm.classes[c]? = some k ∧ k.isInterface = false) (hpriv : (Cond.privateMethod y).before args s = true) (hinst : (Cond.instanceMethod y).before args s = true) :
    (Cond.selects C y y).before args s = true := by
  obtain ⟨c, k, hc, hk, -, hniab, -, -⟩ := Cond.instantiable_spec hins
  obtain ⟨mk, methM, hnamed, hmethM, -, -⟩ := Cond.instanceMethod_spec hinst
  have hfound : s.methodFound? y.cls y.name y.desc = some mk := State.methodFound?_of_named hnamed hy
  obtain ⟨c2, k2, hc2, hk2, hni⟩ := hinsY
  have hcls : mk.cls = c2 := Option.some.inj ((findClass_of_methodNamed hnamed).symm.trans hc2)
  have hsel : selectMethod {} s.vm c mk = .method mk := selectMethod_private hmethM (Cond.privateMethod_at hpriv mk methM hnamed hmethM)
  simp only [Cond.before, Cond.holds, Cond.value, hc, hfound, hnamed, hsel, hcls, hk2]
  simp; exact hni
/-- a static array of bytes that nobody writes -/
def bX (f : Nat → Int32) (d : Nat) (U : State) (H : Heap) : Prop := ∃ z : Cell, H[d]? = some z ∧ U.isArrayOf z .byte ∧ z.vm ≠ .unknown ∧ z.slots.size = 100 ∧ ∀ k : Nat, k < 100 → z.slots[k]? = some (.int (f k))
def JA (C n : String) (G : mG) (f : Nat → Int32) (A : Nat → Prop) (U : State) (H : Heap) : Prop := ∃ d : Nat, va_Z C n "[B" (.ref d) A U H ∧ ¬ A d ∧ bX f d U H
theorem JA.moved {C n : String} {G : mG} {f : Nat → Int32} {A : Nat → Prop} {u U : State} {H : Heap} (hvm : u.vm.Alike U.vm) (h : JA C n G f A u H) : JA C n G f A U H := by
  obtain ⟨d, h1, h2, z, h3, h4, h5⟩ := h
  exact ⟨d, va_Z.moved hvm h1, h2, z, h3, State.isArrayOf_alike hvm h4, h5⟩
theorem JA.kept {C n : String} {G : mG} {f : Nat → Int32} {A : Nat → Prop} {U : State} {H H1 : Heap} (h : JA C n G f A U H) (hq : ∀ a : Nat, a < H.size → ¬ A a → H1[a]? = H[a]?) : JA C n G f A U H1 := by
  obtain ⟨d, h1, h2, z, h3, h4⟩ := h
  exact ⟨d, va_Z.kept h1 hq, h2, z, by rw [hq d (Array.getElem?_eq_some_iff.mp h3).1 h2]; exact h3, h4⟩
/-- what texts are made with -/
def dgO : Nat → Int32 := fun k => nI (48 + k % 10)
def dgT : Nat → Int32 := fun k => nI (48 + k / 10)
def JZ (G : mG) (A : Nat → Prop) (U : State) (H : Heap) : Prop := va_Z "java/lang/String" "COMPACT_STRINGS" "Z" (.int 1) A U H ∧ (∃ f, (∀ k, k < 100 → f k = dgO k) ∧ JA "java/lang/Integer" "DigitOnes" G f A U H) ∧ (∃ f, (∀ k, k < 100 → f k = dgT k) ∧ JA "java/lang/Integer" "DigitTens" G f A U H) ∧ va_Zq "jdk/internal/util/Preconditions" "SIOOBE_FORMATTER" "Ljava/util/function/BiFunction;" A U H
theorem JZ.moved {G : mG} {A : Nat → Prop} {u U : State} {H : Heap} (hvm : u.vm.Alike U.vm) (h : JZ G A u H) : JZ G A U H := by
  obtain ⟨h1, ⟨f, hf, h2⟩, ⟨g, hg, h3⟩, h4⟩ := h
  exact ⟨va_Z.moved hvm h1, ⟨f, hf, h2.moved hvm⟩, ⟨g, hg, h3.moved hvm⟩, va_Zq.moved hvm h4⟩
theorem JZ.kept {G : mG} {A : Nat → Prop} {U : State} {H H1 : Heap} (h : JZ G A U H) (hq : ∀ a : Nat, a < H.size → ¬ A a → H1[a]? = H[a]?) : JZ G A U H1 := by
  obtain ⟨h1, ⟨f, hf, h2⟩, ⟨g, hg, h3⟩, h4⟩ := h
  exact ⟨va_Z.kept h1 hq, ⟨f, hf, h2.kept hq⟩, ⟨g, hg, h3.kept hq⟩, va_Zq.kept h4 hq⟩
def XZ (G : mG) (A : Nat → Prop) (U : State) (H : Heap) : Prop := vx_Zq Bundle.tN "UNASSIGNED_STACK" Bundle.steD A U H ∧ vx_Zq Bundle.tN "SUPPRESSED_SENTINEL" Bundle.listD A U H ∧ JZ G A U H
def xPre (G : mG) (A : Nat → Prop) (sz : Nat) (av : List Value) (M : Mem) : Array Value → State → Prop := fun a U => mPre G A sz av M a U ∧ XS U ∧ XZ G A U U.heap
/-- what holds where it throws -/
def xC (G : mG) (A : Nat → Prop) (PostX : String → Mem → Prop) : String → State → State → Prop := fun E st t => (∃ M' : Mem, PostX E M' ∧ mP G M' t.heap ∧ mIn A M') ∧ va_F A st t
def xMet (l : Launch) (y : MethodName) (bc : ByteArray) (nL : Nat) (ret : Option FieldType) (rm : Room) (G : mG) (av : List Value) (M : Mem) (Post : Option Value → Mem → Prop) (PostX : String → Mem → Prop) : Prop :=
  ∀ (A : Nat → Prop) (sz : Nat), vx_Met l y [.code y bc nL ret] rm (xPre G A sz av M) (mQ G A Post) (xC G A PostX) rm.cells rm.slots A
theorem xPre.blind {G : mG} {A : Nat → Prop} {sz : Nat} {av : List Value} {M : Mem} : FrameBlind (xPre G A sz av M) := by
  intro a U g mk h
  obtain ⟨h1, h2, h3, h4, h5⟩ := h
  exact ⟨mPre.blind a U g mk h1, XS.warm (s := U) (U := U.calling g mk a) (State.WarmedH.refl U) h2, vx_Zq.moved (u := U) (U := U.calling g mk a) (Vm.Alike.refl U.vm) h3, vx_Zq.moved (u := U) (U := U.calling g mk a) (Vm.Alike.refl U.vm) h4, JZ.moved (u := U) (U := U.calling g mk a) (Vm.Alike.refl U.vm) h5⟩
section XMET
variable {p : Program} {l : Launch} {e : Env} {R : Room} {s : State} {m : MethodId} {args : Array Value} {below : List Frame} {meth : Method} {c : Code} {H : Heap} {locs : List Loc} {cells slots : Nat} {Q : State → Prop}
variable {cc : ByteArray} {pc nL : Nat} {ls : Array Slot} {st0 rest : List Value} {G : mG} {A : Nat → Prop} {a : Nat} {M : Mem} {own : String} {H0 : Heap}
theorem xPre.at (X : Cx p c s m cc own nL G) (hM : mW G A s.heap M H locs) (hS : XS s) (hZ : XZ G A s s.heap) {av : List Value} {U : State} (hU : U.heap = H) (hW : s.WarmedH U.vm) : xPre G A H.size av M av.toArray U :=
  ⟨mPre.at X hM hU hW, XS.warm hW hS, by rw [hU]; exact vx_Zq.moved hW.alike (hZ.1.kept hM.2.2.1.2.1), by rw [hU]; exact vx_Zq.moved hW.alike (hZ.2.1.kept hM.2.2.1.2.1), by rw [hU]; exact JZ.moved hW.alike (hZ.2.2.kept hM.2.2.1.2.1)⟩
theorem xMet.of {y : MethodName} {bc : ByteArray} {ret : Option FieldType} {rm : Room} {av : List Value} {Post : Option Value → Mem → Prop} {PostX : String → Mem → Prop} (hy : plainName y.cls = true) (hav : (lg_sl av).length ≤ nL)
    (body : ∀ (p : Program) (e : Env) (s : State) (m : MethodId) (args : Array Value) (below : List Frame) (meth : Method) (c : Code) (A : Nat → Prop) (ls : Array Slot), Cx p c s m bc y.cls nL G → meth.sig.returnType = ret → meth.locks = false → meth.name = y.name → mW G A s.heap M s.heap [] → lv_has ls nL (lv_args 0 av) → XS s → XZ G A s s.heap → (∀ x ∈ c.exceptionTable.toList, False) →
      W p l e rm s m args below meth c s.heap [] 0 0 (vx_MQ below (mQ G A Post) (xC G A PostX) args s rm.cells rm.slots A) (F0 m 0 ls [])) : xMet l y bc nL ret rm G av M Post PostX := by
  intro A sz
  refine vx_ofW (cc := bc) (maxL := nL) (ret := ret) (ws' := []) hy rfl ?_
  intro p e s m args below meth c s₁ B hml ht hv
  obtain ⟨⟨rfl, hsz, h3, h4, h5, h6, h7⟩, hS, hZ⟩ := hv
  rw [lg_entry_eq]
  exact body p e s m _ below meth c A _ ⟨B.exec, B.bytes, hml, findClass_of_methodNamed B.named, h3, h4⟩ B.returns B.notSynchronized (name_of_methodNamed B.named B.method).1 ⟨h5, h6, va_S.rf, fun q hq => h7 q (by rw [← hsz]; exact hq)⟩ (lv_entry av hav) hS hZ ht
theorem x_out {E : String} {ce : Cell} {q : Addr} {mc ms : Nat} {Qc : Array Value → State → Outcome → State → Prop} {PostX : String → Mem → Prop} (ht : ∀ x ∈ c.exceptionTable.toList, False) (hlocks : meth.locks = false) (hM : mW G A s.heap M H locs) (h1 : H[q]? = some ce) (h2 : ce.vm = .none) (h3 : s.vm.findClass E = some ce.cls) (hcs : cells ≤ mc ∧ slots ≤ ms) (hp : PostX E M) :
    vx_W p l e R s m args below meth c H locs cells slots (vx_MQ below Qc (xC G A PostX) args s mc ms A) (F0 m pc ls rest) q :=
  vx_out (fun x hx => (ht x hx).elim) hlocks h1 h2 h3 (fun t et _ => ⟨⟨M, hp, by rw [et]; exact hM.1, hM.2.1⟩, hM.2.2.1.F et⟩) hM.2.2.1.2.2 hcs.1 hcs.2
theorem x_throw {cls text : String} {ik is ic mc ms : Nat} {Qc : Array Value → State → Outcome → State → Prop} {PostX : String → Mem → Prop} {lv : List (Nat × Value)} (X : Cx p c s m cc RX6 nL G) (hst : l.stackTraces = false) (hS : XS s) (hZ : XZ G A s s.heap) (ht : ∀ x ∈ c.exceptionTable.toList, False) (hlocks : meth.locks = false) (hM : mW G A s.heap M H locs) (hl : lv_has ls nL lv)
    (hcls : Bundle.fit cls = true) (hin : (is, text) ∈ xsL) (hw : ∀ w ∈ Cond.classLink RX6 ik cls :: Cond.initialized cls :: vx_atS RX6 ic cls ENm, w ∈ KTW) (hg : ∀ w ∈ Cond.classLink RX6 ik cls :: Cond.initialized cls :: vx_atS RX6 ic cls ENm, vx_ot w = true)
    (d0 : decode cc pc = .ok (.new ik, 3)) (d3 : decode cc (pc + 3) = .ok (.dup, 1)) (d4 : decode cc (pc + 4) = .ok (.ldc is, 2)) (d6 : decode cc (pc + 6) = .ok (.invokespecial ic, 3)) (d9 : decode cc (pc + 9) = .ok (.athrow, 1))
    (hR : 5 < R.frames ∧ (rest.map fun v => v.category).sum + 82 ≤ R.locals) (hRc : cells + 1 ≤ R.cells ∧ slots + 6 ≤ R.slots) (hcs : cells + 1 ≤ mc ∧ slots + 6 ≤ ms) (hp : PostX cls M) :
    W p l e R s m args below meth c H locs cells slots (vx_MQ below Qc (xC G A PostX) args s mc ms A) (F0 m pc ls rest) := by
  obtain ⟨sa, hsa⟩ := hS.1 _ hin
  have hK := X.2.2.2.2.1
  refine vx_throwS X.1 X.2.1 hst X.2.2.2.1 hcls (by decide +kernel) (hK.use (hw _ List.mem_cons_self)) (hK.use (hw _ (List.mem_cons_of_mem _ List.mem_cons_self))) hsa (fun w h => hK.use (hw w (List.mem_cons_of_mem _ (List.mem_cons_of_mem _ h)))) hg hZ.1 hZ.2.1 hM.2.2.1 (hl.1.trans X.2.2.1.symm) d0 d3 d4 d6 d9 (fun x hx => (ht x hx).elim) hR.1 hR.2 hRc.1 hRc.2 hlocks ?_ hM.2.2.1.2.2 hcs.1 hcs.2
  intro t _ hz hk
  exact ⟨⟨M, hp, fun a e h => (hM.1 a e h).kept (hk a (hM.1.lt h)), hM.2.1⟩, Nat.le_trans hM.2.2.1.1 hz, fun q h1 h2 => (hk q (Nat.lt_of_lt_of_le h1 hM.2.2.1.1)).trans (hM.2.2.1.2.1 q h1 h2)⟩
theorem xm_call {mc ms : Nat} {a : Array Value} {Post : Option Value → Mem → Prop} {PostX : String → Mem → Prop} (hr : vx_Run p l e R s m args below meth c H locs cells slots mc ms (F0 m pc ls st0) rest (mQ G A Post a) (xC G A PostX) A) (hM : mW G A H0 M H locs)
    (kx : ∀ (E : String) (ce : Cell) (q9 : Addr) (M1 : Mem) (H1 : Heap) (locs1 : List Loc), PostX E M1 → mW G A H0 M1 H1 locs1 → H1[q9]? = some ce → ce.vm = .none → s.vm.findClass E = some ce.cls → vx_W p l e R s m args below meth c H1 locs1 (cells + mc) (slots + ms) Q (F0 m pc ls rest) q9)
    (kk : ∀ (r : Option Value) (M1 : Mem) (H1 : Heap) (locs1 : List Loc), Post r M1 → mW G A H0 M1 H1 locs1 → W p l e R s m args below meth c H1 locs1 (cells + mc) (slots + ms) Q (F0 m (pc + 3) ls (r.toList ++ rest))) : W p l e R s m args below meth c H locs cells slots Q (F0 m pc ls st0) := by
  have key : ∀ {M1 : Mem} {st₀ t T' : State} {L : List Loc}, st₀.heap = H → T'.heap = t.heap → mP G M1 t.heap → mIn A M1 → va_F A st₀ t → (∀ q ∈ L, A q.base) → mW G A H0 M1 T'.heap (locs ++ L) := by
    intro M1 st₀ t T' L h0 e1 hP hI hF hL
    obtain ⟨hz, hk⟩ := hF
    rw [h0] at hz hk
    exact ⟨by rw [e1]; exact hP, hI, ⟨Nat.le_trans hM.2.2.1.1 (by rw [e1]; exact hz), fun q h1 h2 => by rw [e1, hk q (Nat.lt_of_lt_of_le h1 hM.2.2.1.1) h2]; exact hM.2.2.1.2.1 q h1 h2, fun q hq => (List.mem_append.mp hq).elim (hM.2.2.1.2.2 q) (hL q)⟩, hM.2.2.2⟩
  intro T hT X
  rcases hr T hT X with ⟨v, st₀, t, T', L, h0, X', hL, e1, e2, ⟨⟨r, M1, hv, hp, hP, hI⟩, hF⟩, st⟩ | ⟨q, st₀, t, T', L, E, ce, h0, X', hL, e1, e2, ⟨⟨M1, hp, hP, hI⟩, hF⟩, hce, hcv, hcl, st⟩
  · cases hv
    obtain ⟨t2, a1, b1⟩ := kk v M1 T'.heap (locs ++ L) hp (key h0 e1 hP hI hF hL) T' rfl X'
    exact ⟨t2, st t2 a1, b1⟩
  · obtain ⟨t2, a1, b1⟩ := kx E ce q M1 T'.heap (locs ++ L) hp (key h0 e1 hP hI hF hL) (by rw [e1]; exact hce) hcv hcl T' rfl X'
    exact ⟨t2, st.trans a1, b1⟩
theorem xm_callV (X : Cx p c s m cc own nL G) (hM : mW G A s.heap M H locs) (hS : XS s) (hZ : XZ G A s s.heap) {ci index n : Nat} {C : String} {T : u_T} {N : Nat} {y : MethodName} {bytes : ByteArray} {maxL : Nat} {ret : Option FieldType} {rm : Room} {b : Nat} {As : List Value} {Post : Option Value → Mem → Prop} {PostX : String → Mem → Prop} (K : mCk own index y bytes maxL ret n) (hi : Cond.instanceMethod y ∈ KTW) (hs : Cond.selects C y y ∈ KTW) (hci : vwCl[ci]? = some (C, T, N))
    (hdg : decode cc pc = .ok (.invokevirtual index, 3)) (hC : xMet l y bytes maxL ret rm G (.ref b :: As) M Post PostX) {fs : List Value} (hc : M b = some (.inr (ci, fs))) (hn : As.length = n) {lv : List (Nat × Value)} (hls : lv_has ls nL lv) (hst : st0 = As.reverse ++ .ref b :: rest) (hW : (rest.map fun v => v.category).sum ≤ 8) (hR : rm.frames + 1 ≤ R.frames ∧ 8 + (maxL + 11) + rm.locals ≤ R.locals) (hf : cells + rm.cells ≤ R.cells ∧ slots + rm.slots ≤ R.slots)
    (kx : ∀ (E : String) (ce : Cell) (q9 : Addr) (M1 : Mem) (H1 : Heap) (locs1 : List Loc), PostX E M1 → mW G A s.heap M1 H1 locs1 → H1[q9]? = some ce → ce.vm = .none → s.vm.findClass E = some ce.cls → vx_W p l e R s m args below meth c H1 locs1 (cells + rm.cells) (slots + rm.slots) Q (F0 m pc ls rest) q9)
    (kk : ∀ (r : Option Value) (M1 : Mem) (H1 : Heap) (locs1 : List Loc), Post r M1 → mW G A s.heap M1 H1 locs1 → W p l e R s m args below meth c H1 locs1 (cells + rm.cells) (slots + rm.slots) Q (F0 m (pc + 3) ls (r.toList ++ rest))) : W p l e R s m args below meth c H locs cells slots Q (F0 m pc ls st0) := by
  subst hst
  obtain ⟨k1, k2, k3, k4, k5⟩ := K
  have hKT := X.2.2.2.2.1
  exact xm_call (vx_runV (As := As) (rest := rest) (g := F0 m pc ls (As.reverse ++ .ref b :: rest)) (Ts := KTW) ⟨X.1, X.2.1, X.2.2.1, X.2.2.2.1, hKT.ws⟩ (hC A H.size) ⟨⟨rfl, rfl, hR.1, hR.2, m_w1 hKT k1, List.mem_singleton.mpr rfl, hKT.use k1, hKT.use k2, k3, k4, hKT.use k5⟩, hKT.use hi, hKT.use hs⟩ ⟨xPre.blind, m_recv X.2.2.2.2.2 hM.1 hci hc, fun U hU hW => xPre.at X hM hS hZ hU hW⟩ rfl hn hls.1 rfl (by show 2 * 0 + _ ≤ 8; omega) hdg hf) hM kx kk
theorem x_iret {Post : Option Value → Mem → Prop} {XC : String → State → State → Prop} {mc ms : Nat} {v : Int32} (X : Cx p c s m cc own nL G) (hr : meth.sig.returnType = some .int) (hlocks : meth.locks = false) (hM : mW G A s.heap M H locs) (hdg : decode cc pc = .ok (.ireturn, 1)) (hcs : cells ≤ mc ∧ slots ≤ ms) (hp : Post (some (.int v)) M) : W p l e R s m args below meth c H locs cells slots (vx_MQ below (mQ G A Post) XC args s mc ms A) (F0 m pc ls [.int v]) :=
  vx_ret (m_iret X hr hlocks hM hdg hcs hp)
theorem x_zret {Post : Option Value → Mem → Prop} {XC : String → State → State → Prop} {mc ms : Nat} {v : Int32} {ty : FieldType} (X : Cx p c s m cc own nL G) (hr : meth.sig.returnType = some ty) (hlocks : meth.locks = false) (hM : mW G A s.heap M H locs) (hdg : decode cc pc = .ok (.ireturn, 1)) (hcs : cells ≤ mc ∧ slots ≤ ms) (hn : narrow ty (.int v) = .int v) (hp : Post (some (.int v)) M) : W p l e R s m args below meth c H locs cells slots (vx_MQ below (mQ G A Post) XC args s mc ms A) (F0 m pc ls [.int v]) :=
  vx_ret (m_zret X hr hlocks hM hdg hcs hn hp)
theorem x_aret {Post : Option Value → Mem → Prop} {XC : String → State → State → Prop} {mc ms : Nat} {r : Option Nat} {nm : String} (X : Cx p c s m cc own nL G) (hr : meth.sig.returnType = some (.object nm)) (hlocks : meth.locks = false) (hM : mW G A s.heap M H locs) (hdg : decode cc pc = .ok (.areturn, 1)) (hcs : cells ≤ mc ∧ slots ≤ ms) (hp : Post (some (va_rf r)) M) : W p l e R s m args below meth c H locs cells slots (vx_MQ below (mQ G A Post) XC args s mc ms A) (F0 m pc ls [va_rf r]) :=
  vx_ret (m_aret X hr hlocks hM hdg hcs hp)
end XMET
