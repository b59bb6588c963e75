/-! Two memories side by side: a contract over one frames the other -/
def mJ (M0 M1 : Mem) : Mem := fun q => match M0 q with
  | some e => some e
  | none => M1 q
def mDj (M0 M1 : Mem) : Prop := ∀ (q : Nat) (e : va_E), M0 q = some e → M1 q = none
theorem mJ_l {M0 M1 : Mem} {q : Nat} {e : va_E} (h : M0 q = some e) : mJ M0 M1 q = some e := by simp only [mJ, h]
theorem mJ_n {M0 M1 : Mem} {q : Nat} (h : M0 q = none) : mJ M0 M1 q = M1 q := by simp only [mJ, h]
theorem mDj.off {M0 M1 : Mem} (d : mDj M0 M1) {q : Nat} {e : va_E} (h : M1 q = some e) : M0 q = none := by
  cases h0 : M0 q with
  | none => rfl
  | some e0 => have := d q e0 h0; rw [h] at this; cases this
theorem mDj.sym {M0 M1 : Mem} (d : mDj M0 M1) : mDj M1 M0 := fun _ _ h => d.off h
theorem mJ_r {M0 M1 : Mem} (d : mDj M0 M1) {q : Nat} {e : va_E} (h : M1 q = some e) : mJ M0 M1 q = some e := by rw [mJ_n (d.off h)]; exact h
theorem mJ_or {M0 M1 : Mem} {q : Nat} {e : va_E} (h : mJ M0 M1 q = some e) : M0 q = some e ∨ (M0 q = none ∧ M1 q = some e) := by
  cases h0 : M0 q with
  | none => rw [mJ_n h0] at h; exact Or.inr ⟨rfl, h⟩
  | some e0 => rw [mJ_l h0] at h; exact Or.inl h
theorem mJ_none {M0 M1 : Mem} {q : Nat} (h0 : M0 q = none) (h1 : M1 q = none) : mJ M0 M1 q = none := by rw [mJ_n h0]; exact h1
theorem mJ_comm {M0 M1 : Mem} (d : mDj M0 M1) : mJ M0 M1 = mJ M1 M0 := by
  funext q
  cases h0 : M0 q with
  | none =>
    rw [mJ_n h0]
    cases h1 : M1 q with
    | none => rw [mJ_none h1 h0]
    | some e => rw [mJ_l h1]
  | some e => rw [mJ_l h0, mJ_n (d q e h0)]; exact h0.symm
/-- the cells of a memory and all that comes -/
def mDom (M : Mem) (sz : Nat) : Nat → Prop := fun q => (∃ e, M q = some e) ∨ sz ≤ q
theorem mDom.sub {A : Nat → Prop} {M0 M1 : Mem} {sz : Nat} (h : mIn A (mJ M0 M1)) (hA : ∀ q, sz ≤ q → A q) : ∀ q, mDom M0 sz q → A q := by
  intro q hq
  rcases hq with ⟨e, he⟩ | hq
  · exact h q e (mJ_l he)
  · exact hA q hq
theorem fr_key {G : mG} {A : Nat → Prop} {M0 M1 M2 : Mem} {s t : State} (d : mDj M0 M1) (hP : mP G (mJ M0 M1) s.heap) (hI : mIn A (mJ M0 M1)) (hA : ∀ q, s.heap.size ≤ q → A q) (hP2 : mP G M2 t.heap) (hI2 : mIn (mDom M0 s.heap.size) M2) (hF : va_F (mDom M0 s.heap.size) s t) :
    mDj M2 M1 ∧ mP G (mJ M2 M1) t.heap ∧ mIn A (mJ M2 M1) ∧ va_F A s t := by
  have hsub := mDom.sub hI hA
  have hlt : ∀ q e, M1 q = some e → q < s.heap.size ∧ ¬ mDom M0 s.heap.size q := fun q e h => by
    have h1 := hP.lt (mJ_r d h)
    refine ⟨h1, fun hd => ?_⟩
    rcases hd with ⟨e0, h0⟩ | h0
    · rw [d.off h] at h0; cases h0
    · omega
  have dj : mDj M2 M1 := fun q e h => by
    cases h1 : M1 q with
    | none => rfl
    | some e1 => exact absurd (hI2 q e h) (hlt q e1 h1).2
  refine ⟨dj, fun q e h => ?_, fun q e h => ?_, hF.1, fun q h1 h2 => hF.2 q h1 (fun h3 => h2 (hsub q h3))⟩
  · rcases mJ_or h with h0 | ⟨-, h1⟩
    · exact hP2 q e h0
    · have h3 := hlt q e h1
      exact (hP q e (mJ_r d h1)).kept (hF.2 q h3.1 h3.2)
  · rcases mJ_or h with h0 | ⟨-, h1⟩
    · exact hsub q (hI2 q e h0)
    · exact hI q e (mJ_r d h1)
theorem mPre.fr {G : mG} {A : Nat → Prop} {sz : Nat} {av : List Value} {M0 M1 : Mem} {a : Array Value} {U : State} (h : mPre G A sz av (mJ M0 M1) a U) : mPre G (mDom M0 sz) sz av M0 a U := by
  obtain ⟨h1, h2, h3, h4, h5, h6, h7⟩ := h
  exact ⟨h1, h2, h3, h4, fun q e hq => h5 q e (mJ_l hq), fun q e hq => Or.inl ⟨e, hq⟩, fun q hq => Or.inr hq⟩
theorem mMet.fr {l : Launch} {y : MethodName} {bc : ByteArray} {nL : Nat} {ret : Option FieldType} {rm : Room} {G : mG} {av : List Value} {M0 M1 : Mem} {Post : Option Value → Mem → Prop} (h : mMet l y bc nL ret rm G av M0 Post) (d : mDj M0 M1) :
    mMet l y bc nL ret rm G av (mJ M0 M1) (fun r M' => ∃ M2, Post r M2 ∧ mDj M2 M1 ∧ M' = mJ M2 M1) := by
  intro A sz p e ha hc hk s m args below hf happ hP hT
  obtain ⟨n, o, q1, q2, q3, ⟨⟨r, M2, ho, hp, hP2, hI2⟩, hF⟩, L, hE, hL⟩ := h (mDom M0 sz) sz p e ha hc hk s m args below hf happ hP.fr hT
  obtain ⟨h1, h2, h3, h4, h5, h6, h7⟩ := hP
  subst h2
  obtain ⟨k1, k2, k3, k4⟩ := fr_key d h5 h6 h7 hP2 hI2 hF
  exact ⟨n, o, q1, q2, q3, ⟨⟨r, mJ M2 M1, ho, ⟨M2, hp, k1, rfl⟩, k2, k3⟩, k4⟩, L, hE, fun q hq => mDom.sub h6 h7 _ (hL q hq)⟩
theorem JA.narrow {C n : String} {G : mG} {f : Nat → Int32} {A A1 : Nat → Prop} {U : State} {H : Heap} (h : JA C n G f A U H) (hA : ∀ q, A1 q → A q) : JA C n G f A1 U H := by
  obtain ⟨d, h1, h2, h3⟩ := h
  exact ⟨d, va_Z.narrow h1 hA, fun q => h2 (hA d q), h3⟩
theorem XZ.narrow {G : mG} {A A1 : Nat → Prop} {U : State} {H : Heap} (h : XZ G A U H) (hA : ∀ q, A1 q → A q) : XZ G A1 U H := by
  obtain ⟨h1, h2, h3, ⟨f, hf, h4⟩, ⟨g, hg, h5⟩, h6⟩ := h
  exact ⟨vx_Zq.narrow h1 hA, vx_Zq.narrow h2 hA, va_Z.narrow h3 hA, ⟨f, hf, h4.narrow hA⟩, ⟨g, hg, h5.narrow hA⟩, va_Zq.narrow h6 hA⟩
theorem xPre.fr {G : mG} {A : Nat → Prop} {sz : Nat} {av : List Value} {M0 M1 : Mem} {a : Array Value} {U : State} (h : xPre G A sz av (mJ M0 M1) a U) : xPre G (mDom M0 sz) sz av M0 a U :=
  ⟨h.1.fr, h.2.1, h.2.2.narrow (mDom.sub h.1.2.2.2.2.2.1 h.1.2.2.2.2.2.2)⟩
theorem xMet.fr {l : Launch} {y : MethodName} {bc : ByteArray} {nL : Nat} {ret : Option FieldType} {rm : Room} {G : mG} {av : List Value} {M0 M1 : Mem} {Post : Option Value → Mem → Prop} {PostX : String → Mem → Prop} (h : xMet l y bc nL ret rm G av M0 Post PostX) (d : mDj M0 M1) :
    xMet l y bc nL ret rm G av (mJ M0 M1) (fun r M' => ∃ M2, Post r M2 ∧ mDj M2 M1 ∧ M' = mJ M2 M1) (fun E M' => ∃ M2, PostX E M2 ∧ mDj M2 M1 ∧ M' = mJ M2 M1) := by
  intro A sz p e ha hc hk s m args below hf happ hP hT
  obtain ⟨n, o, q1, q2, q3, h9⟩ := h (mDom M0 sz) sz p e ha hc hk s m args below hf happ hP.fr hT
  obtain ⟨⟨h1, h2, h3, h4, h5, h6, h7⟩, -, -⟩ := hP
  subst h2
  have hsub := mDom.sub h6 h7
  rcases h9 with ⟨⟨⟨r, M2, ho, hp, hP2, hI2⟩, hF⟩, L, hE, hL⟩ | ⟨q, ho, E, ce, L, ⟨⟨M2, hp, hP2, hI2⟩, hF⟩, g1, g2, g3, g4, g5, hL⟩
  · obtain ⟨k1, k2, k3, k4⟩ := fr_key d h5 h6 h7 hP2 hI2 hF
    exact ⟨n, o, q1, q2, q3, Or.inl ⟨⟨⟨r, mJ M2 M1, ho, ⟨M2, hp, k1, rfl⟩, k2, k3⟩, k4⟩, L, hE, fun q hq => hsub _ (hL q hq)⟩⟩
  · obtain ⟨k1, k2, k3, k4⟩ := fr_key d h5 h6 h7 hP2 hI2 hF
    exact ⟨n, o, q1, q2, q3, Or.inr ⟨q, ho, E, ce, L, ⟨⟨mJ M2 M1, ⟨M2, hp, k1, rfl⟩, k2, k3⟩, k4⟩, g1, g2, g3, g4, g5, fun z hz => hsub _ (hL z hz)⟩⟩
/-! a method with handlers that lets nothing out -/
def NC (U : State) : Prop := va_Nc EIA EIO U ∧ va_Nc EIS EIO U ∧ va_Nc EIS EIA U
theorem NC.moved {u U : State} (hvm : u.vm.Alike U.vm) (h : NC u) : NC U := ⟨va_Nc.moved hvm h.1, va_Nc.moved hvm h.2.1, va_Nc.moved hvm h.2.2⟩
def lPre (G : mG) (A : Nat → Prop) (sz : Nat) (av : List Value) (M : Mem) : Array Value → State → Prop := fun a U => xPre G A sz av M a U ∧ NC U
def lMet (l : Launch) (y : MethodName) (bc : ByteArray) (nL : Nat) (ret : Option FieldType) (hh : List (Nat × Nat × Nat × Nat)) (rm : Room) (G : mG) (av : List Value) (M : Mem) (Post : Option Value → Mem → Prop) : Prop :=
  ∀ (A : Nat → Prop) (sz : Nat), Met l y [.codeWith y bc nL ret hh] rm (lPre G A sz av M) (mQ G A Post) rm.cells rm.slots A
theorem lPre.blind {G : mG} {A : Nat → Prop} {sz : Nat} {av : List Value} {M : Mem} : FrameBlind (lPre G A sz av M) := by
  intro a U g mk h
  exact ⟨xPre.blind a U g mk h.1, NC.moved (u := U) (U := U.calling g mk a) (Vm.Alike.refl U.vm) h.2⟩
theorem lPre.fr {G : mG} {A : Nat → Prop} {sz : Nat} {av : List Value} {M0 M1 : Mem} {a : Array Value} {U : State} (h : lPre G A sz av (mJ M0 M1) a U) : lPre G (mDom M0 sz) sz av M0 a U := ⟨h.1.fr, h.2⟩
theorem lMet.fr {l : Launch} {y : MethodName} {bc : ByteArray} {nL : Nat} {ret : Option FieldType} {hh : List (Nat × Nat × Nat × Nat)} {rm : Room} {G : mG} {av : List Value} {M0 M1 : Mem} {Post : Option Value → Mem → Prop} (h : lMet l y bc nL ret hh rm G av M0 Post) (d : mDj M0 M1) :
    lMet l y bc nL ret hh rm G av (mJ M0 M1) (fun r M' => ∃ M2, Post r M2 ∧ mDj M2 M1 ∧ M' = mJ M2 M1) := by
  intro A sz p e ha hc hk s m args below hf happ hP hT
  obtain ⟨n, o, q1, q2, q3, ⟨⟨r, M2, ho, hp, hP2, hI2⟩, hF⟩, L, hE, hL⟩ := h (mDom M0 sz) sz p e ha hc hk s m args below hf happ hP.fr hT
  obtain ⟨⟨⟨h1, h2, h3, h4, h5, h6, h7⟩, -, -⟩, -⟩ := hP
  subst h2
  obtain ⟨k1, k2, k3, k4⟩ := fr_key d h5 h6 h7 hP2 hI2 hF
  exact ⟨n, o, q1, q2, q3, ⟨⟨r, mJ M2 M1, ho, ⟨M2, hp, k1, rfl⟩, k2, k3⟩, k4⟩, L, hE, fun q hq => mDom.sub h6 h7 _ (hL q hq)⟩
section LMET
variable {p : Program} {l : Launch} {e : Env} {R : Room} {s : State} {m : MethodId} {args : Array Value} {below : List Frame} {meth : Method} {c : Code} {H : Heap} {locs : List Loc} {cells slots : Nat} {Q : State → Prop}
variable {cc : ByteArray} {pc nL : Nat} {ls : Array Slot} {st0 rest : List Value} {G : mG} {A : Nat → Prop} {a : Nat} {M : Mem} {own : String} {H0 : Heap}
theorem lPre.at (X : Cx p c s m cc own nL G) (hM : mW G A s.heap M H locs) (hS : XS s) (hZ : XZ G A s s.heap) (hN : NC s) {av : List Value} {U : State} (hU : U.heap = H) (hW : s.WarmedH U.vm) : lPre G A H.size av M av.toArray U :=
  ⟨xPre.at X hM hS hZ hU hW, hN.moved hW.alike⟩
theorem metX {y : MethodName} {ws : List Cond} {rm : Room} {Pc : Array Value → State → Prop} {Qc : Array Value → State → Outcome → State → Prop} {mc ms : Nat} {free : Addr → Prop} (h : vx_Met l y ws rm Pc Qc (fun _ _ _ => False) mc ms free) : Met l y ws rm Pc Qc mc ms free := by
  intro p e ha hc hk s m args below hf happ hP hT
  obtain ⟨n, o, q1, q2, q3, h9⟩ := h p e ha hc hk s m args below hf happ hP hT
  rcases h9 with h9 | ⟨q, ho, E, ce, L, hx, -⟩
  · exact ⟨n, o, q1, q2, q3, h9⟩
  · exact hx.elim
theorem lMet.of {y : MethodName} {bc : ByteArray} {ret : Option FieldType} {hh : List (Nat × Nat × Nat × Nat)} {rm : Room} {av : List Value} {Post : Option Value → Mem → Prop} (hy : plainName y.cls = true) (hav : (lg_sl av).length ≤ nL)
    (body : ∀ (p : Program) (e : Env) (s : State) (m : MethodId) (args : Array Value) (below : List Frame) (meth : Method) (c : Code) (A : Nat → Prop) (ls : Array Slot), Cx p c s m bc y.cls nL G → meth.sig.returnType = ret → meth.locks = false → mW G A s.heap M s.heap [] → lv_has ls nL (lv_args 0 av) → XS s → XZ G A s s.heap → NC s → c.exceptionTable.toList = tableOf hh →
      W p l e rm s m args below meth c s.heap [] 0 0 (MQ below (mQ G A Post) args s rm.cells rm.slots A) (F0 m 0 ls [])) : lMet l y bc nL ret hh rm G av M Post := by
  intro A sz
  refine metX (vx_ofWH (cc := bc) (maxL := nL) (ret := ret) (hh := hh) (ws' := []) hy rfl ?_)
  intro p e s m args below meth c s₁ B hml hv
  have ht := vx_table (x := y) B (atoms_spec (ws := [Cond.codeWith y bc nL ret hh]) B.pre _ List.mem_cons_self)
  obtain ⟨⟨⟨rfl, hsz, h3, h4, h5, h6, h7⟩, hS, hZ⟩, hN⟩ := hv
  rw [lg_entry_eq]
  exact vx_ret (body p e s m _ below meth c A _ ⟨B.exec, B.bytes, hml, findClass_of_methodNamed B.named, h3, h4⟩ B.returns B.notSynchronized ⟨h5, h6, va_S.rf, fun q hq => h7 q (by rw [← hsz]; exact hq)⟩ (lv_entry av hav) hS hZ hN ht)
theorem l_callS (X : Cx p c s m cc own nL G) (hM : mW G A s.heap M H locs) (hS : XS s) (hZ : XZ G A s s.heap) (hN : NC s) {index n : Nat} {y : MethodName} {bytes : ByteArray} {maxL : Nat} {ret : Option FieldType} {hh : List (Nat × Nat × Nat × Nat)} {rm : Room} {As : List Value} {Post : Option Value → Mem → Prop} (k1 : Cond.codeWith y bytes maxL ret hh ∈ KTW) (k2 : Cond.initialized y.cls ∈ KTW) (k3 : y.cls ≠ "java/lang/invoke/MethodHandle" ∧ y.cls ≠ "java/lang/invoke/VarHandle") (k4 : ∀ sig, parseMethodDescriptor y.desc = some sig → n = sig.parameters.length) (k5 : Cond.methodLink own index y ∈ KTW) (hs : Cond.static y ∈ KTW)
    (hdg : decode cc pc = .ok (.invokestatic index, 3)) (hC : lMet l y bytes maxL ret hh rm G As M Post) (hn : As.length = n) {lv : List (Nat × Value)} (hls : lv_has ls nL lv) (hst : st0 = As.reverse ++ rest) (hW : (rest.map fun v => v.category).sum ≤ 8) (hR : rm.frames + 1 ≤ R.frames ∧ 8 + (maxL + 11) + rm.locals ≤ R.locals) (hf : cells + rm.cells ≤ R.cells ∧ slots + rm.slots ≤ R.slots)
    (kk : ∀ (r : Option Value) (M1 : Mem) (H1 : Heap) (locs1 : List Loc), Post r M1 → mW G A s.heap M1 H1 locs1 → W p l e R s m args below meth c H1 locs1 (cells + rm.cells) (slots + rm.slots) Q (F0 m (pc + 3) ls (r.toList ++ rest))) : W p l e R s m args below meth c H locs cells slots Q (F0 m pc ls st0) := by
  subst hst
  have hKT := X.2.2.2.2.1
  exact m_call (vx_runSW (hh := hh) (As := As) (rest := rest) (g := F0 m pc ls (As.reverse ++ rest)) (Ts := KTW) ⟨X.1, X.2.1, X.2.2.1, X.2.2.2.1, hKT.ws⟩ (hC A H.size) ⟨⟨rfl, rfl, hR.1, hR.2, m_w1 hKT k1, List.mem_singleton.mpr rfl⟩, hKT.use k1, hKT.use k2, k3, k4, hKT.use k5, hKT.use hs⟩ ⟨lPre.blind, fun U hU hW => lPre.at X hM hS hZ hN hU hW⟩ rfl hn hls.1 rfl (by show 2 * 0 + _ ≤ 8; omega) hdg hf) hM kk
/-- caught by a row of this method's table, the rows ahead of it named other classes -/
theorem l_catch {E nm : String} {ce : Cell} {q : Addr} (X : Cx p c s m cc own nL G) {hh : List (Nat × Nat × Nat × Nat)} (ht : c.exceptionTable.toList = tableOf hh) (pre : List (Nat × Nat × Nat × Nat)) (x : Nat × Nat × Nat × Nat) (suf : List (Nat × Nat × Nat × Nat)) (hsplit : hh = pre ++ x :: suf)
    (hpass : ∀ z ∈ pre, z.2.2.2 ≠ 0 ∧ ∃ nm : String, Cond.classLink own z.2.2.2 nm ∈ KTW ∧ va_Nc E nm s) (hx : x.1 ≤ pc ∧ pc < x.2.1) (h0 : x.2.2.2 ≠ 0)
    (hlink : Cond.classLink own x.2.2.2 nm ∈ KTW) (hcast : Cond.castable E nm ∈ KTW) (hcell : H[q]? = some ce) (hv : ce.vm = .none) (hcl : s.vm.findClass E = some ce.cls) {tgt : Nat} (htg : x.2.2.1 = tgt)
    (kk : W p l e R s m args below meth c H locs cells slots Q (F0 m tgt ls [.ref q])) : vx_W p l e R s m args below meth c H locs cells slots Q (F0 m pc ls rest) q := by
  subst htg
  have hKT := X.2.2.2.2.1
  refine vx_catch X.2.2.2.1 (tableOf pre) ⟨x.1, x.2.1, x.2.2.1, x.2.2.2⟩ (tableOf suf) (by rw [ht, hsplit]; simp [tableOf]) (fun z hz => ?_) (by simp [covers, hx.1, hx.2]) h0 (hKT.use hlink) (hKT.use hcast) hcell hv hcl kk
  obtain ⟨w, hw, rfl⟩ := List.mem_map.mp hz
  obtain ⟨a1, nm2, a2, a3⟩ := hpass w hw
  exact Or.inr ⟨a1, nm2, hKT.use a2, a3⟩
end LMET
