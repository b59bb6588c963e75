/-! Methods that read the texts' statics, over a memory -/
def jMet (l : Launch) (y : MethodName) (bc : ByteArray) (nL : Nat) (ret : Option FieldType) (rm : Room) (G : mG) (av : List Value) (M : Mem) (Post : Option Value → Mem → Prop) : Prop :=
  ∀ (A : Nat → Prop) (sz : Nat), Met l y [.code y bc nL ret] rm (xPre G A sz av M) (mQ G A Post) rm.cells rm.slots A
section JMET
variable {p : Program} {l : Launch} {e : Env} {R : Room} {s : State} {m : MethodId} {args : Array Value} {below : List Frame} {meth : Method} {c : Code} {H : Heap} {locs : List Loc} {cells slots : Nat} {Q : State → Prop}
variable {cc : ByteArray} {pc nL : Nat} {ls : Array Slot} {st0 rest : List Value} {G : mG} {A : Nat → Prop} {a : Nat} {M : Mem} {own : String} {H0 : Heap}
theorem jMet.of {y : MethodName} {bc : ByteArray} {ret : Option FieldType} {rm : Room} {av : List Value} {Post : Option Value → Mem → Prop} (hy : plainName y.cls = true) (hav : (lg_sl av).length ≤ nL)
    (body : ∀ (p : Program) (e : Env) (s : State) (m : MethodId) (args : Array Value) (below : List Frame) (meth : Method) (c : Code) (A : Nat → Prop) (ls : Array Slot), Cx p c s m bc y.cls nL G → meth.sig.returnType = ret → meth.locks = false → meth.name = y.name → mW G A s.heap M s.heap [] → lv_has ls nL (lv_args 0 av) → XS s → XZ G A s s.heap →
      W p l e rm s m args below meth c s.heap [] 0 0 (MQ below (mQ G A Post) args s rm.cells rm.slots A) (F0 m 0 ls [])) : jMet l y bc nL ret rm G av M Post := by
  intro A sz
  refine Met.ofW (cc := bc) (maxL := nL) (ret := ret) (ws' := []) hy rfl ?_
  intro p e s m args below meth c s₁ B hml hv
  obtain ⟨⟨rfl, hsz, h3, h4, h5, h6, h7⟩, hS, hZ⟩ := hv
  rw [lg_entry_eq]
  exact body p e s m _ below meth c A _ ⟨B.exec, B.bytes, hml, findClass_of_methodNamed B.named, h3, h4⟩ B.returns B.notSynchronized (name_of_methodNamed B.named B.method).1 ⟨h5, h6, va_S.rf, fun q hq => h7 q (by rw [← hsz]; exact hq)⟩ (lv_entry av hav) hS hZ
theorem jm_callV (X : Cx p c s m cc own nL G) (hM : mW G A s.heap M H locs) (hS : XS s) (hZ : XZ G A s s.heap) {ci index n : Nat} {C : String} {T : u_T} {N : Nat} {y : MethodName} {bytes : ByteArray} {maxL : Nat} {ret : Option FieldType} {rm : Room} {b : Nat} {As : List Value} {Post : Option Value → Mem → Prop} (K : mCk own index y bytes maxL ret n) (hi : Cond.instanceMethod y ∈ KTW) (hs : Cond.selects C y y ∈ KTW) (hci : vwCl[ci]? = some (C, T, N))
    (hdg : decode cc pc = .ok (.invokevirtual index, 3)) (hC : jMet l y bytes maxL ret rm G (.ref b :: As) M Post) {fs : List Value} (hc : M b = some (.inr (ci, fs))) (hn : As.length = n) {lv : List (Nat × Value)} (hls : lv_has ls nL lv) (hst : st0 = As.reverse ++ .ref b :: rest) (hW : (rest.map fun v => v.category).sum ≤ 8) (hR : rm.frames + 1 ≤ R.frames ∧ 8 + (maxL + 11) + rm.locals ≤ R.locals) (hf : cells + rm.cells ≤ R.cells ∧ slots + rm.slots ≤ R.slots)
    (kk : ∀ (r : Option Value) (M1 : Mem) (H1 : Heap) (locs1 : List Loc), Post r M1 → mW G A s.heap M1 H1 locs1 → W p l e R s m args below meth c H1 locs1 (cells + rm.cells) (slots + rm.slots) Q (F0 m (pc + 3) ls (r.toList ++ rest))) : W p l e R s m args below meth c H locs cells slots Q (F0 m pc ls st0) := by
  subst hst
  obtain ⟨k1, k2, k3, k4, k5⟩ := K
  have hKT := X.2.2.2.2.1
  exact m_call (va_runV (As := As) (rest := rest) (g := F0 m pc ls (As.reverse ++ .ref b :: rest)) (Ts := KTW) ⟨X.1, X.2.1, X.2.2.1, X.2.2.2.1, hKT.ws⟩ (hC A H.size) ⟨⟨rfl, rfl, hR.1, hR.2, m_w1 hKT k1, List.mem_singleton.mpr rfl, hKT.use k1, hKT.use k2, k3, k4, hKT.use k5⟩, hKT.use hi, hKT.use hs⟩ ⟨xPre.blind, m_recv X.2.2.2.2.2 hM.1 hci hc, fun U hU hW => xPre.at X hM hS hZ hU hW⟩ rfl hn hls.1 rfl (by show 2 * 0 + _ ≤ 8; omega) hdg hf) hM kk
theorem jm_callS (X : Cx p c s m cc own nL G) (hM : mW G A s.heap M H locs) (hS : XS s) (hZ : XZ G A s s.heap) {index n : Nat} {y : MethodName} {bytes : ByteArray} {maxL : Nat} {ret : Option FieldType} {rm : Room} {As : List Value} {Post : Option Value → Mem → Prop} (K : mCk own index y bytes maxL ret n) (hs : Cond.static y ∈ KTW)
    (hdg : decode cc pc = .ok (.invokestatic index, 3)) (hC : jMet l y bytes maxL ret rm G As M Post) (hn : As.length = n) {lv : List (Nat × Value)} (hls : lv_has ls nL lv) (hst : st0 = As.reverse ++ rest) (hW : (rest.map fun v => v.category).sum ≤ 8) (hR : rm.frames + 1 ≤ R.frames ∧ 8 + (maxL + 11) + rm.locals ≤ R.locals) (hf : cells + rm.cells ≤ R.cells ∧ slots + rm.slots ≤ R.slots)
    (kk : ∀ (r : Option Value) (M1 : Mem) (H1 : Heap) (locs1 : List Loc), Post r M1 → mW G A s.heap M1 H1 locs1 → W p l e R s m args below meth c H1 locs1 (cells + rm.cells) (slots + rm.slots) Q (F0 m (pc + 3) ls (r.toList ++ rest))) : W p l e R s m args below meth c H locs cells slots Q (F0 m pc ls st0) := by
  subst hst
  obtain ⟨k1, k2, k3, k4, k5⟩ := K
  have hKT := X.2.2.2.2.1
  exact m_call (va_runS (As := As) (rest := rest) (g := F0 m pc ls (As.reverse ++ rest)) (Ts := KTW) ⟨X.1, X.2.1, X.2.2.1, X.2.2.2.1, hKT.ws⟩ (hC A H.size) ⟨⟨rfl, rfl, hR.1, hR.2, m_w1 hKT k1, List.mem_singleton.mpr rfl, hKT.use k1, hKT.use k2, k3, k4, hKT.use k5⟩, hKT.use hs⟩ ⟨xPre.blind, fun U hU hW => xPre.at X hM hS hZ hU hW⟩ rfl hn hls.1 rfl (by show 2 * 0 + _ ≤ 8; omega) hdg hf) hM kk
theorem jm_callI (X : Cx p c s m cc own nL G) (hM : mW G A s.heap M H locs) (hS : XS s) (hZ : XZ G A s s.heap) {index n : Nat} {y : MethodName} {bytes : ByteArray} {maxL : Nat} {rm : Room} {b : Nat} {As : List Value} {Post : Option Value → Mem → Prop} (K : mCk own index y bytes maxL none n) (hi : Cond.instanceMethod y ∈ KTW) (hy1 : y.name = "<init>")
    (hdg : decode cc pc = .ok (.invokespecial index, 3)) (hC : jMet l y bytes maxL none rm G (.ref b :: As) M Post) (hn : As.length = n) {lv : List (Nat × Value)} (hls : lv_has ls nL lv) (hst : st0 = As.reverse ++ .ref b :: rest) (hW : (rest.map fun v => v.category).sum ≤ 8) (hR : rm.frames + 1 ≤ R.frames ∧ 8 + (maxL + 11) + rm.locals ≤ R.locals) (hf : cells + rm.cells ≤ R.cells ∧ slots + rm.slots ≤ R.slots)
    (kk : ∀ (r : Option Value) (M1 : Mem) (H1 : Heap) (locs1 : List Loc), Post r M1 → mW G A s.heap M1 H1 locs1 → W p l e R s m args below meth c H1 locs1 (cells + rm.cells) (slots + rm.slots) Q (F0 m (pc + 3) ls (r.toList ++ rest))) : W p l e R s m args below meth c H locs cells slots Q (F0 m pc ls st0) := by
  subst hst
  obtain ⟨k1, k2, k3, k4, k5⟩ := K
  have hKT := X.2.2.2.2.1
  exact m_call (va_runI (As := As) (rest := rest) (g := F0 m pc ls (As.reverse ++ .ref b :: rest)) (Ts := KTW) ⟨X.1, X.2.1, X.2.2.1, X.2.2.2.1, hKT.ws⟩ (hC A H.size) ⟨⟨rfl, rfl, hR.1, hR.2, m_w1 hKT k1, List.mem_singleton.mpr rfl, hKT.use k1, hKT.use k2, k3, k4, hKT.use k5⟩, hy1, hKT.use hi⟩ ⟨xPre.blind, fun U hU hW => xPre.at X hM hS hZ hU hW⟩ rfl hn hls.1 rfl (by show 2 * 0 + _ ≤ 8; omega) hdg hf) hM kk
theorem jm_callVN (X : Cx p c s m cc own nL G) (hM : mW G A s.heap M H locs) (hS : XS s) (hZ : XZ G A s s.heap) {ci index n : Nat} {C host : String} {T : u_T} {N : Nat} {y : MethodName} {bytes : ByteArray} {maxL : Nat} {ret : Option FieldType} {rm : Room} {b : Nat} {As : List Value} {Post : Option Value → Mem → Prop} (K : mCkN own index y host bytes maxL ret n) (hi : Cond.instanceMethod y ∈ KTW) (hs : Cond.selects C y y ∈ KTW) (hci : vwCl[ci]? = some (C, T, N))
    (hdg : decode cc pc = .ok (.invokevirtual index, 3)) (hC : jMet l y bytes maxL ret rm G (.ref b :: As) M Post) {fs : List Value} (hc : M b = some (.inr (ci, fs))) (hn : As.length = n) {lv : List (Nat × Value)} (hls : lv_has ls nL lv) (hst : st0 = As.reverse ++ .ref b :: rest) (hW : (rest.map fun v => v.category).sum ≤ 8) (hR : rm.frames + 1 ≤ R.frames ∧ 8 + (maxL + 11) + rm.locals ≤ R.locals) (hf : cells + rm.cells ≤ R.cells ∧ slots + rm.slots ≤ R.slots)
    (kk : ∀ (r : Option Value) (M1 : Mem) (H1 : Heap) (locs1 : List Loc), Post r M1 → mW G A s.heap M1 H1 locs1 → W p l e R s m args below meth c H1 locs1 (cells + rm.cells) (slots + rm.slots) Q (F0 m (pc + 3) ls (r.toList ++ rest))) : W p l e R s m args below meth c H locs cells slots Q (F0 m pc ls st0) := by
  subst hst
  obtain ⟨k1, k2, k3, k4, k5⟩ := K
  have hKT := X.2.2.2.2.1
  exact m_call (va_runVN (As := As) (rest := rest) (g := F0 m pc ls (As.reverse ++ .ref b :: rest)) (Ts := KTW) ⟨X.1, X.2.1, X.2.2.1, X.2.2.2.1, hKT.ws⟩ (hC A H.size) ⟨⟨⟨rfl, rfl, hR.1, hR.2, m_w1 hKT k1, List.mem_singleton.mpr rfl⟩, hKT.use k1, hKT.use k2, k3, k4, hKT.use k5⟩, hKT.use hi, hKT.use hs⟩ ⟨xPre.blind, m_recv X.2.2.2.2.2 hM.1 hci hc, fun U hU hW => xPre.at X hM hS hZ hU hW⟩ rfl hn hls.1 rfl (by show 2 * 0 + _ ≤ 8; omega) hdg hf) hM kk
theorem m_callVp (X : Cx p c s m cc own nL G) (hM : mW G A H0 M H locs) {ci index n : Nat} {C : String} {T : u_T} {N : Nat} {y : MethodName} {bytes : ByteArray} {maxL : Nat} {ret : Option FieldType} {rm : Room} {b : Nat} {As : List Value} {Post : Option Value → Mem → Prop} (K : mCk own index y bytes maxL ret n) (hi : Cond.instanceMethod y ∈ KTW) (hs : (Cond.selects C y y).before args s = true) (hci : vwCl[ci]? = some (C, T, N))
    (hdg : decode cc pc = .ok (.invokevirtual index, 3)) (hC : mMet l y bytes maxL ret rm G (.ref b :: As) M Post) {fs : List Value} (hc : M b = some (.inr (ci, fs))) (hn : As.length = n) {lv : List (Nat × Value)} (hls : lv_has ls nL lv) (hst : st0 = As.reverse ++ .ref b :: rest) (hW : (rest.map fun v => v.category).sum ≤ 8) (hR : rm.frames + 1 ≤ R.frames ∧ 8 + (maxL + 11) + rm.locals ≤ R.locals) (hf : cells + rm.cells ≤ R.cells ∧ slots + rm.slots ≤ R.slots)
    (kk : ∀ (r : Option Value) (M1 : Mem) (H1 : Heap) (locs1 : List Loc), Post r M1 → mW G A H0 M1 H1 locs1 → W p l e R s m args below meth c H1 locs1 (cells + rm.cells) (slots + rm.slots) Q (F0 m (pc + 3) ls (r.toList ++ rest))) : W p l e R s m args below meth c H locs cells slots Q (F0 m pc ls st0) := by
  subst hst
  obtain ⟨k1, k2, k3, k4, k5⟩ := K
  have hKT := X.2.2.2.2.1
  exact m_call (va_runV (As := As) (rest := rest) (g := F0 m pc ls (As.reverse ++ .ref b :: rest)) (Ts := KTW) ⟨X.1, X.2.1, X.2.2.1, X.2.2.2.1, hKT.ws⟩ (hC A H.size) ⟨⟨rfl, rfl, hR.1, hR.2, m_w1 hKT k1, List.mem_singleton.mpr rfl, hKT.use k1, hKT.use k2, k3, k4, hKT.use k5⟩, hKT.use hi, hs⟩ ⟨mPre.blind, m_recv X.2.2.2.2.2 hM.1 hci hc, fun U hU hW => mPre.at X hM hU hW⟩ rfl hn hls.1 rfl (by show 2 * 0 + _ ≤ 8; omega) hdg hf) hM kk
theorem jm_super (X : Cx p c s m cc own nL G) (hM : mW G A s.heap M H locs) (hS : XS s) (hZ : XZ G A s s.heap) {index n : Nat} {y : MethodName} {bytes : ByteArray} {maxL : Nat} {rm : Room} {b : Nat} {As : List Value} {Post : Option Value → Mem → Prop} {ret : Option FieldType} (K : mCk own index y bytes maxL ret n) (hi : Cond.instanceMethod y ∈ KTW) (hy1 : y.name ≠ "<init>") (hsm : Cond.sameMethod y.cls y.cls y.name y.desc ∈ KTW) (hsu : Cond.superclass own y.cls ∈ KTW) {ci : Nat} {C : String} {T : u_T} {N : Nat} (hci : vwCl[ci]? = some (C, T, N)) {fs : List Value} (hc : M b = some (.inr (ci, fs)))
    (hdg : decode cc pc = .ok (.invokespecial index, 3)) (hC : jMet l y bytes maxL ret rm G (.ref b :: As) M Post) (hn : As.length = n) {lv : List (Nat × Value)} (hls : lv_has ls nL lv) (hst : st0 = As.reverse ++ .ref b :: rest) (hW : (rest.map fun v => v.category).sum ≤ 8) (hR : rm.frames + 1 ≤ R.frames ∧ 8 + (maxL + 11) + rm.locals ≤ R.locals) (hf : cells + rm.cells ≤ R.cells ∧ slots + rm.slots ≤ R.slots)
    (kk : ∀ (r : Option Value) (M1 : Mem) (H1 : Heap) (locs1 : List Loc), Post r M1 → mW G A s.heap M1 H1 locs1 → W p l e R s m args below meth c H1 locs1 (cells + rm.cells) (slots + rm.slots) Q (F0 m (pc + 3) ls (r.toList ++ rest))) : W p l e R s m args below meth c H locs cells slots Q (F0 m pc ls st0) := by
  subst hst
  obtain ⟨k1, k2, k3, k4, k5⟩ := K
  have hKT := X.2.2.2.2.1
  exact m_call (va_runSU (X.2.2.2.2.2.1 ci _ hci).2 (As := As) (rest := rest) (g := F0 m pc ls (As.reverse ++ .ref b :: rest)) (Ts := KTW) ⟨X.1, X.2.1, X.2.2.1, X.2.2.2.1, hKT.ws⟩ (hC A H.size) ⟨⟨rfl, rfl, hR.1, hR.2, m_w1 hKT k1, List.mem_singleton.mpr rfl⟩, hKT.use k5, hKT.use hsm, hKT.use hsu, hKT.use hi, hKT.use k2, hKT.use k1, hy1, k4⟩ ⟨xPre.blind, m_recv X.2.2.2.2.2 hM.1 hci hc, fun U hU hW => xPre.at X hM hS hZ hU hW⟩ rfl hn hls.1 rfl (by show 2 * 0 + _ ≤ 8; omega) hdg hf) hM kk
theorem mj_gets (X : Cx p c s m cc own nL G) (hM : mW G A s.heap M H locs) {C n d : String} {v : Value} {index : Nat} (hZ : va_Z C n d v A s s.heap) (hl : Cond.fieldLink own index C n d ∈ KTW) (hdg : decode cc pc = .ok (.getstatic index, 3))
    (kk : W p l e R s m args below meth c H locs cells slots Q (F0 m (pc + 3) ls (v :: rest))) : W p l e R s m args below meth c H locs cells slots Q (F0 m pc ls rest) :=
  va_gets X.1 X.2.1 hZ hM.2.2.1 X.2.2.2.1 (X.2.2.2.2.1.use hl) (fun _ h => h) hdg kk
theorem mj_bald (X : Cx p c s m cc own nL G) (hM : mW G A s.heap M H locs) {d : Nat} {f : Nat → Int32} (hd : ¬ A d) (hc : bX f d s s.heap) {i : Nat} (hi : i < 100) (hdg : decode cc pc = .ok (.baload, 1))
    (kk : W p l e R s m args below meth c H locs cells slots Q (F0 m (pc + 1) ls (.int (f i) :: rest))) : W p l e R s m args below meth c H locs cells slots Q (F0 m pc ls (.int (nI i) :: .ref d :: rest)) := by
  obtain ⟨z, h1, h2, h3, h4, h5⟩ := hc
  have hcH : H[d]? = some z := by rw [hM.2.2.1.2.1 d (Array.getElem?_eq_some_iff.mp h1).1 hd]; exact h1
  have hcl : (nI i).toNatClampNeg = i := nI_clamp (by omega)
  exact W.bald (v := .int (f i)) X.1 X.2.1 hcH h2 h3 (by rw [h4]; exact vp_in_nI hi (by decide)) (by rw [hcl]; exact h5 i hi) rfl rfl hdg kk
theorem mx_bald (X : Cx p c s m cc own nL G) (hM : mW G A H0 M H locs) {n : Nat} {f : Nat → Int32} (hdg : decode cc pc = .ok (.baload, 1)) (hc : M a = some (.inl (G.2 2, n, .inl f))) {i : Nat} (hi : i < n) (hn : n < 2 ^ 31)
    (kk : W p l e R s m args below meth c H locs cells slots Q (F0 m (pc + 1) ls (.int (f i) :: rest))) : W p l e R s m args below meth c H locs cells slots Q (F0 m pc ls (.int (nI i) :: .ref a :: rest)) := by
  refine mg_bald X hM hdg hc (vp_in_nI hi hn) ?_
  rw [nI_clamp (by omega)]
  exact kk
end JMET
