/-! The world as a function from addresses to cells: rows over it. Rows of this file are ours; their proofs follow the kit's own (va_get, va_put, va_iast ..). -/
abbrev Mem : Type := Nat → Option va_E
def mU (M : Mem) (a : Nat) (e : va_E) : Mem := fun q => if q = a then some e else M q
theorem mU_eq (M : Mem) (a : Nat) (e : va_E) : mU M a e a = some e := by simp [mU]
theorem mU_ne {M : Mem} {a b : Nat} {e : va_E} (h : b ≠ a) : mU M a e b = M b := by simp [mU, h]
theorem mU_at {M : Mem} {a b : Nat} {e e0 : va_E} (h : b ≠ a) (hb : M b = some e0) : mU M a e b = some e0 := by rw [mU_ne h]; exact hb
theorem mem_ne {M : Mem} {a b : Nat} {e e0 : va_E} (ha : M a = some e) (hb : M b = some e0) (h : e ≠ e0) : b ≠ a := fun q => by subst q; exact h (Option.some.inj (ha.symm.trans hb))
abbrev mG : Type := va_G × (Nat → ClassId)
abbrev mTys (G : mG) : List (ClassId × FieldType) := [(G.2 0, .int), (G.2 0, .int), (G.2 2, .byte), (G.2 3, .object RX1), (G.2 4, .object RX0), (G.2 5, .object RX4), (G.2 6, .object RX5), (G.2 7, .object RX2), (G.2 8, .object RX3)]
def mK (G : mG) (U : State) : Prop := va_K G.1 vwCl (mTys G) U
theorem mK.moved {G : mG} {u U : State} (hvm : u.vm.Alike U.vm) (h : mK G u) : mK G U := va_K.moved hvm h
/-- the words that stay true -/
def ktN (w : Cond) : Bool := match w with
  | .fieldLinkNest _ _ _ _ _ _ => true
  | .methodLinkNest _ _ _ _ => true
  | .declares _ => true
  | .castable _ _ => true
  | _ => false
def ktA (w : Cond) : Bool := match w with
  | .arrayOver (.object _) => true
  | _ => false
def ktok (w : Cond) : Bool := goodWord w || (ktN w || ktA w)
def KTW : List Cond := lw_tbl.filter ktok
def KT (U : State) : Prop := ∀ w ∈ KTW, w.before #[] U = true
theorem ktN_tabs {w : Cond} (h : ktN w = true) : w.onTables = true := by
  cases w <;> first | rfl | (simp [ktN] at h)
theorem ktA_is {w : Cond} (h : ktA w = true) : ∃ C : String, w = .arrayOver (.object C) := by
  unfold ktA at h
  split at h
  · exact ⟨_, rfl⟩
  · cases h
theorem KT.one {s U : State} {args a' : Array Value} {w : Cond} (hW : s.WarmedH U.vm) (hk : ktok w = true) (h : w.before args s = true) : w.before a' U = true := by
  simp only [ktok, Bool.or_eq_true] at hk
  rcases hk with hk | hk | hk
  · exact word_at hW (good_of_word hk) h
  · have h0 : w.before #[] s = true := va_tabs (ktN_tabs hk) rfl h
    have h1 : w.before #[] U = true := by
      cases w <;> first | exact va_Nw.warmF hW h0 | exact va_Nw.warmM hW h0 | exact va_Nw.warmD hW h0 | exact va_Nw.warmC hW h0 | (simp [ktN] at hk)
    exact va_tabs (ktN_tabs hk) rfl h1
  · obtain ⟨C, rfl⟩ := ktA_is hk
    exact va_AO.use (va_AO.moved hW.alike (va_AO.of h))
theorem KT.use {s : State} {args : Array Value} {w : Cond} (h : KT s) (hw : w ∈ KTW) : w.before args s = true := KT.one (State.WarmedH.refl s) (List.mem_filter.mp hw).2 (h w hw)
theorem KT.ws {s : State} {args : Array Value} (h : KT s) : ∀ w ∈ KTW, w.before args s = true := fun _ hw => h.use hw
theorem KT.warm {s U : State} (hW : s.WarmedH U.vm) (h : KT s) : KT U := fun w hw => KT.one hW (List.mem_filter.mp hw).2 (h w hw)
theorem KT.of {s : State} {args : Array Value} (h : ∀ w ∈ lw_tbl, w.before args s = true) : KT s := fun w hw => KT.one (State.WarmedH.refl s) (List.mem_filter.mp hw).2 (h w (List.mem_filter.mp hw).1)
theorem kt_in {w : Cond} (i : Nat) (h : lw_tbl[i]? = some w) (hk : ktok w = true) : w ∈ KTW := List.mem_filter.mpr ⟨List.mem_of_getElem? h, hk⟩
/-- the memory lies in the heap -/
def mP (G : mG) (M : Mem) (H : Heap) : Prop := ∀ (a : Nat) (e : va_E), M a = some e → va_at G.1 vwCl (a, e) H
def mIn (A : Nat → Prop) (M : Mem) : Prop := ∀ (a : Nat) (e : va_E), M a = some e → A a
def mW (G : mG) (A : Nat → Prop) (H0 : Heap) (M : Mem) (H : Heap) (locs : List Loc) : Prop := mP G M H ∧ mIn A M ∧ va_S A H0 H locs ∧ ∀ q, H0.size ≤ q → A q
theorem mP.one {G : mG} {M : Mem} {H : Heap} (h : mP G M H) {a : Nat} {e : va_E} (hc : M a = some e) : va_P G.1 vwCl [(a, e)] H := by
  intro k q hk
  cases k with
  | zero => cases hk; exact h a e hc
  | succ k => simp at hk
theorem mP.two {G : mG} {M : Mem} {H : Heap} (h : mP G M H) {a b : Nat} {e f : va_E} (hc : M a = some e) (hd : M b = some f) : va_P G.1 vwCl [(a, e), (b, f)] H := by
  intro k q hk
  match k with
  | 0 => cases hk; exact h a e hc
  | 1 => cases hk; exact h b f hd
  | k + 2 => simp at hk
theorem mP.lt {G : mG} {M : Mem} {H : Heap} (h : mP G M H) {a : Nat} {e : va_E} (hc : M a = some e) : a < H.size := (h a e hc).lt
theorem mW.put {G : mG} {A : Nat → Prop} {H0 : Heap} {M : Mem} {H : Heap} {locs : List Loc} (h : mW G A H0 M H locs) {a : Nat} {e0 e : va_E} (hc : M a = some e0) {H1 : Heap} (he : va_at G.1 vwCl (a, e) H1) (z : H1.size = H.size) (oq : ∀ q : Nat, q ≠ a → H1[q]? = H[q]?) (k : Nat) : mW G A H0 (mU M a e) H1 (locs ++ [⟨a, k⟩]) := by
  refine ⟨fun q e' hq => ?_, fun q e' hq => ?_, h.2.2.1.put z oq (h.2.1 a e0 hc), h.2.2.2⟩
  · by_cases hqa : q = a
    · subst hqa
      rw [mU_eq] at hq
      cases hq
      exact he
    · rw [mU_ne hqa] at hq
      exact (h.1 q e' hq).kept (oq q hqa)
  · by_cases hqa : q = a
    · subst hqa
      exact h.2.1 q e0 hc
    · rw [mU_ne hqa] at hq
      exact h.2.1 q e' hq
theorem mW.push {G : mG} {A : Nat → Prop} {H0 : Heap} {M : Mem} {H : Heap} {locs : List Loc} (h : mW G A H0 M H locs) {e : va_E} {H1 : Heap} (he : va_at G.1 vwCl (H.size, e) H1) (z : H1.size = H.size + 1) (oq : ∀ q : Nat, q < H.size → H1[q]? = H[q]?) : M H.size = none ∧ mW G A H0 (mU M H.size e) H1 locs := by
  have hn : M H.size = none := by
    cases hq : M H.size with
    | none => rfl
    | some e' => exact absurd (h.1.lt hq) (Nat.lt_irrefl _)
  refine ⟨hn, fun q e' hq => ?_, fun q e' hq => ?_, ⟨Nat.le_trans h.2.2.1.1 (by omega), fun x h1 h2 => (oq x (Nat.lt_of_lt_of_le h1 h.2.2.1.1)).trans (h.2.2.1.2.1 x h1 h2), h.2.2.1.2.2⟩, h.2.2.2⟩
  · by_cases hqa : q = H.size
    · subst hqa
      rw [mU_eq] at hq
      cases hq
      exact he
    · rw [mU_ne hqa] at hq
      exact (h.1 q e' hq).kept (oq q (h.1.lt hq))
  · by_cases hqa : q = H.size
    · subst hqa
      exact h.2.2.2 _ h.2.2.1.1
    · rw [mU_ne hqa] at hq
      exact h.2.1 q e' hq
def Cx (p : Program) (c : Code) (s : State) (m : MethodId) (cc : ByteArray) (own : String) (nL : Nat) (G : mG) : Prop :=
  p.tables.exec = Jvm.exec ∧ c.code = cc ∧ c.maxLocals = nL ∧ s.vm.findClass own = some m.cls ∧ KT s ∧ mK G s
section MROWS
variable {p : Program} {l : Launch} {e : Env} {R : Room} {s : State} {m : MethodId} {args : Array Value} {below : List Frame} {meth : Method} {c : Code} {H : Heap} {locs : List Loc} {cells slots : Nat} {Q : State → Prop}
variable {cc : ByteArray} {pc nL : Nat} {ls : Array Slot} {rest : List Value} {G : mG} {A : Nat → Prop} {a : Nat} {M : Mem} {own : String} {H0 : Heap}
theorem mg_get (X : Cx p c s m cc own nL G) (hM : mW G A H0 M H locs) {ci k index N : Nat} {C : String} {T : u_T} (hci : vwCl[ci]? = some (C, T, N)) (hin : ∀ w ∈ u_ws C T N, w ∈ KTW) (hk : k < N) (hl : Cond.fieldLink own index (T k).1 (T k).2.1 (T k).2.2.1 ∈ KTW) (hdg : decode cc pc = .ok (.getfield index, 3)) {fs : List Value} (hc : M a = some (.inr (ci, fs))) {v : Value} (hv : fs[k]? = some v)
    (kk : W p l e R s m args below meth c H locs cells slots Q (F0 m (pc + 3) ls (v :: rest))) : W p l e R s m args below meth c H locs cells slots Q (F0 m pc ls (.ref a :: rest)) :=
  va_get (D := G.1) (cl := vwCl) (tys := mTys G) (ws := [(a, .inr (ci, fs))]) X.1 X.2.1 (Ts := KTW) X.2.2.2.2.1.ws hin X.2.2.2.1 X.2.2.2.2.2 (hM.1.one hc) 0 rfl hci k hk (X.2.2.2.2.1.use hl) (fun _ h => h) hv hdg kk
theorem mg_getN (X : Cx p c s m cc own nL G) (hM : mW G A H0 M H locs) {ci k index N : Nat} {C host : String} {T : u_T} (hci : vwCl[ci]? = some (C, T, N)) (hin : ∀ w ∈ u_ws C T N, w ∈ KTW) (hk : k < N) (hl : Cond.fieldLinkNest own index (T k).1 (T k).2.1 (T k).2.2.1 host ∈ KTW) (hdg : decode cc pc = .ok (.getfield index, 3)) {fs : List Value} (hc : M a = some (.inr (ci, fs))) {v : Value} (hv : fs[k]? = some v)
    (kk : W p l e R s m args below meth c H locs cells slots Q (F0 m (pc + 3) ls (v :: rest))) : W p l e R s m args below meth c H locs cells slots Q (F0 m pc ls (.ref a :: rest)) :=
  va_getN (D := G.1) (cl := vwCl) (tys := mTys G) (ws := [(a, .inr (ci, fs))]) X.1 X.2.1 (Ts := KTW) X.2.2.2.2.1.ws hin X.2.2.2.1 X.2.2.2.2.2 (hM.1.one hc) 0 rfl hci k hk (X.2.2.2.2.1.use hl) (fun _ h => h) hv hdg kk
theorem mg_put (X : Cx p c s m cc own nL G) (hM : mW G A H0 M H locs) {ci k index N : Nat} {C : String} {T : u_T} (ty0 : Nat → FieldType) (hty : ∀ k, k < N → parseFieldDescriptor (T k).2.2.1 = some (ty0 k)) (hnm : ∀ a, a < N → ∀ b, b < N → a ≠ b → (T a).2.1 ≠ (T b).2.1) (hci : vwCl[ci]? = some (C, T, N)) (hin : ∀ w ∈ u_ws C T N, w ∈ KTW) (hk : k < N) (hl : Cond.fieldLink own index (T k).1 (T k).2.1 (T k).2.2.1 ∈ KTW) (hfin : (T k).2.2.2 = false) (hdg : decode cc pc = .ok (.putfield index, 3)) {fs : List Value} (hc : M a = some (.inr (ci, fs))) {v : Value} (hn : narrow (ty0 k) v = v) (hfit : fits (ty0 k) v = true) (hlen : k < fs.length)
    (kk : ∀ (H1 : Heap) (locs1 : List Loc), mW G A H0 (mU M a (.inr (ci, fs.set k v))) H1 locs1 → W p l e R s m args below meth c H1 locs1 cells slots Q (F0 m (pc + 3) ls rest)) : W p l e R s m args below meth c H locs cells slots Q (F0 m pc ls (v :: .ref a :: rest)) := by
  have hts : ∀ w ∈ KTW, w.before args s = true := X.2.2.2.2.1.ws
  have hK : va_K G.1 vwCl (mTys G) s := X.2.2.2.2.2
  have hap := va_apart (own := own) hts hin ty0 hty hnm hK hci
  obtain ⟨r, h1, cell, q1, q2, q3, q4⟩ := hM.1 a _ hc
  have hr : r = (C, T, N) := Option.some.inj (h1.symm.trans hci)
  subst hr
  obtain ⟨hS, hfc, kC, hkC, hkind⟩ := hK.1 ci _ hci
  obtain ⟨cf, kf, fi, f, hi, hsl⟩ := hS k hk
  have hlay := hts _ (hin _ (u_in_lay hk))
  unfold u_lay at hlay
  rw [if_neg (by rw [hfin]; decide)] at hlay
  have hst := (u_facts hfc hkC (u_lays hts hin hk) hi).1
  have h6 := u_store hfc hkC hkind hlay hi (hty k hk) hn hfit
  refine W.putK X.1 X.2.1 (f := f) ⟨X.2.2.2.1, X.2.2.2.2.1.use hl, ⟨_, _, _, hi⟩, hst⟩ (by rw [q2]; exact h6) q1 q3 (by rw [hsl]; exact k2_hasslot (q4 k hk)) rfl rfl hdg fun H' e1 e2 e3 => ?_
  rw [hsl] at e1 ⊢
  exact kk H' _ (hM.put (e := .inr (ci, fs.set k v)) hc ⟨_, hci, t_OB.to (V := updV (vp_V fs) k v) ⟨_, e1, q2, q3, t_set q4 hap hk v⟩ (fun j _ => vp_updV_set hlen v j)⟩ e2 e3 _)
theorem mg_putN (X : Cx p c s m cc own nL G) (hM : mW G A H0 M H locs) {ci k index N : Nat} {C host : String} {T : u_T} (ty0 : Nat → FieldType) (hty : ∀ k, k < N → parseFieldDescriptor (T k).2.2.1 = some (ty0 k)) (hnm : ∀ a, a < N → ∀ b, b < N → a ≠ b → (T a).2.1 ≠ (T b).2.1) (hci : vwCl[ci]? = some (C, T, N)) (hin : ∀ w ∈ u_ws C T N, w ∈ KTW) (hk : k < N) (hl : Cond.fieldLinkNest own index (T k).1 (T k).2.1 (T k).2.2.1 host ∈ KTW) (hfin : (T k).2.2.2 = false) (hdg : decode cc pc = .ok (.putfield index, 3)) {fs : List Value} (hc : M a = some (.inr (ci, fs))) {v : Value} (hn : narrow (ty0 k) v = v) (hfit : fits (ty0 k) v = true) (hlen : k < fs.length)
    (kk : ∀ (H1 : Heap) (locs1 : List Loc), mW G A H0 (mU M a (.inr (ci, fs.set k v))) H1 locs1 → W p l e R s m args below meth c H1 locs1 cells slots Q (F0 m (pc + 3) ls rest)) : W p l e R s m args below meth c H locs cells slots Q (F0 m pc ls (v :: .ref a :: rest)) := by
  have hts : ∀ w ∈ KTW, w.before args s = true := X.2.2.2.2.1.ws
  have hK : va_K G.1 vwCl (mTys G) s := X.2.2.2.2.2
  have hap := va_apart (own := own) hts hin ty0 hty hnm hK hci
  obtain ⟨r, h1, cell, q1, q2, q3, q4⟩ := hM.1 a _ hc
  have hr : r = (C, T, N) := Option.some.inj (h1.symm.trans hci)
  subst hr
  obtain ⟨hS, hfc, kC, hkC, hkind⟩ := hK.1 ci _ hci
  obtain ⟨cf, kf, fi, f, hi, hsl⟩ := hS k hk
  have hlay := hts _ (hin _ (u_in_lay hk))
  unfold u_lay at hlay
  rw [if_neg (by rw [hfin]; decide)] at hlay
  have hst := (u_facts hfc hkC (u_lays hts hin hk) hi).1
  have h6 := u_store hfc hkC hkind hlay hi (hty k hk) hn hfit
  refine va_WputK X.1 X.2.1 (f := f) X.2.2.2.1 (X.2.2.2.2.1.use hl) hi hst (by rw [q2]; exact h6) q1 q3 (by rw [hsl]; exact k2_hasslot (q4 k hk)) rfl rfl hdg fun H' e1 e2 e3 => ?_
  rw [hsl] at e1 ⊢
  exact kk H' _ (hM.put (e := .inr (ci, fs.set k v)) hc ⟨_, hci, t_OB.to (V := updV (vp_V fs) k v) ⟨_, e1, q2, q3, t_set q4 hap hk v⟩ (fun j _ => vp_updV_set hlen v j)⟩ e2 e3 _)
theorem mg_putF (X : Cx p c s m cc own nL G) (hM : mW G A H0 M H locs) {ci k index N : Nat} {C : String} {T : u_T} (ty0 : Nat → FieldType) (hty : ∀ k, k < N → parseFieldDescriptor (T k).2.2.1 = some (ty0 k)) (hnm : ∀ a, a < N → ∀ b, b < N → a ≠ b → (T a).2.1 ≠ (T b).2.1) (hci : vwCl[ci]? = some (C, T, N)) (hin : ∀ w ∈ u_ws C T N, w ∈ KTW) (hk : k < N) (hl : Cond.fieldLink own index (T k).1 (T k).2.1 (T k).2.2.1 ∈ KTW) (hfin : (T k).2.2.2 = true) (hdecl : (T k).1 = own) (hdg : decode cc pc = .ok (.putfield index, 3)) (hin2 : meth.name = "<init>") {fs : List Value} (hc : M a = some (.inr (ci, fs))) {v : Value} (hn : narrow (ty0 k) v = v) (hfit : fits (ty0 k) v = true) (hlen : k < fs.length)
    (kk : ∀ (H1 : Heap) (locs1 : List Loc), mW G A H0 (mU M a (.inr (ci, fs.set k v))) H1 locs1 → W p l e R s m args below meth c H1 locs1 cells slots Q (F0 m (pc + 3) ls rest)) : W p l e R s m args below meth c H locs cells slots Q (F0 m pc ls (v :: .ref a :: rest)) := by
  have hts : ∀ w ∈ KTW, w.before args s = true := X.2.2.2.2.1.ws
  have hK : va_K G.1 vwCl (mTys G) s := X.2.2.2.2.2
  have hap := va_apart (own := own) hts hin ty0 hty hnm hK hci
  obtain ⟨r, h1, cell, q1, q2, q3, q4⟩ := hM.1 a _ hc
  have hr : r = (C, T, N) := Option.some.inj (h1.symm.trans hci)
  subst hr
  obtain ⟨hS, hfc, kC, hkC, hkind⟩ := hK.1 ci _ hci
  obtain ⟨cf, kf, fi, f, hi, hsl⟩ := hS k hk
  have hlay := hts _ (hin _ (u_in_lay hk))
  unfold u_lay at hlay
  rw [if_pos hfin] at hlay
  have hst := (u_facts hfc hkC (u_lays hts hin hk) hi).1
  have hown := X.2.2.2.1
  have hcf : m.cls = cf := by
    obtain ⟨_, _, c', _, _, _, -, -, hf', -, -, -, hown2, -⟩ := Cond.laysFinal_spec hlay
    have e1 : c' = cf := by have := hi.symm.trans hf'; simp at this; exact this.1.symm
    rw [hdecl] at hown2
    rw [← e1]; exact Option.some.inj (hown.symm.trans hown2)
  have h6 := u_fits hfc hkC hkind (Or.inr hlay) hi (hty k hk) hn hfit
  refine W.putFinK X.1 X.2.1 hown (X.2.2.2.2.1.use hl) hi hst hcf hin2 (by rw [q2]; exact h6) q1 q3 (by rw [hsl]; exact k2_hasslot (q4 k hk)) rfl rfl hdg fun H' e1 e2 e3 => ?_
  rw [hsl] at e1 ⊢
  exact kk H' _ (hM.put (e := .inr (ci, fs.set k v)) hc ⟨_, hci, t_OB.to (V := updV (vp_V fs) k v) ⟨_, e1, q2, q3, t_set q4 hap hk v⟩ (fun j _ => vp_updV_set hlen v j)⟩ e2 e3 _)
theorem mg_new (X : Cx p c s m cc own nL G) (hM : mW G A H0 M H locs) {ci index N : Nat} {C : String} {T : u_T} (ty : Nat → FieldType) (hty : ∀ k, k < N → parseFieldDescriptor (T k).2.2.1 = some (ty k)) (hci : vwCl[ci]? = some (C, T, N)) (hin : ∀ w ∈ u_ws C T N, w ∈ KTW) (hcl : Cond.classLink own index C ∈ KTW) (hinst : Cond.instantiable C N ∈ KTW) (hini : Cond.initialized C ∈ KTW) {fs : List Value} (hfs : ∀ j, j < N → defaultValue (ty j) = vp_V fs j) (hdg : decode cc pc = .ok (.new index, 3)) (hcells : cells + 1 ≤ R.cells) (hslots : slots + N ≤ R.slots)
    (kk : ∀ (q : Nat) (H1 : Heap), M q = none → mW G A H0 (mU M q (.inr (ci, fs))) H1 locs → W p l e R s m args below meth c H1 locs (cells + 1) (slots + N) Q (F0 m (pc + 3) ls (.ref q :: rest))) : W p l e R s m args below meth c H locs cells slots Q (F0 m pc ls rest) := by
  have hts : ∀ w ∈ KTW, w.before args s = true := X.2.2.2.2.1.ws
  have hK : va_K G.1 vwCl (mTys G) s := X.2.2.2.2.2
  have hKn := hK.1 ci _ hci
  refine W.newcK X.1 X.2.1 X.2.2.2.1 (X.2.2.2.2.1.use hcl) (X.2.2.2.2.1.use hinst) (X.2.2.2.2.1.use hini) rfl hdg hcells hslots hKn.2.1 rfl fun H1 kC hkC e1 z1 o1 => ?_
  have h := hM.push (e := .inr (ci, fs)) ⟨_, hci, (u_born ty hts hin hKn hkC e1 hty).to hfs⟩ z1 o1
  exact kk H.size H1 h.1 h.2
theorem mg_iald (X : Cx p c s m cc own nL G) (hM : mW G A H0 M H locs) {n : Nat} {f : Nat → Int32} (hdg : decode cc pc = .ok (.iaload, 1)) (hc : M a = some (.inl (G.2 0, n, .inl f))) {i : Int32} (hin : vp_in i n)
    (kk : W p l e R s m args below meth c H locs cells slots Q (F0 m (pc + 1) ls (.int (f i.toNatClampNeg) :: rest))) : W p l e R s m args below meth c H locs cells slots Q (F0 m pc ls (.int i :: .ref a :: rest)) :=
  va_iald (D := G.1) (cl := vwCl) (tys := mTys G) (ws := [(a, .inl (G.2 0, n, .inl f))]) X.1 X.2.1 X.2.2.2.2.2 (hM.1.one hc) 0 0 rfl rfl hin hdg kk
theorem mg_bald (X : Cx p c s m cc own nL G) (hM : mW G A H0 M H locs) {n : Nat} {f : Nat → Int32} (hdg : decode cc pc = .ok (.baload, 1)) (hc : M a = some (.inl (G.2 2, n, .inl f))) {i : Int32} (hin : vp_in i n)
    (kk : W p l e R s m args below meth c H locs cells slots Q (F0 m (pc + 1) ls (.int (f i.toNatClampNeg) :: rest))) : W p l e R s m args below meth c H locs cells slots Q (F0 m pc ls (.int i :: .ref a :: rest)) :=
  va_bald (D := G.1) (cl := vwCl) (tys := mTys G) (ws := [(a, .inl (G.2 2, n, .inl f))]) X.1 X.2.1 X.2.2.2.2.2 (hM.1.one hc) 0 2 rfl rfl hin hdg kk
theorem mg_aald (X : Cx p c s m cc own nL G) (hM : mW G A H0 M H locs) {n : Nat} {f : Nat → Option Nat} (t0 : Nat) {cA : ClassId} {C : String} (ht : (mTys G)[t0]? = some (cA, .object C)) (hdg : decode cc pc = .ok (.aaload, 1)) (hc : M a = some (.inl (cA, n, .inr (.inr (.inr (.inr f)))))) {i : Int32} (hin : vp_in i n)
    (kk : W p l e R s m args below meth c H locs cells slots Q (F0 m (pc + 1) ls (va_rf (f i.toNatClampNeg) :: rest))) : W p l e R s m args below meth c H locs cells slots Q (F0 m pc ls (.int i :: .ref a :: rest)) :=
  va_aldq (D := G.1) (cl := vwCl) (tys := mTys G) (ws := [(a, .inl (cA, n, .inr (.inr (.inr (.inr f)))))]) X.1 X.2.1 X.2.2.2.2.2 (hM.1.one hc) 0 t0 rfl ht hin hdg kk
theorem mg_alen (X : Cx p c s m cc own nL G) (hM : mW G A H0 M H locs) (t0 : Nat) {cA : ClassId} {ty : FieldType} (ht : (mTys G)[t0]? = some (cA, ty)) (hdg : decode cc pc = .ok (.arraylength, 1)) {x : vp_A} (hc : M a = some (.inl (cA, x)))
    (kk : W p l e R s m args below meth c H locs cells slots Q (F0 m (pc + 1) ls (.int (nI x.1) :: rest))) : W p l e R s m args below meth c H locs cells slots Q (F0 m pc ls (.ref a :: rest)) :=
  va_alen (D := G.1) (cl := vwCl) (tys := mTys G) (ws := [(a, .inl (cA, x))]) X.1 X.2.1 X.2.2.2.2.2 (hM.1.one hc) 0 t0 rfl ht rfl hdg kk
theorem mg_iast (X : Cx p c s m cc own nL G) (hM : mW G A H0 M H locs) {n : Nat} {f : Nat → Int32} (hdg : decode cc pc = .ok (.iastore, 1)) (hc : M a = some (.inl (G.2 0, n, .inl f))) {i x : Int32} (hin : vp_in i n)
    (kk : ∀ (H1 : Heap) (locs1 : List Loc), mW G A H0 (mU M a (.inl (G.2 0, n, .inl (upd f i.toNatClampNeg x)))) H1 locs1 → W p l e R s m args below meth c H1 locs1 cells slots Q (F0 m (pc + 1) ls rest)) : W p l e R s m args below meth c H locs cells slots Q (F0 m pc ls (.int x :: .int i :: .ref a :: rest)) := by
  have hK : va_K G.1 vwCl (mTys G) s := X.2.2.2.2.2
  refine W.iast X.1 X.2.1 (hM.1 a _ hc) ((hK.2 0 _ rfl).1 n (fun j => .int (f j))) (fun q => by cases q) (by show ¬ (i < 0 ∨ (arrV _ _ _).slots.size ≤ _); rw [arrV_size]; exact hin) rfl rfl hdg fun H1 e z oq => ?_
  refine kk H1 _ (hM.put hc ?_ z oq _)
  show H1[a]? = some (vp_cell _ _)
  rw [e]
  rw [vp_cell_i, vp_cell_i, arrV_store]
  congr 2
  funext q
  by_cases hq : q = i.toNatClampNeg
  · subst hq
    simp [updV, upd]
  · simp [updV, upd, hq]
theorem mg_aast (X : Cx p c s m cc own nL G) (hM : mW G A H0 M H locs) {n v ci : Nat} {vs : List Value} {f : Nat → Option Nat} (t0 : Nat) {cA : ClassId} {r : vw_C} (ht : (mTys G)[t0]? = some (cA, .object r.1)) (hci : vwCl[ci]? = some r) (hdg : decode cc pc = .ok (.aastore, 1)) (hc : M a = some (.inl (cA, n, .inr (.inr (.inr (.inr f)))))) (hv : M v = some (.inr (ci, vs))) {i : Int32} (hin : vp_in i n)
    (kk : ∀ (H1 : Heap) (locs1 : List Loc), mW G A H0 (mU M a (.inl (cA, n, .inr (.inr (.inr (.inr (va_up f i.toNatClampNeg (some v)))))))) H1 locs1 → W p l e R s m args below meth c H1 locs1 cells slots Q (F0 m (pc + 1) ls rest)) : W p l e R s m args below meth c H locs cells slots Q (F0 m pc ls (.ref v :: .int i :: .ref a :: rest)) := by
  have hK : va_K G.1 vwCl (mTys G) s := X.2.2.2.2.2
  have hlt : i.toNatClampNeg < n := Nat.not_le.mp fun q => hin (Or.inr q)
  have h0 : ¬ i < 0 := fun q => hin (Or.inl q)
  obtain ⟨r', hr', cellV, g1, g2, g3, -⟩ := hM.1 v _ hv
  have hcls := (hK.1 ci r hci).2
  obtain ⟨kA, comp, k1, k2, k3, -⟩ := (hK.2 t0 _ ht).2
  have hcomp : comp = G.1.1 ci := Option.some.inj (k3.symm.trans hcls.1)
  subst hcomp
  obtain ⟨kC, hkC, -⟩ := hcls.2
  refine W.aast X.1 X.2.1 (hM.1 a _ hc) (fun q h => by cases h) (fun h => by cases h) k1 k2 rfl hkC ⟨h0, by show _ < (arrV _ _ _).slots.size; rw [arrV_size]; exact hlt⟩ g1 (fun q h => by rw [g3] at h; cases h) (by rw [g2]; exact hkC) (by rw [g2]; exact va_assign hcls) rfl rfl hdg fun H1 e z oq => ?_
  refine kk H1 _ (hM.put hc ?_ z oq _)
  show H1[a]? = some (vp_cell _ _)
  rw [e]
  rw [vp_cell_q, vp_cell_q, arrV_store]
  congr 2
  funext q
  by_cases hq : q = i.toNatClampNeg
  · subst hq
    simp [updV, va_up, va_rf]
  · simp [updV, va_up, hq]
theorem mg_aastN (X : Cx p c s m cc own nL G) (hM : mW G A H0 M H locs) {n : Nat} {f : Nat → Option Nat} (t0 : Nat) {cA : ClassId} {C : String} (ht : (mTys G)[t0]? = some (cA, .object C)) (hdg : decode cc pc = .ok (.aastore, 1)) (hc : M a = some (.inl (cA, n, .inr (.inr (.inr (.inr f)))))) {i : Int32} (hin : vp_in i n)
    (kk : ∀ (H1 : Heap) (locs1 : List Loc), mW G A H0 (mU M a (.inl (cA, n, .inr (.inr (.inr (.inr (va_up f i.toNatClampNeg none))))))) H1 locs1 → W p l e R s m args below meth c H1 locs1 cells slots Q (F0 m (pc + 1) ls rest)) : W p l e R s m args below meth c H locs cells slots Q (F0 m pc ls (.null :: .int i :: .ref a :: rest)) := by
  have hK : va_K G.1 vwCl (mTys G) s := X.2.2.2.2.2
  refine va_WaastN (C := C) X.1 X.2.1 (hM.1 a _ hc) ((hK.2 t0 _ ht).1 n (fun j => va_rf (f j))) (fun h => by cases h) (by show ¬ (i < 0 ∨ (arrV _ _ _).slots.size ≤ _); rw [arrV_size]; exact hin) rfl rfl hdg fun H1 e z oq => ?_
  refine kk H1 _ (hM.put hc ?_ z oq _)
  show H1[a]? = some (vp_cell _ _)
  rw [e]
  rw [vp_cell_q, vp_cell_q, arrV_store]
  congr 2
  funext q
  by_cases hq : q = i.toNatClampNeg
  · subst hq
    simp [updV, va_up, va_rf]
  · simp [updV, va_up, hq]
/-- a new array of a primitive type whose array class is the k-th of the known ones -/
theorem mg_newa (X : Cx p c s m cc own nL G) (hM : mW G A H0 M H locs) {atype : ArrayType} (t0 : Nat) {cA : ClassId} {ty : FieldType} (hnm : ∀ D : ClassId, va_RA s D ty → s.vm.findClass ("[" ++ ty.toString) = some D) (hty : newarray.typeOf atype = ty) (ht : (mTys G)[t0]? = some (cA, ty)) (harr : Cond.arrayClass ty ∈ KTW) {n : Int32} {N' : Nat} {a0 : vp_A} (ha : vp_cell cA a0 = arrV cA N' (fun _ => defaultValue ty)) (hn : ¬ n < 0) (hN : n.toNatClampNeg = N') (hbytes : N' * componentBytes ty ≤ 536870912) (hdg : decode cc pc = .ok (.newarray atype, 2)) (hcells : cells + 1 ≤ R.cells) (hslots : slots + N' ≤ R.slots)
    (kk : ∀ (q : Nat) (H1 : Heap), M q = none → mW G A H0 (mU M q (.inl (cA, a0))) H1 locs → W p l e R s m args below meth c H1 locs (cells + 1) (slots + N') Q (F0 m (pc + 2) ls (.ref q :: rest))) : W p l e R s m args below meth c H locs cells slots Q (F0 m pc ls (.int n :: rest)) := by
  subst hty
  have hK : va_K G.1 vwCl (mTys G) s := X.2.2.2.2.2
  refine va_newaK X.1 X.2.1 (X.2.2.2.2.1.use harr) rfl hdg rfl hn hN hbytes hcells hslots rfl fun H1 cA' e1 z1 o1 hAr hNm => ?_
  have hc' : cA' = cA := Option.some.inj (hNm.symm.trans (hnm cA (hK.2 t0 _ ht).2))
  subst hc'
  have h := hM.push (e := .inl (cA', a0)) (H1 := H1) (by show H1[H.size]? = some (vp_cell _ _); rw [ha]; exact e1) z1 o1
  exact kk H.size H1 h.1 h.2
/-- a new array of references -/
theorem mg_newq (X : Cx p c s m cc own nL G) (hM : mW G A H0 M H locs) (t0 : Nat) {cA : ClassId} {C : String} {index : Nat} (ht : (mTys G)[t0]? = some (cA, .object C)) (hcl : Cond.classLink own index C ∈ KTW) (hov : Cond.arrayOver (.object C) ∈ KTW) {n : Int32} {N' : Nat} (hn : ¬ n < 0) (hN : n.toNatClampNeg = N') (hbytes : N' * 4 ≤ 536870912) (hdg : decode cc pc = .ok (.anewarray index, 3)) (hcells : cells + 1 ≤ R.cells) (hslots : slots + N' ≤ R.slots)
    (kk : ∀ (q : Nat) (H1 : Heap), M q = none → mW G A H0 (mU M q (.inl (cA, N', .inr (.inr (.inr (.inr (fun _ => none))))))) H1 locs → W p l e R s m args below meth c H1 locs (cells + 1) (slots + N') Q (F0 m (pc + 3) ls (.ref q :: rest))) : W p l e R s m args below meth c H locs cells slots Q (F0 m pc ls (.int n :: rest)) := by
  have hK : va_K G.1 vwCl (mTys G) s := X.2.2.2.2.2
  subst hN
  refine W.anew X.1 X.2.1 X.2.2.2.1 (X.2.2.2.2.1.use hcl) (X.2.2.2.2.1.use hov) rfl hdg rfl hn hbytes hcells hslots fun cA' kA comp f1 f2 f3 f4 => ?_
  obtain ⟨kA2, comp2, k1, k2, k3, k4⟩ := (hK.2 t0 _ ht).2
  have hc' : cA' = cA := Option.some.inj (f1.symm.trans k4)
  subst hc'
  generalize hH1 : H.push ({ cls := cA', slots := Array.replicate n.toNatClampNeg .null, vm := .none } : Cell) = H1
  have z1 : H1.size = H.size + 1 := by rw [← hH1, Array.size_push]
  have e1 : H1[H.size]? = some (arrV cA' n.toNatClampNeg (fun _ => .null)) := by rw [← hH1, Array.getElem?_push_size, ← arrV_new]
  have o1 : ∀ q : Nat, q < H.size → H1[q]? = H[q]? := fun q hq => by rw [← hH1, Array.getElem?_push, if_neg (Nat.ne_of_lt hq)]
  have h := hM.push (e := .inl (cA', n.toNatClampNeg, .inr (.inr (.inr (.inr (fun _ => none)))))) (H1 := H1) (by show H1[H.size]? = some (vp_cell _ _); rw [vp_cell_q]; exact e1) z1 o1
  exact kk H.size H1 h.1 h.2
theorem mg_objInit (X : Cx p c s m cc own nL G) {idx : Nat} (hl : Cond.methodLink own idx objectInit ∈ KTW) (hi : Cond.instanceMethod objectInit ∈ KTW) (hcode : Cond.code objectInit ⟨#[0xb1]⟩ 1 none ∈ KTW) (hdg : decode cc pc = .ok (.invokespecial idx, 3)) {lv : List (Nat × Value)} (hls : lv_has ls nL lv) (hframes : 1 ≤ R.frames) (hlocals : (rest.map fun v => v.category).sum + 12 ≤ R.locals)
    (kk : W p l e R s m args below meth c H locs cells slots Q (F0 m (pc + 3) ls rest)) : W p l e R s m args below meth c H locs cells slots Q (F0 m pc ls (.ref a :: rest)) :=
  W.objInit X.1 X.2.1 X.2.2.2.1 (X.2.2.2.2.1.use hl) (X.2.2.2.2.1.use hi) (X.2.2.2.2.1.use hcode) rfl (by rw [X.2.2.1]; exact hls.1) rfl hdg hframes (by show 2 * 0 + _ + 12 ≤ _; omega) kk
end MROWS
/-! contracts over a memory -/
def mPre (G : mG) (A : Nat → Prop) (sz : Nat) (av : List Value) (M : Mem) : Array Value → State → Prop := va_Pc av (fun U => U.heap.size = sz ∧ KT U ∧ mK G U ∧ mP G M U.heap ∧ mIn A M ∧ ∀ q, sz ≤ q → A q)
def mQ (G : mG) (A : Nat → Prop) (Post : Option Value → Mem → Prop) : Array Value → State → Outcome → State → Prop := fun _ st oc t => (∃ (r : Option Value) (M' : Mem), oc = .returned r ∧ Post r M' ∧ mP G M' t.heap ∧ mIn A M') ∧ va_F A st t
def mMet (l : Launch) (y : MethodName) (bc : ByteArray) (nL : Nat) (ret : Option FieldType) (rm : Room) (G : mG) (av : List Value) (M : Mem) (Post : Option Value → Mem → Prop) : Prop :=
  ∀ (A : Nat → Prop) (sz : Nat), Met l y [.code y bc nL ret] rm (mPre G A sz av M) (mQ G A Post) rm.cells rm.slots A
theorem mPre.blind {G : mG} {A : Nat → Prop} {sz : Nat} {av : List Value} {M : Mem} : FrameBlind (mPre G A sz av M) := by
  intro a U g mk h
  obtain ⟨h1, h2, h3, h4, h5, h6, h7⟩ := h
  exact ⟨h1, h2, KT.warm (s := U) (U := U.calling g mk a) (State.WarmedH.refl U) h3, mK.moved (u := U) (U := U.calling g mk a) (Vm.Alike.refl U.vm) h4, h5, h6, h7⟩
theorem mPre.at {p : Program} {c : Code} {s : State} {m : MethodId} {cc : ByteArray} {own : String} {nL : Nat} {G : mG} {A : Nat → Prop} {M : Mem} {H : Heap} {locs : List Loc} {H0 : Heap} (X : Cx p c s m cc own nL G) (hM : mW G A H0 M H locs) {av : List Value} {U : State} (hU : U.heap = H) (hW : s.WarmedH U.vm) : mPre G A H.size av M av.toArray U :=
  ⟨rfl, by rw [hU], KT.warm hW X.2.2.2.2.1, mK.moved hW.alike X.2.2.2.2.2, by rw [hU]; exact hM.1, hM.2.1, fun q hq => hM.2.2.2 q (Nat.le_trans hM.2.2.1.1 hq)⟩
section MCALL
variable {p : Program} {l : Launch} {e : Env} {R : Room} {s : State} {m : MethodId} {args : Array Value} {below : List Frame} {meth : Method} {c : Code} {H : Heap} {locs : List Loc} {cells slots : Nat} {Q : State → Prop}
variable {cc : ByteArray} {pc nL : Nat} {ls : Array Slot} {st0 rest : List Value} {G : mG} {A : Nat → Prop} {a : Nat} {M : Mem} {own : String} {H0 : Heap}
theorem mMet.of {y : MethodName} {bc : ByteArray} {ret : Option FieldType} {rm : Room} {av : List Value} {Post : Option Value → Mem → Prop} (hy : plainName y.cls = true) (hav : (lg_sl av).length ≤ nL)
    (body : ∀ (p : Program) (e : Env) (s : State) (m : MethodId) (args : Array Value) (below : List Frame) (meth : Method) (c : Code) (A : Nat → Prop) (ls : Array Slot), Cx p c s m bc y.cls nL G → meth.sig.returnType = ret → meth.locks = false → meth.name = y.name → mW G A s.heap M s.heap [] → lv_has ls nL (lv_args 0 av) →
      W p l e rm s m args below meth c s.heap [] 0 0 (MQ below (mQ G A Post) args s rm.cells rm.slots A) (F0 m 0 ls [])) : mMet l y bc nL ret rm G av M Post := by
  intro A sz
  refine Met.ofW (cc := bc) (maxL := nL) (ret := ret) (ws' := []) hy rfl ?_
  intro p e s m args below meth c s₁ B hml hv
  obtain ⟨rfl, hsz, h3, h4, h5, h6, h7⟩ := hv
  rw [lg_entry_eq]
  exact body p e s m _ below meth c A _ ⟨B.exec, B.bytes, hml, findClass_of_methodNamed B.named, h3, h4⟩ B.returns B.notSynchronized (name_of_methodNamed B.named B.method).1 ⟨h5, h6, va_S.rf, fun q hq => h7 q (by rw [← hsz]; exact hq)⟩ (lv_entry av hav)
theorem m_call {mc ms : Nat} {a : Array Value} {Post : Option Value → Mem → Prop} (hr : va_Run p l e R s m args below meth c H locs cells slots mc ms (F0 m pc ls st0) rest (mQ G A Post a) A) (hM : mW G A H0 M H locs)
    (kk : ∀ (r : Option Value) (M1 : Mem) (H1 : Heap) (locs1 : List Loc), Post r M1 → mW G A H0 M1 H1 locs1 → W p l e R s m args below meth c H1 locs1 (cells + mc) (slots + ms) Q (F0 m (pc + 3) ls (r.toList ++ rest))) : W p l e R s m args below meth c H locs cells slots Q (F0 m pc ls st0) := by
  intro T hT X
  obtain ⟨v, st₀, t, T', L, h0, X', hL, e1, e2, ⟨⟨r, M1, hv, hp, hP, hI⟩, hF⟩, st⟩ := hr T hT X
  cases hv
  obtain ⟨hz, hk⟩ := hF
  rw [h0] at hz hk
  obtain ⟨t2, a1, b1⟩ := kk v M1 T'.heap (locs ++ L) hp ⟨by rw [e1]; exact hP, hI, ⟨Nat.le_trans hM.2.2.1.1 (by rw [e1]; exact hz), fun q h1 h2 => by rw [e1, hk q (Nat.lt_of_lt_of_le h1 hM.2.2.1.1) h2]; exact hM.2.2.1.2.1 q h1 h2, fun q hq => (List.mem_append.mp hq).elim (hM.2.2.1.2.2 q) (hL q)⟩, hM.2.2.2⟩ T' rfl X'
  exact ⟨t2, st t2 a1, b1⟩
/-- the words of a contract of one word -/
theorem m_w1 {s : State} (h : KT s) {w : Cond} (hw : w ∈ KTW) : ∀ w' ∈ [w], ∀ (a' : Array Value) (U : State), s.WarmedH U.vm → w'.before a' U = true := by
  intro w' hw' a' U hW
  rw [List.mem_singleton.mp hw']
  exact (KT.warm hW h).use hw
theorem m_recv {s : State} (hK : mK G s) (hP : mP G M H) {ci : Nat} {C : String} {T : u_T} {N : Nat} {fs : List Value} (hci : vwCl[ci]? = some (C, T, N)) (hc : M a = some (.inr (ci, fs))) : ∃ cell : Cell, H[a]? = some cell ∧ cell.vm.isStatics = false ∧ s.vm.findClass C = some cell.cls :=
  va_recv (q0 := 0) hK (hP.one hc) hci rfl
/-- what a call of y by the link index of own rests on, but its room and its arguments -/
def mCk (own : String) (index : Nat) (y : MethodName) (bytes : ByteArray) (maxL : Nat) (ret : Option FieldType) (n : Nat) : Prop :=
  Cond.code y bytes maxL ret ∈ KTW ∧ Cond.initialized y.cls ∈ KTW ∧ (y.cls ≠ "java/lang/invoke/MethodHandle" ∧ y.cls ≠ "java/lang/invoke/VarHandle") ∧ (∀ sig, parseMethodDescriptor y.desc = some sig → n = sig.parameters.length) ∧ Cond.methodLink own index y ∈ KTW
def mCkN (own : String) (index : Nat) (y : MethodName) (host : String) (bytes : ByteArray) (maxL : Nat) (ret : Option FieldType) (n : Nat) : Prop :=
  Cond.code y bytes maxL ret ∈ KTW ∧ Cond.initialized y.cls ∈ KTW ∧ (y.cls ≠ "java/lang/invoke/MethodHandle" ∧ y.cls ≠ "java/lang/invoke/VarHandle") ∧ (∀ sig, parseMethodDescriptor y.desc = some sig → n = sig.parameters.length) ∧ Cond.methodLinkNest own index y host ∈ KTW
theorem mCk.ar {d : String} {n : Nat} (h : (parseMethodDescriptor d).map (fun d => d.parameters.length) = some n) : ∀ sig, parseMethodDescriptor d = some sig → n = sig.parameters.length := by
  intro sig hs
  rw [hs] at h
  exact (Option.some.inj h).symm
theorem m_callV (X : Cx p c s m cc own nL G) (hM : mW G A H0 M H locs) {ci index n : Nat} {C : String} {T : u_T} {N : Nat} {y : MethodName} {bytes : ByteArray} {maxL : Nat} {ret : Option FieldType} {rm : Room} {b : Nat} {As : List Value} {Post : Option Value → Mem → Prop} (K : mCk own index y bytes maxL ret n) (hi : Cond.instanceMethod y ∈ KTW) (hs : Cond.selects C y y ∈ KTW) (hci : vwCl[ci]? = some (C, T, N))
    (hdg : decode cc pc = .ok (.invokevirtual index, 3)) (hC : mMet l y bytes maxL ret rm G (.ref b :: As) M Post) {fs : List Value} (hc : M b = some (.inr (ci, fs))) (hn : As.length = n) {lv : List (Nat × Value)} (hls : lv_has ls nL lv) (hst : st0 = As.reverse ++ .ref b :: rest) (hW : (rest.map fun v => v.category).sum ≤ 8) (hR : rm.frames + 1 ≤ R.frames ∧ 8 + (maxL + 11) + rm.locals ≤ R.locals) (hf : cells + rm.cells ≤ R.cells ∧ slots + rm.slots ≤ R.slots)
    (kk : ∀ (r : Option Value) (M1 : Mem) (H1 : Heap) (locs1 : List Loc), Post r M1 → mW G A H0 M1 H1 locs1 → W p l e R s m args below meth c H1 locs1 (cells + rm.cells) (slots + rm.slots) Q (F0 m (pc + 3) ls (r.toList ++ rest))) : W p l e R s m args below meth c H locs cells slots Q (F0 m pc ls st0) := by
  subst hst
  obtain ⟨k1, k2, k3, k4, k5⟩ := K
  have hKT := X.2.2.2.2.1
  exact m_call (va_runV (As := As) (rest := rest) (g := F0 m pc ls (As.reverse ++ .ref b :: rest)) (Ts := KTW) ⟨X.1, X.2.1, X.2.2.1, X.2.2.2.1, hKT.ws⟩ (hC A H.size) ⟨⟨rfl, rfl, hR.1, hR.2, m_w1 hKT k1, List.mem_singleton.mpr rfl, hKT.use k1, hKT.use k2, k3, k4, hKT.use k5⟩, hKT.use hi, hKT.use hs⟩ ⟨mPre.blind, m_recv X.2.2.2.2.2 hM.1 hci hc, fun U hU hW => mPre.at X hM hU hW⟩ rfl hn hls.1 rfl (by show 2 * 0 + _ ≤ 8; omega) hdg hf) hM kk
theorem m_callS (X : Cx p c s m cc own nL G) (hM : mW G A H0 M H locs) {index n : Nat} {y : MethodName} {bytes : ByteArray} {maxL : Nat} {ret : Option FieldType} {rm : Room} {As : List Value} {Post : Option Value → Mem → Prop} (K : mCk own index y bytes maxL ret n) (hs : Cond.static y ∈ KTW)
    (hdg : decode cc pc = .ok (.invokestatic index, 3)) (hC : mMet l y bytes maxL ret rm G As M Post) (hn : As.length = n) {lv : List (Nat × Value)} (hls : lv_has ls nL lv) (hst : st0 = As.reverse ++ rest) (hW : (rest.map fun v => v.category).sum ≤ 8) (hR : rm.frames + 1 ≤ R.frames ∧ 8 + (maxL + 11) + rm.locals ≤ R.locals) (hf : cells + rm.cells ≤ R.cells ∧ slots + rm.slots ≤ R.slots)
    (kk : ∀ (r : Option Value) (M1 : Mem) (H1 : Heap) (locs1 : List Loc), Post r M1 → mW G A H0 M1 H1 locs1 → W p l e R s m args below meth c H1 locs1 (cells + rm.cells) (slots + rm.slots) Q (F0 m (pc + 3) ls (r.toList ++ rest))) : W p l e R s m args below meth c H locs cells slots Q (F0 m pc ls st0) := by
  subst hst
  obtain ⟨k1, k2, k3, k4, k5⟩ := K
  have hKT := X.2.2.2.2.1
  exact m_call (va_runS (As := As) (rest := rest) (g := F0 m pc ls (As.reverse ++ rest)) (Ts := KTW) ⟨X.1, X.2.1, X.2.2.1, X.2.2.2.1, hKT.ws⟩ (hC A H.size) ⟨⟨rfl, rfl, hR.1, hR.2, m_w1 hKT k1, List.mem_singleton.mpr rfl, hKT.use k1, hKT.use k2, k3, k4, hKT.use k5⟩, hKT.use hs⟩ ⟨mPre.blind, fun U hU hW => mPre.at X hM hU hW⟩ rfl hn hls.1 rfl (by show 2 * 0 + _ ≤ 8; omega) hdg hf) hM kk
theorem m_callI (X : Cx p c s m cc own nL G) (hM : mW G A H0 M H locs) {index n : Nat} {y : MethodName} {bytes : ByteArray} {maxL : Nat} {rm : Room} {b : Nat} {As : List Value} {Post : Option Value → Mem → Prop} (K : mCk own index y bytes maxL none n) (hi : Cond.instanceMethod y ∈ KTW) (hy1 : y.name = "<init>")
    (hdg : decode cc pc = .ok (.invokespecial index, 3)) (hC : mMet l y bytes maxL none rm G (.ref b :: As) M Post) (hn : As.length = n) {lv : List (Nat × Value)} (hls : lv_has ls nL lv) (hst : st0 = As.reverse ++ .ref b :: rest) (hW : (rest.map fun v => v.category).sum ≤ 8) (hR : rm.frames + 1 ≤ R.frames ∧ 8 + (maxL + 11) + rm.locals ≤ R.locals) (hf : cells + rm.cells ≤ R.cells ∧ slots + rm.slots ≤ R.slots)
    (kk : ∀ (r : Option Value) (M1 : Mem) (H1 : Heap) (locs1 : List Loc), Post r M1 → mW G A H0 M1 H1 locs1 → W p l e R s m args below meth c H1 locs1 (cells + rm.cells) (slots + rm.slots) Q (F0 m (pc + 3) ls (r.toList ++ rest))) : W p l e R s m args below meth c H locs cells slots Q (F0 m pc ls st0) := by
  subst hst
  obtain ⟨k1, k2, k3, k4, k5⟩ := K
  have hKT := X.2.2.2.2.1
  exact m_call (va_runI (As := As) (rest := rest) (g := F0 m pc ls (As.reverse ++ .ref b :: rest)) (Ts := KTW) ⟨X.1, X.2.1, X.2.2.1, X.2.2.2.1, hKT.ws⟩ (hC A H.size) ⟨⟨rfl, rfl, hR.1, hR.2, m_w1 hKT k1, List.mem_singleton.mpr rfl, hKT.use k1, hKT.use k2, k3, k4, hKT.use k5⟩, hy1, hKT.use hi⟩ ⟨mPre.blind, fun U hU hW => mPre.at X hM hU hW⟩ rfl hn hls.1 rfl (by show 2 * 0 + _ ≤ 8; omega) hdg hf) hM kk
theorem m_callVN (X : Cx p c s m cc own nL G) (hM : mW G A H0 M H locs) {ci index n : Nat} {C host : String} {T : u_T} {N : Nat} {y : MethodName} {bytes : ByteArray} {maxL : Nat} {ret : Option FieldType} {rm : Room} {b : Nat} {As : List Value} {Post : Option Value → Mem → Prop} (K : mCkN own index y host bytes maxL ret n) (hi : Cond.instanceMethod y ∈ KTW) (hs : Cond.selects C y y ∈ KTW) (hci : vwCl[ci]? = some (C, T, N))
    (hdg : decode cc pc = .ok (.invokevirtual index, 3)) (hC : mMet l y bytes maxL ret rm G (.ref b :: As) M Post) {fs : List Value} (hc : M b = some (.inr (ci, fs))) (hn : As.length = n) {lv : List (Nat × Value)} (hls : lv_has ls nL lv) (hst : st0 = As.reverse ++ .ref b :: rest) (hW : (rest.map fun v => v.category).sum ≤ 8) (hR : rm.frames + 1 ≤ R.frames ∧ 8 + (maxL + 11) + rm.locals ≤ R.locals) (hf : cells + rm.cells ≤ R.cells ∧ slots + rm.slots ≤ R.slots)
    (kk : ∀ (r : Option Value) (M1 : Mem) (H1 : Heap) (locs1 : List Loc), Post r M1 → mW G A H0 M1 H1 locs1 → W p l e R s m args below meth c H1 locs1 (cells + rm.cells) (slots + rm.slots) Q (F0 m (pc + 3) ls (r.toList ++ rest))) : W p l e R s m args below meth c H locs cells slots Q (F0 m pc ls st0) := by
  subst hst
  obtain ⟨k1, k2, k3, k4, k5⟩ := K
  have hKT := X.2.2.2.2.1
  exact m_call (va_runVN (As := As) (rest := rest) (g := F0 m pc ls (As.reverse ++ .ref b :: rest)) (Ts := KTW) ⟨X.1, X.2.1, X.2.2.1, X.2.2.2.1, hKT.ws⟩ (hC A H.size) ⟨⟨⟨rfl, rfl, hR.1, hR.2, m_w1 hKT k1, List.mem_singleton.mpr rfl⟩, hKT.use k1, hKT.use k2, k3, k4, hKT.use k5⟩, hKT.use hi, hKT.use hs⟩ ⟨mPre.blind, m_recv X.2.2.2.2.2 hM.1 hci hc, fun U hU hW => mPre.at X hM hU hW⟩ rfl hn hls.1 rfl (by show 2 * 0 + _ ≤ 8; omega) hdg hf) hM kk
theorem m_callIN (X : Cx p c s m cc own nL G) (hM : mW G A H0 M H locs) {index n : Nat} {host : String} {y : MethodName} {bytes : ByteArray} {maxL : Nat} {rm : Room} {b : Nat} {As : List Value} {Post : Option Value → Mem → Prop} (K : mCkN own index y host bytes maxL none n) (hi : Cond.instanceMethod y ∈ KTW) (hy1 : y.name = "<init>")
    (hdg : decode cc pc = .ok (.invokespecial index, 3)) (hC : mMet l y bytes maxL none rm G (.ref b :: As) M Post) (hn : As.length = n) {lv : List (Nat × Value)} (hls : lv_has ls nL lv) (hst : st0 = As.reverse ++ .ref b :: rest) (hW : (rest.map fun v => v.category).sum ≤ 8) (hR : rm.frames + 1 ≤ R.frames ∧ 8 + (maxL + 11) + rm.locals ≤ R.locals) (hf : cells + rm.cells ≤ R.cells ∧ slots + rm.slots ≤ R.slots)
    (kk : ∀ (r : Option Value) (M1 : Mem) (H1 : Heap) (locs1 : List Loc), Post r M1 → mW G A H0 M1 H1 locs1 → W p l e R s m args below meth c H1 locs1 (cells + rm.cells) (slots + rm.slots) Q (F0 m (pc + 3) ls (r.toList ++ rest))) : W p l e R s m args below meth c H locs cells slots Q (F0 m pc ls st0) := by
  subst hst
  obtain ⟨k1, k2, k3, k4, k5⟩ := K
  have hKT := X.2.2.2.2.1
  exact m_call (va_runIN (As := As) (rest := rest) (g := F0 m pc ls (As.reverse ++ .ref b :: rest)) (Ts := KTW) ⟨X.1, X.2.1, X.2.2.1, X.2.2.2.1, hKT.ws⟩ (hC A H.size) ⟨⟨⟨rfl, rfl, hR.1, hR.2, m_w1 hKT k1, List.mem_singleton.mpr rfl⟩, hKT.use k1, hKT.use k2, k3, k4, hKT.use k5⟩, hy1, hKT.use hi⟩ ⟨mPre.blind, fun U hU hW => mPre.at X hM hU hW⟩ rfl hn hls.1 rfl (by show 2 * 0 + _ ≤ 8; omega) hdg hf) hM kk
theorem m_post {Post : Option Value → Mem → Prop} {r : Option Value} (hM : mW G A s.heap M H locs) (hp : Post r M) : ∀ t : State, t.heap = H → s.WarmedH t.vm → mQ G A Post args s (.returned r) t :=
  fun _ ht _ => ⟨⟨r, M, rfl, hp, by rw [ht]; exact hM.1, hM.2.1⟩, hM.2.2.1.F ht⟩
theorem m_iret {Post : Option Value → Mem → Prop} {mc ms : Nat} {v : Int32} (X : Cx p c s m cc own nL G) (hr : meth.sig.returnType = some .int) (hlocks : meth.locks = false) (hM : mW G A s.heap M H locs) (hdg : decode cc pc = .ok (.ireturn, 1)) (hcs : cells ≤ mc ∧ slots ≤ ms) (hp : Post (some (.int v)) M) : W p l e R s m args below meth c H locs cells slots (MQ below (mQ G A Post) args s mc ms A) (F0 m pc ls [.int v]) :=
  W.widen hcs.1 hcs.2 (W.iret X.1 X.2.1 hr (m_post hM hp) hM.2.2.1.2.2 hdg hlocks)
theorem m_zret {Post : Option Value → Mem → Prop} {mc ms : Nat} {v : Int32} {ty : FieldType} (X : Cx p c s m cc own nL G) (hr : meth.sig.returnType = some ty) (hlocks : meth.locks = false) (hM : mW G A s.heap M H locs) (hdg : decode cc pc = .ok (.ireturn, 1)) (hcs : cells ≤ mc ∧ slots ≤ ms) (hn : narrow ty (.int v) = .int v) (hp : Post (some (.int v)) M) : W p l e R s m args below meth c H locs cells slots (MQ below (mQ G A Post) args s mc ms A) (F0 m pc ls [.int v]) :=
  W.widen hcs.1 hcs.2 (W.zret X.1 X.2.1 hr hn (m_post hM hp) hM.2.2.1.2.2 hdg hlocks)
theorem m_vret {Post : Option Value → Mem → Prop} {mc ms : Nat} (X : Cx p c s m cc own nL G) (hr : meth.sig.returnType = none) (hlocks : meth.locks = false) (hM : mW G A s.heap M H locs) (hdg : decode cc pc = .ok (.return_, 1)) (hcs : cells ≤ mc ∧ slots ≤ ms) (hp : Post none M) : W p l e R s m args below meth c H locs cells slots (MQ below (mQ G A Post) args s mc ms A) (F0 m pc ls []) :=
  W.widen hcs.1 hcs.2 (W.vret X.1 X.2.1 hr (m_post hM hp) hM.2.2.1.2.2 hdg hlocks)
theorem m_aret {Post : Option Value → Mem → Prop} {mc ms : Nat} {r : Option Nat} {nm : String} (X : Cx p c s m cc own nL G) (hr : meth.sig.returnType = some (.object nm)) (hlocks : meth.locks = false) (hM : mW G A s.heap M H locs) (hdg : decode cc pc = .ok (.areturn, 1)) (hcs : cells ≤ mc ∧ slots ≤ ms) (hp : Post (some (va_rf r)) M) : W p l e R s m args below meth c H locs cells slots (MQ below (mQ G A Post) args s mc ms A) (F0 m pc ls [va_rf r]) :=
  W.widen hcs.1 hcs.2 (W.aret X.1 X.2.1 hr (Or.inl ⟨nm, rfl⟩) (va_rf_or r) (m_post hM hp) hM.2.2.1.2.2 hdg hlocks)
end MCALL
