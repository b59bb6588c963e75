theorem mx_bast {p : Program} {l : Launch} {e : Env} {R : Room} {s : State} {m : MethodId} {args : Array Value} {below : List Frame} {meth : Method} {c : Code} {H : Heap} {locs : List Loc} {cells slots : Nat} {Q : State → Prop} {cc : ByteArray} {pc nL : Nat} {ls : Array Slot} {rest : List Value} {G : mG} {A : Nat → Prop} {a : Nat} {M : Mem} {own : String} {H0 : Heap} (X : Cx p c s m cc own nL G) (hM : mW G A H0 M H locs) {n v : Nat} {f : Nat → Int32} (hv : v < 128) (hdg : decode cc pc = .ok (.bastore, 1)) (hc : M a = some (.inl (G.2 2, n, .inl f))) {i : Nat} {iv : Int32} (he : iv = nI i) (hi : i < n) (hn : n < 2 ^ 31)
    (kk : ∀ (H1 : Heap) (locs1 : List Loc), mW G A H0 (mU M a (.inl (G.2 2, n, .inl (upd f i (nI v))))) H1 locs1 → W p l e R s m args below meth c H1 locs1 cells slots Q (F0 m (pc + 1) ls rest)) : W p l e R s m args below meth c H locs cells slots Q (F0 m pc ls (.int (nI v) :: .int iv :: .ref a :: rest)) := by
  subst he
  have hK : va_K G.1 vwCl (mTys G) s := X.2.2.2.2.2
  have hb9 : ∀ v, v < 128 → vp_nar .byte (nI v) = nI v := by decide +kernel
  refine W.bast X.1 X.2.1 (hM.1 a _ hc) ((hK.2 2 _ rfl).1 n (fun j => .int (f j))) (fun q => by cases q) (by show ¬ (nI i < 0 ∨ (arrV _ _ _).slots.size ≤ _); rw [arrV_size]; exact vp_in_nI hi hn) rfl rfl hdg fun H1 e z oq => ?_
  refine kk H1 _ (hM.put hc ?_ z oq _)
  show H1[a]? = some (vp_cell _ _)
  rw [e]
  rw [vp_cell_i, vp_cell_i, arrV_store, nI_clamp (by omega)]
  congr 2
  funext q
  by_cases hq : q = i
  · subst hq
    have h9 := hb9 v hv
    simp [updV, upd]
    exact congrArg Value.int h9
  · simp [updV, upd, hq]
theorem neg_ti {v : Nat} (h : v < 2 ^ 30) : (-(nI v)).toInt = -((v : Nat) : Int) := by
  have h1 := pk_sub_toInt (a := 0) (b := v) (by decide) h
  have e : nI 0 - nI v = -(nI v) := by rw [show nI 0 = (0 : Int32) from rfl, Int32.zero_sub]
  rw [← e, h1]
  omega
theorem neg_neg_nI (v : Nat) : -(-(nI v)) = nI v := Int32.neg_neg
theorem i2b_nI {v : Nat} (h : v < 128) : (nI v).toInt8.toInt32 = nI v := by
  have key : ∀ v, v < 128 → (nI v).toInt8.toInt32 = nI v := by decide +kernel
  exact key v h
theorem c_J5_isLatin1_aae02 (l : Launch) (G : mG) (M : Mem) (q : Nat) (b : Nat) (n : Nat) (hq : M q = some (.inr (0, [.ref b, .int (nI 0), .int 0, .int (nI n)]))) : jMet l yJ5_isLatin1_aae02 cJ5_isLatin1_aae02 1 (some FieldType.boolean) ({ frames := 0, cells := 0, slots := 0, locals := 0 } : Room) G [.ref q] M (fun r M' => r = some (.int (nI 1)) ∧ M = M') := by
  refine jMet.of (by decide) (Nat.le_of_ble_eq_true rfl) ?_
  intro p e s m args below meth c A ls X hr hlocks hname hM hl hS hZ
  have hl : lv_has ls 1 [(0, .ref q)] := hl
  refine mj_gets X hM hZ.2.2.1 kfs_J5_18 dJ5_isLatin1_aae02_0 ?_
  refine lv_top (y := nI 1) rfl ?_
  refine b_if_eq (tgt := 17) X dJ5_isLatin1_aae02_3 (by decide) (a := ((1 : Nat) : Int)) (nI_ti (by omega)) (fun c1 => ?_) (fun c1 => ?_)
  · skip
    exact absurd c1 (by first | decide | omega)
  · skip
    refine lv_aload_n X.1 X.2.1 dJ5_isLatin1_aae02_6 rfl (lv_at hl 0 rfl) ?_
    refine mg_get X hM (ci := 0) (k := 1) rfl kwJ4 (by decide) kf_J5_22 dJ5_isLatin1_aae02_7 hq (v := .int (nI (0))) rfl ?_
    refine b_if_ne (tgt := 17) X dJ5_isLatin1_aae02_10 (by decide) (a := ((0 : Nat) : Int)) (nI_ti (by omega)) (fun c2 => ?_) (fun c2 => ?_)
    · skip
      exact absurd c2 (by first | decide | omega)
    · skip
      refine lv_iconst (v := nI (1)) X.1 X.2.1 dJ5_isLatin1_aae02_13 (by decide) ?_
      refine lv_goto (tgt := 18) X.1 X.2.1 dJ5_isLatin1_aae02_14 (by decide) ?_
      exact m_zret X hr hlocks hM dJ5_isLatin1_aae02_18 ⟨Nat.le_of_ble_eq_true rfl, Nat.le_of_ble_eq_true rfl⟩ (rfl) (⟨rfl, rfl⟩)
theorem c_J5_ensureCapacityInternal_d00df (l : Launch) (G : mG) (M : Mem) (q : Nat) (b : Nat) (n : Nat) (f : Nat → Int32) (k : Nat) (hq : M q = some (.inr (0, [.ref b, .int (nI 0), .int 0, .int (nI n)]))) (hb : M b = some (.inl (G.2 2, 16, .inl f))) (hk : k ≤ 16) : mMet l yJ5_ensureCapacityInternal_d00df cJ5_ensureCapacityInternal_d00df 3 none ({ frames := 0, cells := 0, slots := 0, locals := 0 } : Room) G [.ref q, .int (nI (k))] M (fun r M' => r = none ∧ M = M') := by
  refine mMet.of (by decide) (Nat.le_of_ble_eq_true rfl) ?_
  intro p e s m args below meth c A ls X hr hlocks hname hM hl
  have hl : lv_has ls 3 [(0, .ref q), (1, .int (nI (k)))] := hl
  refine lv_aload_n X.1 X.2.1 dJ5_ensureCapacityInternal_d00df_0 rfl (lv_at hl 0 rfl) ?_
  refine mg_get X hM (ci := 0) (k := 0) rfl kwJ4 (by decide) kf_J5_15 dJ5_ensureCapacityInternal_d00df_1 hq (v := .ref b) rfl ?_
  refine mg_alen X hM 2 rfl dJ5_ensureCapacityInternal_d00df_4 hb ?_
  refine lv_aload_n X.1 X.2.1 dJ5_ensureCapacityInternal_d00df_5 rfl (lv_at hl 0 rfl) ?_
  refine mg_get X hM (ci := 0) (k := 1) rfl kwJ4 (by decide) kf_J5_22 dJ5_ensureCapacityInternal_d00df_6 hq (v := .int (nI (0))) rfl ?_
  refine lv_ishr X.1 X.2.1 dJ5_ensureCapacityInternal_d00df_9 ?_
  refine lv_top (y := nI 16) (show nI 16 >>> (nI 0 &&& 31) = nI 16 by decide) ?_
  refine lv_istore_n (lv' := [(2, .int (nI (16))), (0, .ref q), (1, .int (nI (k)))]) X.1 X.2.1 dJ5_ensureCapacityInternal_d00df_10 rfl hl (by decide) rfl (fun ls hl => ?_)
  refine lv_iload_n X.1 X.2.1 dJ5_ensureCapacityInternal_d00df_11 rfl (lv_at hl 2 rfl) ?_
  refine lv_iload_n X.1 X.2.1 dJ5_ensureCapacityInternal_d00df_12 rfl (lv_at hl 0 rfl) ?_
  refine lv_isub X.1 X.2.1 dJ5_ensureCapacityInternal_d00df_13 ?_
  refine b_if_le (tgt := 38) X dJ5_ensureCapacityInternal_d00df_14 (by decide) (a := ((k : Nat) : Int) - ((16 : Nat) : Int)) (pk_sub_toInt (by omega) (by omega)) (fun c1 => ?_) (fun c1 => ?_)
  · skip
    exact m_vret X hr hlocks hM dJ5_ensureCapacityInternal_d00df_38 ⟨Nat.le_of_ble_eq_true rfl, Nat.le_of_ble_eq_true rfl⟩ (⟨rfl, rfl⟩)
  · skip
    exact absurd c1 (by omega)
theorem c_J1_canEncode_fc78d (l : Launch) (G : mG) (M : Mem) (k : Nat) (hk : k < 128) : mMet l yJ1_canEncode_fc78d cJ1_canEncode_fc78d 1 (some FieldType.boolean) ({ frames := 0, cells := 0, slots := 0, locals := 0 } : Room) G [.int (nI (k))] M (fun r M' => r = some (.int (nI 1)) ∧ M = M') := by
  refine mMet.of (by decide) (Nat.le_of_ble_eq_true rfl) ?_
  intro p e s m args below meth c A ls X hr hlocks hname hM hl
  have hl : lv_has ls 1 [(0, .int (nI (k)))] := hl
  refine lv_iload_n X.1 X.2.1 dJ1_canEncode_fc78d_0 rfl (lv_at hl 0 rfl) ?_
  refine lv_sipush (v := nI (255)) X.1 X.2.1 dJ1_canEncode_fc78d_1 (by decide) ?_
  refine b_icmp_gt (tgt := 11) X dJ1_canEncode_fc78d_4 (by decide) (a := ((k : Nat) : Int)) (b := ((255 : Nat) : Int)) (nI_ti (by omega)) (nI_ti (by omega)) (fun c1 => ?_) (fun c1 => ?_)
  · skip
    refine lv_iconst (v := nI (0)) X.1 X.2.1 dJ1_canEncode_fc78d_11 (by decide) ?_
    exact m_zret X hr hlocks hM dJ1_canEncode_fc78d_12 ⟨Nat.le_of_ble_eq_true rfl, Nat.le_of_ble_eq_true rfl⟩ (rfl) (⟨by first | rfl | (exfalso; omega), rfl⟩)
  · skip
    refine lv_iconst (v := nI (1)) X.1 X.2.1 dJ1_canEncode_fc78d_7 (by decide) ?_
    refine lv_goto (tgt := 12) X.1 X.2.1 dJ1_canEncode_fc78d_8 (by decide) ?_
    exact m_zret X hr hlocks hM dJ1_canEncode_fc78d_12 ⟨Nat.le_of_ble_eq_true rfl, Nat.le_of_ble_eq_true rfl⟩ (rfl) (⟨by first | rfl | (exfalso; omega), rfl⟩)
theorem c_J5_length_8abf5 (l : Launch) (G : mG) (M : Mem) (q : Nat) (b : Nat) (n : Nat) (hq : M q = some (.inr (0, [.ref b, .int (nI 0), .int 0, .int (nI n)]))) : jMet l yJ5_length_8abf5 cJ5_length_8abf5 1 (some FieldType.int) ({ frames := 0, cells := 0, slots := 0, locals := 0 } : Room) G [.ref q] M (fun r M' => r = some (.int (nI n)) ∧ M = M') := by
  refine jMet.of (by decide) (Nat.le_of_ble_eq_true rfl) ?_
  intro p e s m args below meth c A ls X hr hlocks hname hM hl hS hZ
  have hl : lv_has ls 1 [(0, .ref q)] := hl
  refine lv_aload_n X.1 X.2.1 dJ5_length_8abf5_0 rfl (lv_at hl 0 rfl) ?_
  refine mg_get X hM (ci := 0) (k := 3) rfl kwJ4 (by decide) kf_J5_79 dJ5_length_8abf5_1 hq (v := .int (nI (n))) rfl ?_
  exact m_iret X hr hlocks hM dJ5_length_8abf5_4 ⟨Nat.le_of_ble_eq_true rfl, Nat.le_of_ble_eq_true rfl⟩ (⟨rfl, rfl⟩)
