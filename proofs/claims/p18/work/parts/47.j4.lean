theorem and_nI {v : Nat} (h : v < 128) : nI v &&& nI 255 = nI v := by
  have key : ∀ v, v < 128 → nI v &&& nI 255 = nI v := by decide +kernel
  exact key v h
theorem nar_chr9 {v : Nat} (h : v < 128) : narrow FieldType.char (.int (nI v)) = .int (nI v) := by
  have key : ∀ v, v < 128 → ((nI v).toUInt32 % 65536).toInt32 = nI v := by decide +kernel
  exact congrArg Value.int (key v h)
theorem c_J3_checkIndex_8e157N (l : Launch) (G : mG) (M : Mem) (i : Nat) (n : Nat) (hi : i < n) (hn : n < 2 ^ 30) : mMet l yJ3_checkIndex_8e157 cJ3_checkIndex_8e157 3 (some FieldType.int) ({ frames := 0, cells := 0, slots := 0, locals := 0 } : Room) G [.int (nI (i)), .int (nI (n)), .null] M (fun r M' => r = some (.int (nI i)) ∧ M = M') := by
  refine mMet.of (by decide) (Nat.le_of_ble_eq_true rfl) ?_
  intro p e s m args below meth c A ls X hr hlocks hname hM hl
  have hl : lv_has ls 3 [(0, .int (nI (i))), (1, .int (nI (n))), (2, .null)] := hl
  refine lv_iload_n X.1 X.2.1 dJ3_checkIndex_8e157_0 rfl (lv_at hl 0 rfl) ?_
  refine b_if_lt (tgt := 9) X dJ3_checkIndex_8e157_1 (by decide) (a := ((i : Nat) : Int)) (nI_ti (by omega)) (fun c1 => ?_) (fun c1 => ?_)
  · skip
    exact absurd c1 (by omega)
  · skip
    refine lv_iload_n X.1 X.2.1 dJ3_checkIndex_8e157_4 rfl (lv_at hl 0 rfl) ?_
    refine lv_iload_n X.1 X.2.1 dJ3_checkIndex_8e157_5 rfl (lv_at hl 1 rfl) ?_
    refine b_icmp_lt (tgt := 16) X dJ3_checkIndex_8e157_6 (by decide) (a := ((i : Nat) : Int)) (b := ((n : Nat) : Int)) (nI_ti (by omega)) (nI_ti (by omega)) (fun c2 => ?_) (fun c2 => ?_)
    · skip
      refine lv_iload_n X.1 X.2.1 dJ3_checkIndex_8e157_16 rfl (lv_at hl 0 rfl) ?_
      exact m_iret X hr hlocks hM dJ3_checkIndex_8e157_17 ⟨Nat.le_of_ble_eq_true rfl, Nat.le_of_ble_eq_true rfl⟩ (⟨rfl, rfl⟩)
    · skip
      exact absurd c2 (by omega)
theorem c_J3_checkIndex_8e157R (l : Launch) (G : mG) (M : Mem) (i : Nat) (n : Nat) (t : Nat) (hi : i < n) (hn : n < 2 ^ 30) : mMet l yJ3_checkIndex_8e157 cJ3_checkIndex_8e157 3 (some FieldType.int) ({ frames := 0, cells := 0, slots := 0, locals := 0 } : Room) G [.int (nI (i)), .int (nI (n)), .ref t] M (fun r M' => r = some (.int (nI i)) ∧ M = M') := by
  refine mMet.of (by decide) (Nat.le_of_ble_eq_true rfl) ?_
  intro p e s m args below meth c A ls X hr hlocks hname hM hl
  have hl : lv_has ls 3 [(0, .int (nI (i))), (1, .int (nI (n))), (2, .ref t)] := hl
  refine lv_iload_n X.1 X.2.1 dJ3_checkIndex_8e157_0 rfl (lv_at hl 0 rfl) ?_
  refine b_if_lt (tgt := 9) X dJ3_checkIndex_8e157_1 (by decide) (a := ((i : Nat) : Int)) (nI_ti (by omega)) (fun c1 => ?_) (fun c1 => ?_)
  · skip
    exact absurd c1 (by omega)
  · skip
    refine lv_iload_n X.1 X.2.1 dJ3_checkIndex_8e157_4 rfl (lv_at hl 0 rfl) ?_
    refine lv_iload_n X.1 X.2.1 dJ3_checkIndex_8e157_5 rfl (lv_at hl 1 rfl) ?_
    refine b_icmp_lt (tgt := 16) X dJ3_checkIndex_8e157_6 (by decide) (a := ((i : Nat) : Int)) (b := ((n : Nat) : Int)) (nI_ti (by omega)) (nI_ti (by omega)) (fun c2 => ?_) (fun c2 => ?_)
    · skip
      refine lv_iload_n X.1 X.2.1 dJ3_checkIndex_8e157_16 rfl (lv_at hl 0 rfl) ?_
      exact m_iret X hr hlocks hM dJ3_checkIndex_8e157_17 ⟨Nat.le_of_ble_eq_true rfl, Nat.le_of_ble_eq_true rfl⟩ (⟨rfl, rfl⟩)
    · skip
      exact absurd c2 (by omega)
theorem c_J0_checkIndex_df160 (l : Launch) (G : mG) (M : Mem) (i : Nat) (n : Nat) (hi : i < n) (hn : n < 2 ^ 30) : jMet l yJ0_checkIndex_df160 cJ0_checkIndex_df160 2 none ({ frames := 1, cells := 0, slots := 0, locals := 22 } : Room) G [.int (nI (i)), .int (nI (n))] M (fun r M' => r = none ∧ M = M') := by
  refine jMet.of (by decide) (Nat.le_of_ble_eq_true rfl) ?_
  intro p e s m args below meth c A ls X hr hlocks hname hM hl hS hZ
  have hl : lv_has ls 2 [(0, .int (nI (i))), (1, .int (nI (n)))] := hl
  refine lv_iload_n X.1 X.2.1 dJ0_checkIndex_df160_0 rfl (lv_at hl 0 rfl) ?_
  refine lv_iload_n X.1 X.2.1 dJ0_checkIndex_df160_1 rfl (lv_at hl 1 rfl) ?_
  rcases hZ.2.2.2.2.2 with hz | ⟨t, hz⟩
  · skip
    refine mj_gets X hM hz kfs_J0_1053 dJ0_checkIndex_df160_2 ?_
    refine m_callS X hM ck_J0_1059 kst_J3_checkIndex_8e157 dJ0_checkIndex_df160_5 (As := [.int (nI (i)), .int (nI (n)), .null]) (c_J3_checkIndex_8e157N l G _ i n (by omega) (by omega)) rfl hl rfl (Nat.le_of_ble_eq_true rfl) ⟨Nat.le_of_ble_eq_true rfl, Nat.le_of_ble_eq_true rfl⟩ ⟨Nat.le_of_ble_eq_true rfl, Nat.le_of_ble_eq_true rfl⟩ ?_
    rintro _ _ H locs ⟨rfl, rfl⟩ hM
    refine lv_pop X.1 X.2.1 dJ0_checkIndex_df160_8 rfl ?_
    exact m_vret X hr hlocks hM dJ0_checkIndex_df160_9 ⟨Nat.le_of_ble_eq_true rfl, Nat.le_of_ble_eq_true rfl⟩ (⟨rfl, rfl⟩)
  · skip
    refine mj_gets X hM hz kfs_J0_1053 dJ0_checkIndex_df160_2 ?_
    refine m_callS X hM ck_J0_1059 kst_J3_checkIndex_8e157 dJ0_checkIndex_df160_5 (As := [.int (nI (i)), .int (nI (n)), .ref t]) (c_J3_checkIndex_8e157R l G _ i n t (by omega) (by omega)) rfl hl rfl (Nat.le_of_ble_eq_true rfl) ⟨Nat.le_of_ble_eq_true rfl, Nat.le_of_ble_eq_true rfl⟩ ⟨Nat.le_of_ble_eq_true rfl, Nat.le_of_ble_eq_true rfl⟩ ?_
    rintro _ _ H locs ⟨rfl, rfl⟩ hM
    refine lv_pop X.1 X.2.1 dJ0_checkIndex_df160_8 rfl ?_
    exact m_vret X hr hlocks hM dJ0_checkIndex_df160_9 ⟨Nat.le_of_ble_eq_true rfl, Nat.le_of_ble_eq_true rfl⟩ (⟨rfl, rfl⟩)
theorem c_J5_charAt_5068e (l : Launch) (G : mG) (M : Mem) (q : Nat) (b : Nat) (n : Nat) (f : Nat → Int32) (i : Nat) (c9 : Nat) (hq : M q = some (.inr (0, [.ref b, .int (nI 0), .int 0, .int (nI n)]))) (hb : M b = some (.inl (G.2 2, 16, .inl f))) (hi : i < n) (hn : n ≤ 16) (hf : f i = nI c9) (hc9 : c9 < 128) : jMet l yJ5_charAt_5068e cJ5_charAt_5068e 5 (some FieldType.char) ({ frames := 2, cells := 0, slots := 0, locals := 43 } : Room) G [.ref q, .int (nI (i))] M (fun r M' => r = some (.int (nI c9)) ∧ M = M') := by
  refine jMet.of (by decide) (Nat.le_of_ble_eq_true rfl) ?_
  intro p e s m args below meth c A ls X hr hlocks hname hM hl hS hZ
  have hl : lv_has ls 5 [(0, .ref q), (1, .int (nI (i)))] := hl
  refine lv_aload_n X.1 X.2.1 dJ5_charAt_5068e_0 rfl (lv_at hl 0 rfl) ?_
  refine mg_get X hM (ci := 0) (k := 1) rfl kwJ4 (by decide) kf_J5_22 dJ5_charAt_5068e_1 hq (v := .int (nI (0))) rfl ?_
  refine lv_istore_n (lv' := [(2, .int (nI (0))), (0, .ref q), (1, .int (nI (i)))]) X.1 X.2.1 dJ5_charAt_5068e_4 rfl hl (by decide) rfl (fun ls hl => ?_)
  refine lv_aload_n X.1 X.2.1 dJ5_charAt_5068e_5 rfl (lv_at hl 1 rfl) ?_
  refine mg_get X hM (ci := 0) (k := 0) rfl kwJ4 (by decide) kf_J5_15 dJ5_charAt_5068e_6 hq (v := .ref b) rfl ?_
  refine lv_astore_n (lv' := [(3, .ref b), (2, .int (nI (0))), (0, .ref q), (1, .int (nI (i)))]) X.1 X.2.1 dJ5_charAt_5068e_9 rfl hl (by decide) rfl (fun ls hl => ?_)
  refine lv_aload_n X.1 X.2.1 dJ5_charAt_5068e_10 rfl (lv_at hl 2 rfl) ?_
  refine mg_get X hM (ci := 0) (k := 3) rfl kwJ4 (by decide) kf_J5_79 dJ5_charAt_5068e_11 hq (v := .int (nI (n))) rfl ?_
  refine lv_aload_n X.1 X.2.1 dJ5_charAt_5068e_14 rfl (lv_at hl 0 rfl) ?_
  refine mg_alen X hM 2 rfl dJ5_charAt_5068e_15 hb ?_
  refine lv_iload_n X.1 X.2.1 dJ5_charAt_5068e_16 rfl (lv_at hl 1 rfl) ?_
  refine lv_ishr X.1 X.2.1 dJ5_charAt_5068e_17 ?_
  refine lv_top (y := nI 16) (show nI 16 >>> (nI 0 &&& 31) = nI 16 by decide) ?_
  have hK9 := X.2.2.2.2.1
  refine va_mmin X.1 X.2.1 (X.2.2.1.trans hl.1.symm) X.2.2.2.1 (hK9.use ck_J5_138.2.2.2.2) (hK9.use kst_J9_min_7cf53) (hK9.use ck_J5_138.2.1) (hK9.use ck_J5_138.1) (Nat.le_of_ble_eq_true rfl) (Nat.le_of_ble_eq_true rfl) (Nat.le_of_ble_eq_true rfl) (Nat.le_of_ble_eq_true rfl) dJ5_charAt_5068e_18 ?_
  refine lv_top (y := nI n) (if_neg (nI_nlt (by omega) (by omega))) ?_
  refine lv_istore (lv' := [(4, .int (nI (n))), (3, .ref b), (2, .int (nI (0))), (0, .ref q), (1, .int (nI (i)))]) X.1 X.2.1 dJ5_charAt_5068e_21 hl (by decide) rfl (fun ls hl => ?_)
  refine lv_iload_n X.1 X.2.1 dJ5_charAt_5068e_23 rfl (lv_at hl 4 rfl) ?_
  refine lv_iload X.1 X.2.1 dJ5_charAt_5068e_24 (lv_at hl 0 rfl) ?_
  refine jm_callS X hM hS hZ ck_J5_144 kst_J0_checkIndex_df160 dJ5_charAt_5068e_26 (As := [.int (nI (i)), .int (nI (n))]) (c_J0_checkIndex_df160 l G _ i n (by omega) (by omega)) rfl hl rfl (Nat.le_of_ble_eq_true rfl) ⟨Nat.le_of_ble_eq_true rfl, Nat.le_of_ble_eq_true rfl⟩ ⟨Nat.le_of_ble_eq_true rfl, Nat.le_of_ble_eq_true rfl⟩ ?_
  rintro _ _ H locs ⟨rfl, rfl⟩ hM
  refine lv_iload_n X.1 X.2.1 dJ5_charAt_5068e_29 rfl (lv_at hl 2 rfl) ?_
  refine b_if_ne (tgt := 42) X dJ5_charAt_5068e_30 (by decide) (a := ((0 : Nat) : Int)) (nI_ti (by omega)) (fun c1 => ?_) (fun c1 => ?_)
  · skip
    exact absurd c1 (by first | decide | omega)
  · skip
    refine lv_aload_n X.1 X.2.1 dJ5_charAt_5068e_33 rfl (lv_at hl 1 rfl) ?_
    refine lv_iload_n X.1 X.2.1 dJ5_charAt_5068e_34 rfl (lv_at hl 4 rfl) ?_
    refine mx_bald X hM dJ5_charAt_5068e_35 hb (i := i) (by omega) (by decide) ?_
    refine lv_top (y := nI c9) hf ?_
    refine lv_sipush (v := nI (255)) X.1 X.2.1 dJ5_charAt_5068e_36 (by decide) ?_
    refine lv_iand X.1 X.2.1 dJ5_charAt_5068e_39 ?_
    refine lv_top (y := nI c9) (and_nI (by omega)) ?_
    refine lv_i2c (v := nI (c9)) X.1 X.2.1 dJ5_charAt_5068e_40 (sb_byte _ (by omega)).2.1 ?_
    exact m_zret X hr hlocks hM dJ5_charAt_5068e_41 ⟨Nat.le_of_ble_eq_true rfl, Nat.le_of_ble_eq_true rfl⟩ (nar_chr9 (by omega)) (⟨rfl, rfl⟩)
theorem c_J4_charAt_5068e (l : Launch) (G : mG) (M : Mem) (q : Nat) (b : Nat) (n : Nat) (f : Nat → Int32) (i : Nat) (c9 : Nat) (hq : M q = some (.inr (0, [.ref b, .int (nI 0), .int 0, .int (nI n)]))) (hb : M b = some (.inl (G.2 2, 16, .inl f))) (hi : i < n) (hn : n ≤ 16) (hf : f i = nI c9) (hc9 : c9 < 128) : jMet l yJ4_charAt_5068e cJ4_charAt_5068e 2 (some FieldType.char) ({ frames := 3, cells := 0, slots := 0, locals := 67 } : Room) G [.ref q, .int (nI (i))] M (fun r M' => r = some (.int (nI c9)) ∧ M = M') := by
  refine jMet.of (by decide) (Nat.le_of_ble_eq_true rfl) ?_
  intro p e s m args below meth c A ls X hr hlocks hname hM hl hS hZ
  have hl : lv_has ls 2 [(0, .ref q), (1, .int (nI (i)))] := hl
  refine lv_aload_n X.1 X.2.1 dJ4_charAt_5068e_0 rfl (lv_at hl 0 rfl) ?_
  refine lv_iload_n X.1 X.2.1 dJ4_charAt_5068e_1 rfl (lv_at hl 1 rfl) ?_
  refine jm_super X hM hS hZ ck_J4_329 ki_J5_charAt_5068e (by decide) ksm_charAt ksup_J4 (ci := 0) rfl hq dJ4_charAt_5068e_2 (b := q) (As := [.int (nI (i))]) (c_J5_charAt_5068e l G _ q b n f i c9 hq hb hi hn hf hc9) rfl hl rfl (Nat.le_of_ble_eq_true rfl) ⟨Nat.le_of_ble_eq_true rfl, Nat.le_of_ble_eq_true rfl⟩ ⟨Nat.le_of_ble_eq_true rfl, Nat.le_of_ble_eq_true rfl⟩ ?_
  rintro _ _ H locs ⟨rfl, rfl⟩ hM
  exact m_zret X hr hlocks hM dJ4_charAt_5068e_5 ⟨Nat.le_of_ble_eq_true rfl, Nat.le_of_ble_eq_true rfl⟩ (nar_chr9 (by omega)) (⟨rfl, rfl⟩)
