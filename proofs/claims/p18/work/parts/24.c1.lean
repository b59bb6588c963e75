set_option maxHeartbeats 4000000 in
set_option maxRecDepth 100000 in
theorem c_X1_isBanned (l : Launch) (G : mG) (ad : Nat → Nat → Nat) (N : Nat → Nat) (F : Nat → Nat → Nat) (B : Nat → Int32) (E P Q : Nat → Nat → Nat) (M : Mem) (R : RC G ad N F B E P Q M) (j : Nat) (d : Nat) (hj : j < E 0 1) (hd : d < 2 ^ 31) (hf : F 3 j < 2 ^ 31) : mMet l yX1_isBanned cX1_isBanned 2 (some FieldType.boolean) ({ frames := 0, cells := 0, slots := 0, locals := 0 } : Room) G [.ref (ad 1 (j)), .int (nI (d))] M (fun r M' => r = some (.int (bI (decide (d < F 3 j)))) ∧ M = M') := by
  refine mMet.of (by decide) (Nat.le_of_ble_eq_true rfl) ?_
  intro p e s m args below meth c A ls X hr hlocks hname hM hl
  have hl : lv_has ls 2 [(0, .ref (ad 1 (j))), (1, .int (nI (d)))] := hl
  refine lv_iload_n X.1 X.2.1 dX1_isBanned_0 rfl (lv_at hl 1 rfl) ?_
  refine lv_aload_n X.1 X.2.1 dX1_isBanned_1 rfl (lv_at hl 0 rfl) ?_
  refine mg_get X hM (ci := 2) (k := 3) rfl kwX1 (by decide) kf_X1_18 dX1_isBanned_2 (R.1 1 (j) (show j < E 0 1 by omega)) (v := .int (nI (F 3 (j)))) rfl ?_
  refine b_icmp_ge (tgt := 12) X dX1_isBanned_5 (by decide) (a := ((d : Nat) : Int)) (b := ((F 3 (j) : Nat) : Int)) (nI_ti (by omega)) (nI_ti (by omega)) (fun c1 => ?_) (fun c1 => ?_)
  · skip
    refine lv_iconst (v := nI (0)) X.1 X.2.1 dX1_isBanned_12 (by decide) ?_
    exact m_zret X hr hlocks hM dX1_isBanned_13 ⟨Nat.le_of_ble_eq_true rfl, Nat.le_of_ble_eq_true rfl⟩ (rfl) (⟨congrArg (fun z => some (Value.int z)) (by first | exact bI_dec (by omega) | exact bI_decN (by omega)), rfl⟩)
  · skip
    refine lv_iconst (v := nI (1)) X.1 X.2.1 dX1_isBanned_8 (by decide) ?_
    refine lv_goto (tgt := 13) X.1 X.2.1 dX1_isBanned_9 (by decide) ?_
    exact m_zret X hr hlocks hM dX1_isBanned_13 ⟨Nat.le_of_ble_eq_true rfl, Nat.le_of_ble_eq_true rfl⟩ (rfl) (⟨congrArg (fun z => some (Value.int z)) (by first | exact bI_dec (by omega) | exact bI_decN (by omega)), rfl⟩)
set_option maxHeartbeats 4000000 in
set_option maxRecDepth 100000 in
theorem c_X1_isProven (l : Launch) (G : mG) (ad : Nat → Nat → Nat) (N : Nat → Nat) (F : Nat → Nat → Nat) (B : Nat → Int32) (E P Q : Nat → Nat → Nat) (M : Mem) (R : RC G ad N F B E P Q M) (j : Nat) (hj : j < E 0 1) (hf : F 2 j < 2 ^ 31) : mMet l yX1_isProven cX1_isProven 1 (some FieldType.boolean) ({ frames := 0, cells := 0, slots := 0, locals := 0 } : Room) G [.ref (ad 1 (j))] M (fun r M' => r = some (.int (bI (decide (¬ F 2 j = 0)))) ∧ M = M') := by
  refine mMet.of (by decide) (Nat.le_of_ble_eq_true rfl) ?_
  intro p e s m args below meth c A ls X hr hlocks hname hM hl
  have hl : lv_has ls 1 [(0, .ref (ad 1 (j)))] := hl
  refine lv_aload_n X.1 X.2.1 dX1_isProven_0 rfl (lv_at hl 0 rfl) ?_
  refine mg_get X hM (ci := 2) (k := 2) rfl kwX1 (by decide) kf_X1_9 dX1_isProven_1 (R.1 1 (j) (show j < E 0 1 by omega)) (v := .int (nI (F 2 (j)) - 1)) rfl ?_
  refine lv_iconst (v := nI (0) - 1) X.1 X.2.1 dX1_isProven_4 (by decide) ?_
  refine b_icmp_eq (tgt := 12) X dX1_isProven_5 (by decide) (a := ((F 2 (j) : Nat) : Int) - 1) (b := ((0 : Nat) : Int) - 1) (eI_ti (by omega)) (eI_ti (by omega)) (fun c1 => ?_) (fun c1 => ?_)
  · skip
    refine lv_iconst (v := nI (0)) X.1 X.2.1 dX1_isProven_12 (by decide) ?_
    exact m_zret X hr hlocks hM dX1_isProven_13 ⟨Nat.le_of_ble_eq_true rfl, Nat.le_of_ble_eq_true rfl⟩ (rfl) (⟨congrArg (fun z => some (Value.int z)) (by first | exact bI_dec (by omega) | exact bI_decN (by omega)), rfl⟩)
  · skip
    refine lv_iconst (v := nI (1)) X.1 X.2.1 dX1_isProven_8 (by decide) ?_
    refine lv_goto (tgt := 13) X.1 X.2.1 dX1_isProven_9 (by decide) ?_
    exact m_zret X hr hlocks hM dX1_isProven_13 ⟨Nat.le_of_ble_eq_true rfl, Nat.le_of_ble_eq_true rfl⟩ (rfl) (⟨congrArg (fun z => some (Value.int z)) (by first | exact bI_dec (by omega) | exact bI_decN (by omega)), rfl⟩)
set_option maxHeartbeats 4000000 in
set_option maxRecDepth 100000 in
theorem c_X1_isProvenOn (l : Launch) (G : mG) (ad : Nat → Nat → Nat) (N : Nat → Nat) (F : Nat → Nat → Nat) (B : Nat → Int32) (E P Q : Nat → Nat → Nat) (M : Mem) (R : RC G ad N F B E P Q M) (j : Nat) (d : Nat) (hj : j < E 0 1) (hd : d < 2 ^ 31) (hf : F 2 j < 2 ^ 31) : mMet l yX1_isProvenOn cX1_isProvenOn 2 (some FieldType.boolean) ({ frames := 1, cells := 0, slots := 0, locals := 20 } : Room) G [.ref (ad 1 (j)), .int (nI (d))] M (fun r M' => r = some (.int (bI (decide (¬ F 2 j = 0 ∧ F 2 j ≤ d + 1)))) ∧ M = M') := by
  refine mMet.of (by decide) (Nat.le_of_ble_eq_true rfl) ?_
  intro p e s m args below meth c A ls X hr hlocks hname hM hl
  have hl : lv_has ls 2 [(0, .ref (ad 1 (j))), (1, .int (nI (d)))] := hl
  refine lv_aload_n X.1 X.2.1 dX1_isProvenOn_0 rfl (lv_at hl 0 rfl) ?_
  refine m_callV X hM ck_X1_21 ki_X1_isProven ks_X1_isProven (ci := 2) rfl dX1_isProvenOn_1 (As := []) (c_X1_isProven l G ad N F B E P Q _ R j (show _ < E 0 1 by omega) (by omega)) (R.1 1 (j) (show j < E 0 1 by omega)) rfl hl rfl (Nat.le_of_ble_eq_true rfl) ⟨Nat.le_of_ble_eq_true rfl, Nat.le_of_ble_eq_true rfl⟩ ⟨Nat.le_of_ble_eq_true rfl, Nat.le_of_ble_eq_true rfl⟩ ?_
  rintro _ _ H locs ⟨rfl, rfl⟩ hM
  refine b_bool_eq (tgt := 19) X dX1_isProvenOn_4 (by decide) (fun c1 => ?_) (fun c1 => ?_)
  · skip
    have c1 := of_decide_eq_false c1
    refine lv_iconst (v := nI (0)) X.1 X.2.1 dX1_isProvenOn_19 (by decide) ?_
    exact m_zret X hr hlocks hM dX1_isProvenOn_20 ⟨Nat.le_of_ble_eq_true rfl, Nat.le_of_ble_eq_true rfl⟩ (rfl) (⟨congrArg (fun z => some (Value.int z)) (by first | exact bI_dec (by omega) | exact bI_decN (by omega)), rfl⟩)
  · skip
    have c1 := of_decide_eq_true c1
    refine lv_aload_n X.1 X.2.1 dX1_isProvenOn_7 rfl (lv_at hl 0 rfl) ?_
    refine mg_get X hM (ci := 2) (k := 2) rfl kwX1 (by decide) kf_X1_9 dX1_isProvenOn_8 (R.1 1 (j) (show j < E 0 1 by omega)) (v := .int (nI (F 2 (j)) - 1)) rfl ?_
    refine lv_iload_n X.1 X.2.1 dX1_isProvenOn_11 rfl (lv_at hl 1 rfl) ?_
    refine b_icmp_gt (tgt := 19) X dX1_isProvenOn_12 (by decide) (a := ((F 2 (j) : Nat) : Int) - 1) (b := ((d : Nat) : Int)) (eI_ti (by omega)) (nI_ti (by omega)) (fun c2 => ?_) (fun c2 => ?_)
    · skip
      refine lv_iconst (v := nI (0)) X.1 X.2.1 dX1_isProvenOn_19 (by decide) ?_
      exact m_zret X hr hlocks hM dX1_isProvenOn_20 ⟨Nat.le_of_ble_eq_true rfl, Nat.le_of_ble_eq_true rfl⟩ (rfl) (⟨congrArg (fun z => some (Value.int z)) (by first | exact bI_dec (by omega) | exact bI_decN (by omega)), rfl⟩)
    · skip
      refine lv_iconst (v := nI (1)) X.1 X.2.1 dX1_isProvenOn_15 (by decide) ?_
      refine lv_goto (tgt := 20) X.1 X.2.1 dX1_isProvenOn_16 (by decide) ?_
      exact m_zret X hr hlocks hM dX1_isProvenOn_20 ⟨Nat.le_of_ble_eq_true rfl, Nat.le_of_ble_eq_true rfl⟩ (rfl) (⟨congrArg (fun z => some (Value.int z)) (by first | exact bI_dec (by omega) | exact bI_decN (by omega)), rfl⟩)
set_option maxHeartbeats 4000000 in
set_option maxRecDepth 100000 in
theorem c_X1_prove (l : Launch) (G : mG) (ad : Nat → Nat → Nat) (N : Nat → Nat) (F : Nat → Nat → Nat) (B : Nat → Int32) (E P Q : Nat → Nat → Nat) (M : Mem) (R : RC G ad N F B E P Q M) (j : Nat) (d : Nat) (hj : j < E 0 1) (hd : d < 2 ^ 30) (hf : F 2 j < 2 ^ 31) : mMet l yX1_prove cX1_prove 2 none ({ frames := 1, cells := 0, slots := 0, locals := 20 } : Room) G [.ref (ad 1 (j)), .int (nI (d))] M (fun r M' => r = none ∧ RC G ad N (fProof F j d) B E P Q M') := by
  refine mMet.of (by decide) (Nat.le_of_ble_eq_true rfl) ?_
  intro p e s m args below meth c A ls X hr hlocks hname hM hl
  have hl : lv_has ls 2 [(0, .ref (ad 1 (j))), (1, .int (nI (d)))] := hl
  refine lv_aload_n X.1 X.2.1 dX1_prove_0 rfl (lv_at hl 0 rfl) ?_
  refine m_callV X hM ck_X1_21 ki_X1_isProven ks_X1_isProven (ci := 2) rfl dX1_prove_1 (As := []) (c_X1_isProven l G ad N F B E P Q _ R j (show _ < E 0 1 by omega) (by omega)) (R.1 1 (j) (show j < E 0 1 by omega)) rfl hl rfl (Nat.le_of_ble_eq_true rfl) ⟨Nat.le_of_ble_eq_true rfl, Nat.le_of_ble_eq_true rfl⟩ ⟨Nat.le_of_ble_eq_true rfl, Nat.le_of_ble_eq_true rfl⟩ ?_
  rintro _ _ H locs ⟨rfl, rfl⟩ hM
  refine b_bool_eq (tgt := 15) X dX1_prove_4 (by decide) (fun c1 => ?_) (fun c1 => ?_)
  · skip
    have c1 := of_decide_eq_false c1
    refine lv_aload_n X.1 X.2.1 dX1_prove_15 rfl (lv_at hl 0 rfl) ?_
    refine lv_iload_n X.1 X.2.1 dX1_prove_16 rfl (lv_at hl 1 rfl) ?_
    refine lv_top (y := nI (d + 1) - 1) (eI_suc _) ?_
    refine mg_put X hM tyX1 tyX1_ok nmX1 (ci := 2) (k := 2) rfl kwX1 (by decide) kf_X1_9 rfl dX1_prove_17 (R.1 1 (j) (show j < E 0 1 by omega)) rfl rfl (Nat.le_of_ble_eq_true rfl) (fun H locs hM => ?_)
    obtain ⟨M, hM, R⟩ : ∃ M2, mW G A s.heap M2 H locs ∧ RC G ad N (set1 F 2 (j) (d + 1)) B E P Q M2 := ⟨_, hM, R.since (show j < E 0 1 by omega) (d + 1)⟩
    exact m_vret X hr hlocks hM dX1_prove_20 ⟨Nat.le_of_ble_eq_true rfl, Nat.le_of_ble_eq_true rfl⟩ (⟨rfl, by unfold fProof; rw [if_pos (by omega)]; exact R⟩)
  · skip
    have c1 := of_decide_eq_true c1
    refine lv_iload_n X.1 X.2.1 dX1_prove_7 rfl (lv_at hl 1 rfl) ?_
    refine lv_aload_n X.1 X.2.1 dX1_prove_8 rfl (lv_at hl 0 rfl) ?_
    refine mg_get X hM (ci := 2) (k := 2) rfl kwX1 (by decide) kf_X1_9 dX1_prove_9 (R.1 1 (j) (show j < E 0 1 by omega)) (v := .int (nI (F 2 (j)) - 1)) rfl ?_
    refine b_icmp_ge (tgt := 20) X dX1_prove_12 (by decide) (a := ((d : Nat) : Int)) (b := ((F 2 (j) : Nat) : Int) - 1) (nI_ti (by omega)) (eI_ti (by omega)) (fun c2 => ?_) (fun c2 => ?_)
    · skip
      exact m_vret X hr hlocks hM dX1_prove_20 ⟨Nat.le_of_ble_eq_true rfl, Nat.le_of_ble_eq_true rfl⟩ (⟨rfl, by unfold fProof; rw [if_neg (by omega), set1_self]; exact R⟩)
    · skip
      refine lv_aload_n X.1 X.2.1 dX1_prove_15 rfl (lv_at hl 0 rfl) ?_
      refine lv_iload_n X.1 X.2.1 dX1_prove_16 rfl (lv_at hl 1 rfl) ?_
      refine lv_top (y := nI (d + 1) - 1) (eI_suc _) ?_
      refine mg_put X hM tyX1 tyX1_ok nmX1 (ci := 2) (k := 2) rfl kwX1 (by decide) kf_X1_9 rfl dX1_prove_17 (R.1 1 (j) (show j < E 0 1 by omega)) rfl rfl (Nat.le_of_ble_eq_true rfl) (fun H locs hM => ?_)
      obtain ⟨M, hM, R⟩ : ∃ M2, mW G A s.heap M2 H locs ∧ RC G ad N (set1 F 2 (j) (d + 1)) B E P Q M2 := ⟨_, hM, R.since (show j < E 0 1 by omega) (d + 1)⟩
      exact m_vret X hr hlocks hM dX1_prove_20 ⟨Nat.le_of_ble_eq_true rfl, Nat.le_of_ble_eq_true rfl⟩ (⟨rfl, by unfold fProof; rw [if_pos (by omega)]; exact R⟩)
set_option maxHeartbeats 4000000 in
set_option maxRecDepth 100000 in
theorem c_X2_isFull (l : Launch) (G : mG) (ad : Nat → Nat → Nat) (N : Nat → Nat) (F : Nat → Nat → Nat) (B : Nat → Int32) (E P Q : Nat → Nat → Nat) (M : Mem) (R : RC G ad N F B E P Q M) (j : Nat) (hj : j < 4) (h1 : F 5 j < 2 ^ 31) (h2 : E 1 j < 2 ^ 31) : mMet l yX2_isFull cX2_isFull 1 (some FieldType.boolean) ({ frames := 0, cells := 0, slots := 0, locals := 0 } : Room) G [.ref (ad 9 (j))] M (fun r M' => r = some (.int (bI (decide (F 5 j ≤ E 1 j)))) ∧ M = M') := by
  refine mMet.of (by decide) (Nat.le_of_ble_eq_true rfl) ?_
  intro p e s m args below meth c A ls X hr hlocks hname hM hl
  have hl : lv_has ls 1 [(0, .ref (ad 9 (j)))] := hl
  refine lv_aload_n X.1 X.2.1 dX2_isFull_0 rfl (lv_at hl 0 rfl) ?_
  refine mg_get X hM (ci := 3) (k := 1) rfl kwX2 (by decide) kf_X2_15 dX2_isFull_1 (R.1 9 (j) (show j < 4 by omega)) (v := .int (nI (E 1 (j)))) rfl ?_
  refine lv_aload_n X.1 X.2.1 dX2_isFull_4 rfl (lv_at hl 0 rfl) ?_
  refine mg_get X hM (ci := 3) (k := 0) rfl kwX2 (by decide) kf_X2_9 dX2_isFull_5 (R.1 9 (j) (show j < 4 by omega)) (v := .int (nI (F 5 (j)))) rfl ?_
  refine b_icmp_lt (tgt := 15) X dX2_isFull_8 (by decide) (a := ((E 1 (j) : Nat) : Int)) (b := ((F 5 (j) : Nat) : Int)) (nI_ti (by omega)) (nI_ti (by omega)) (fun c1 => ?_) (fun c1 => ?_)
  · skip
    refine lv_iconst (v := nI (0)) X.1 X.2.1 dX2_isFull_15 (by decide) ?_
    exact m_zret X hr hlocks hM dX2_isFull_16 ⟨Nat.le_of_ble_eq_true rfl, Nat.le_of_ble_eq_true rfl⟩ (rfl) (⟨congrArg (fun z => some (Value.int z)) (by first | exact bI_dec (by omega) | exact bI_decN (by omega)), rfl⟩)
  · skip
    refine lv_iconst (v := nI (1)) X.1 X.2.1 dX2_isFull_11 (by decide) ?_
    refine lv_goto (tgt := 16) X.1 X.2.1 dX2_isFull_12 (by decide) ?_
    exact m_zret X hr hlocks hM dX2_isFull_16 ⟨Nat.le_of_ble_eq_true rfl, Nat.le_of_ble_eq_true rfl⟩ (rfl) (⟨congrArg (fun z => some (Value.int z)) (by first | exact bI_dec (by omega) | exact bI_decN (by omega)), rfl⟩)
set_option maxHeartbeats 4000000 in
set_option maxRecDepth 100000 in
theorem c_X4_pointsOf (l : Launch) (G : mG) (ad : Nat → Nat → Nat) (N : Nat → Nat) (F : Nat → Nat → Nat) (B : Nat → Int32) (E P Q : Nat → Nat → Nat) (M : Mem) (R : RC G ad N F B E P Q M) (sj : Nat) (z : Nat) (hs : sj < E 0 3) (hz : z < 16) : mMet l yX4_pointsOf cX4_pointsOf 2 (some FieldType.int) ({ frames := 0, cells := 0, slots := 0, locals := 0 } : Room) G [.ref (ad 3 (sj)), .int (nI (z))] M (fun r M' => r = some (.int (nI (P sj z))) ∧ M = M') := by
  refine mMet.of (by decide) (Nat.le_of_ble_eq_true rfl) ?_
  intro p e s m args below meth c A ls X hr hlocks hname hM hl
  have hl : lv_has ls 2 [(0, .ref (ad 3 (sj))), (1, .int (nI (z)))] := hl
  refine lv_iload_n X.1 X.2.1 dX4_pointsOf_0 rfl (lv_at hl 1 rfl) ?_
  refine b_if_lt (tgt := 22) X dX4_pointsOf_1 (by decide) (a := ((z : Nat) : Int)) (nI_ti (by omega)) (fun c1 => ?_) (fun c1 => ?_)
  · skip
    refine lv_iconst (v := nI (0)) X.1 X.2.1 dX4_pointsOf_22 (by decide) ?_
    exact m_iret X hr hlocks hM dX4_pointsOf_23 ⟨Nat.le_of_ble_eq_true rfl, Nat.le_of_ble_eq_true rfl⟩ (⟨by first | rfl | (exfalso; omega), rfl⟩)
  · skip
    refine lv_iload_n X.1 X.2.1 dX4_pointsOf_4 rfl (lv_at hl 1 rfl) ?_
    refine lv_aload_n X.1 X.2.1 dX4_pointsOf_5 rfl (lv_at hl 0 rfl) ?_
    refine mg_get X hM (ci := 5) (k := 1) rfl kwX4 (by decide) kf_X4_9 dX4_pointsOf_6 (R.1 3 (sj) (show sj < E 0 3 by omega)) (v := .ref (ad 4 (sj))) rfl ?_
    refine mg_alen X hM 0 rfl dX4_pointsOf_9 (R.1 4 (sj) (show sj < E 0 3 by omega)) ?_
    refine b_icmp_ge (tgt := 22) X dX4_pointsOf_10 (by decide) (a := ((z : Nat) : Int)) (b := ((16 : Nat) : Int)) (nI_ti (by omega)) (nI_ti (by omega)) (fun c2 => ?_) (fun c2 => ?_)
    · skip
      refine lv_iconst (v := nI (0)) X.1 X.2.1 dX4_pointsOf_22 (by decide) ?_
      exact m_iret X hr hlocks hM dX4_pointsOf_23 ⟨Nat.le_of_ble_eq_true rfl, Nat.le_of_ble_eq_true rfl⟩ (⟨by first | rfl | (exfalso; omega), rfl⟩)
    · skip
      refine lv_aload_n X.1 X.2.1 dX4_pointsOf_13 rfl (lv_at hl 0 rfl) ?_
      refine mg_get X hM (ci := 5) (k := 1) rfl kwX4 (by decide) kf_X4_9 dX4_pointsOf_14 (R.1 3 (sj) (show sj < E 0 3 by omega)) (v := .ref (ad 4 (sj))) rfl ?_
      refine lv_iload_n X.1 X.2.1 dX4_pointsOf_17 rfl (lv_at hl 1 rfl) ?_
      refine mx_iald X hM dX4_pointsOf_18 (R.1 4 (sj) (show sj < E 0 3 by omega)) (i := z) (by omega) (by decide) (v := nI (P (sj) (z))) rfl ?_
      refine lv_goto (tgt := 23) X.1 X.2.1 dX4_pointsOf_19 (by decide) ?_
      exact m_iret X hr hlocks hM dX4_pointsOf_23 ⟨Nat.le_of_ble_eq_true rfl, Nat.le_of_ble_eq_true rfl⟩ (⟨by first | rfl | (exfalso; omega), rfl⟩)
set_option maxHeartbeats 4000000 in
set_option maxRecDepth 100000 in
theorem c_X4_gamesOf (l : Launch) (G : mG) (ad : Nat → Nat → Nat) (N : Nat → Nat) (F : Nat → Nat → Nat) (B : Nat → Int32) (E P Q : Nat → Nat → Nat) (M : Mem) (R : RC G ad N F B E P Q M) (sj : Nat) (z : Nat) (hs : sj < E 0 3) (hz : z < 16) : mMet l yX4_gamesOf cX4_gamesOf 2 (some FieldType.int) ({ frames := 0, cells := 0, slots := 0, locals := 0 } : Room) G [.ref (ad 3 (sj)), .int (nI (z))] M (fun r M' => r = some (.int (nI (Q sj z))) ∧ M = M') := by
  refine mMet.of (by decide) (Nat.le_of_ble_eq_true rfl) ?_
  intro p e s m args below meth c A ls X hr hlocks hname hM hl
  have hl : lv_has ls 2 [(0, .ref (ad 3 (sj))), (1, .int (nI (z)))] := hl
  refine lv_iload_n X.1 X.2.1 dX4_gamesOf_0 rfl (lv_at hl 1 rfl) ?_
  refine b_if_lt (tgt := 22) X dX4_gamesOf_1 (by decide) (a := ((z : Nat) : Int)) (nI_ti (by omega)) (fun c1 => ?_) (fun c1 => ?_)
  · skip
    refine lv_iconst (v := nI (0)) X.1 X.2.1 dX4_gamesOf_22 (by decide) ?_
    exact m_iret X hr hlocks hM dX4_gamesOf_23 ⟨Nat.le_of_ble_eq_true rfl, Nat.le_of_ble_eq_true rfl⟩ (⟨by first | rfl | (exfalso; omega), rfl⟩)
  · skip
    refine lv_iload_n X.1 X.2.1 dX4_gamesOf_4 rfl (lv_at hl 1 rfl) ?_
    refine lv_aload_n X.1 X.2.1 dX4_gamesOf_5 rfl (lv_at hl 0 rfl) ?_
    refine mg_get X hM (ci := 5) (k := 2) rfl kwX4 (by decide) kf_X4_15 dX4_gamesOf_6 (R.1 3 (sj) (show sj < E 0 3 by omega)) (v := .ref (ad 5 (sj))) rfl ?_
    refine mg_alen X hM 0 rfl dX4_gamesOf_9 (R.1 5 (sj) (show sj < E 0 3 by omega)) ?_
    refine b_icmp_ge (tgt := 22) X dX4_gamesOf_10 (by decide) (a := ((z : Nat) : Int)) (b := ((16 : Nat) : Int)) (nI_ti (by omega)) (nI_ti (by omega)) (fun c2 => ?_) (fun c2 => ?_)
    · skip
      refine lv_iconst (v := nI (0)) X.1 X.2.1 dX4_gamesOf_22 (by decide) ?_
      exact m_iret X hr hlocks hM dX4_gamesOf_23 ⟨Nat.le_of_ble_eq_true rfl, Nat.le_of_ble_eq_true rfl⟩ (⟨by first | rfl | (exfalso; omega), rfl⟩)
    · skip
      refine lv_aload_n X.1 X.2.1 dX4_gamesOf_13 rfl (lv_at hl 0 rfl) ?_
      refine mg_get X hM (ci := 5) (k := 2) rfl kwX4 (by decide) kf_X4_15 dX4_gamesOf_14 (R.1 3 (sj) (show sj < E 0 3 by omega)) (v := .ref (ad 5 (sj))) rfl ?_
      refine lv_iload_n X.1 X.2.1 dX4_gamesOf_17 rfl (lv_at hl 1 rfl) ?_
      refine mx_iald X hM dX4_gamesOf_18 (R.1 5 (sj) (show sj < E 0 3 by omega)) (i := z) (by omega) (by decide) (v := nI (Q (sj) (z))) rfl ?_
      refine lv_goto (tgt := 23) X.1 X.2.1 dX4_gamesOf_19 (by decide) ?_
      exact m_iret X hr hlocks hM dX4_gamesOf_23 ⟨Nat.le_of_ble_eq_true rfl, Nat.le_of_ble_eq_true rfl⟩ (⟨by first | rfl | (exfalso; omega), rfl⟩)
set_option maxHeartbeats 4000000 in
set_option maxRecDepth 100000 in
theorem c_X4_isAhead (l : Launch) (G : mG) (ad : Nat → Nat → Nat) (N : Nat → Nat) (F : Nat → Nat → Nat) (B : Nat → Int32) (E P Q : Nat → Nat → Nat) (M : Mem) (R : RC G ad N F B E P Q M) (sj : Nat) (p0 : Nat) (p1 : Nat) (hs : sj < E 0 3) (hb : ∀ z, z < 16 → P sj z ≤ 1000 ∧ Q sj z ≤ 1000) (h0 : p0 < 16) (h1 : p1 < 16) : mMet l yX4_isAhead cX4_isAhead 5 (some FieldType.boolean) ({ frames := 1, cells := 0, slots := 0, locals := 21 } : Room) G [.ref (ad 3 (sj)), .int (nI (p0)), .int (nI (p1))] M (fun r M' => r = some (.int (bI (ahM (P sj) (Q sj) p0 p1))) ∧ M = M') := by
  refine mMet.of (by decide) (Nat.le_of_ble_eq_true rfl) ?_
  intro p e s m args below meth c A ls X hr hlocks hname hM hl
  have hl : lv_has ls 5 [(0, .ref (ad 3 (sj))), (1, .int (nI (p0))), (2, .int (nI (p1)))] := hl
  refine lv_aload_n X.1 X.2.1 dX4_isAhead_0 rfl (lv_at hl 0 rfl) ?_
  refine lv_iload_n X.1 X.2.1 dX4_isAhead_1 rfl (lv_at hl 1 rfl) ?_
  refine m_callV X hM ck_X4_22 ki_X4_pointsOf ks_X4_pointsOf (ci := 5) rfl dX4_isAhead_2 (As := [.int (nI (p0))]) (c_X4_pointsOf l G ad N F B E P Q _ R sj p0 (show _ < E 0 3 by omega) (by omega)) (R.1 3 (sj) (show sj < E 0 3 by omega)) rfl hl rfl (Nat.le_of_ble_eq_true rfl) ⟨Nat.le_of_ble_eq_true rfl, Nat.le_of_ble_eq_true rfl⟩ ⟨Nat.le_of_ble_eq_true rfl, Nat.le_of_ble_eq_true rfl⟩ ?_
  rintro _ _ H locs ⟨rfl, rfl⟩ hM
  have b1 := hb p0 (by omega)
  refine lv_aload_n X.1 X.2.1 dX4_isAhead_5 rfl (lv_at hl 0 rfl) ?_
  refine lv_iload_n X.1 X.2.1 dX4_isAhead_6 rfl (lv_at hl 2 rfl) ?_
  refine m_callV X hM ck_X4_22 ki_X4_pointsOf ks_X4_pointsOf (ci := 5) rfl dX4_isAhead_7 (As := [.int (nI (p1))]) (c_X4_pointsOf l G ad N F B E P Q _ R sj p1 (show _ < E 0 3 by omega) (by omega)) (R.1 3 (sj) (show sj < E 0 3 by omega)) rfl hl rfl (Nat.le_of_ble_eq_true rfl) ⟨Nat.le_of_ble_eq_true rfl, Nat.le_of_ble_eq_true rfl⟩ ⟨Nat.le_of_ble_eq_true rfl, Nat.le_of_ble_eq_true rfl⟩ ?_
  rintro _ _ H locs ⟨rfl, rfl⟩ hM
  have b2 := hb p1 (by omega)
  refine lv_isub X.1 X.2.1 dX4_isAhead_10 ?_
  refine lv_istore_n (lv' := [(3, .int (nI (P sj p0) - nI (P sj p1))), (0, .ref (ad 3 (sj))), (1, .int (nI (p0))), (2, .int (nI (p1)))]) X.1 X.2.1 dX4_isAhead_11 rfl hl (by decide) rfl (fun ls hl => ?_)
  refine lv_iload_n X.1 X.2.1 dX4_isAhead_12 rfl (lv_at hl 0 rfl) ?_
  refine b_if_eq (tgt := 26) X dX4_isAhead_13 (by decide) (a := ((P sj p0 : Nat) : Int) - ((P sj p1 : Nat) : Int)) (pk_sub_toInt (by omega) (by omega)) (fun c3 => ?_) (fun c3 => ?_)
  · skip
    refine lv_aload_n X.1 X.2.1 dX4_isAhead_26 rfl (lv_at hl 1 rfl) ?_
    refine lv_iload_n X.1 X.2.1 dX4_isAhead_27 rfl (lv_at hl 2 rfl) ?_
    refine m_callV X hM ck_X4_33 ki_X4_gamesOf ks_X4_gamesOf (ci := 5) rfl dX4_isAhead_28 (As := [.int (nI (p0))]) (c_X4_gamesOf l G ad N F B E P Q _ R sj p0 (show _ < E 0 3 by omega) (by omega)) (R.1 3 (sj) (show sj < E 0 3 by omega)) rfl hl rfl (Nat.le_of_ble_eq_true rfl) ⟨Nat.le_of_ble_eq_true rfl, Nat.le_of_ble_eq_true rfl⟩ ⟨Nat.le_of_ble_eq_true rfl, Nat.le_of_ble_eq_true rfl⟩ ?_
    rintro _ _ H locs ⟨rfl, rfl⟩ hM
    have b4 := hb p0 (by omega)
    refine lv_aload_n X.1 X.2.1 dX4_isAhead_31 rfl (lv_at hl 1 rfl) ?_
    refine lv_iload_n X.1 X.2.1 dX4_isAhead_32 rfl (lv_at hl 3 rfl) ?_
    refine m_callV X hM ck_X4_33 ki_X4_gamesOf ks_X4_gamesOf (ci := 5) rfl dX4_isAhead_33 (As := [.int (nI (p1))]) (c_X4_gamesOf l G ad N F B E P Q _ R sj p1 (show _ < E 0 3 by omega) (by omega)) (R.1 3 (sj) (show sj < E 0 3 by omega)) rfl hl rfl (Nat.le_of_ble_eq_true rfl) ⟨Nat.le_of_ble_eq_true rfl, Nat.le_of_ble_eq_true rfl⟩ ⟨Nat.le_of_ble_eq_true rfl, Nat.le_of_ble_eq_true rfl⟩ ?_
    rintro _ _ H locs ⟨rfl, rfl⟩ hM
    have b5 := hb p1 (by omega)
    refine lv_isub X.1 X.2.1 dX4_isAhead_36 ?_
    refine lv_istore (lv' := [(4, .int (nI (Q sj p0) - nI (Q sj p1))), (3, .int (nI (P sj p0) - nI (P sj p1))), (0, .ref (ad 3 (sj))), (1, .int (nI (p0))), (2, .int (nI (p1)))]) X.1 X.2.1 dX4_isAhead_37 hl (by decide) rfl (fun ls hl => ?_)
    refine lv_iload X.1 X.2.1 dX4_isAhead_39 (lv_at hl 0 rfl) ?_
    refine b_if_eq (tgt := 55) X dX4_isAhead_41 (by decide) (a := ((Q sj p0 : Nat) : Int) - ((Q sj p1 : Nat) : Int)) (pk_sub_toInt (by omega) (by omega)) (fun c6 => ?_) (fun c6 => ?_)
    · skip
      refine lv_iload_n X.1 X.2.1 dX4_isAhead_55 rfl (lv_at hl 3 rfl) ?_
      refine lv_iload_n X.1 X.2.1 dX4_isAhead_56 rfl (lv_at hl 4 rfl) ?_
      refine b_icmp_ge (tgt := 64) X dX4_isAhead_57 (by decide) (a := ((p0 : Nat) : Int)) (b := ((p1 : Nat) : Int)) (nI_ti (by omega)) (nI_ti (by omega)) (fun c7 => ?_) (fun c7 => ?_)
      · skip
        refine lv_iconst (v := nI (0)) X.1 X.2.1 dX4_isAhead_64 (by decide) ?_
        exact m_zret X hr hlocks hM dX4_isAhead_65 ⟨Nat.le_of_ble_eq_true rfl, Nat.le_of_ble_eq_true rfl⟩ (rfl) (⟨congrArg (fun z => some (Value.int z)) (by unfold ahM; first | (rw [if_pos (show P sj p0 = P sj p1 by omega)]; first | exact bI_dec (by omega) | exact bI_decN (by omega)) | (rw [if_neg (show ¬ P sj p0 = P sj p1 by omega)]; first | exact bI_dec (by omega) | exact bI_decN (by omega))), rfl⟩)
      · skip
        refine lv_iconst (v := nI (1)) X.1 X.2.1 dX4_isAhead_60 (by decide) ?_
        refine lv_goto (tgt := 65) X.1 X.2.1 dX4_isAhead_61 (by decide) ?_
        exact m_zret X hr hlocks hM dX4_isAhead_65 ⟨Nat.le_of_ble_eq_true rfl, Nat.le_of_ble_eq_true rfl⟩ (rfl) (⟨congrArg (fun z => some (Value.int z)) (by unfold ahM; first | (rw [if_pos (show P sj p0 = P sj p1 by omega)]; first | exact bI_dec (by omega) | exact bI_decN (by omega)) | (rw [if_neg (show ¬ P sj p0 = P sj p1 by omega)]; first | exact bI_dec (by omega) | exact bI_decN (by omega))), rfl⟩)
    · skip
      refine lv_iload X.1 X.2.1 dX4_isAhead_44 (lv_at hl 0 rfl) ?_
      refine b_if_ge (tgt := 53) X dX4_isAhead_46 (by decide) (a := ((Q sj p0 : Nat) : Int) - ((Q sj p1 : Nat) : Int)) (pk_sub_toInt (by omega) (by omega)) (fun c8 => ?_) (fun c8 => ?_)
      · skip
        refine lv_iconst (v := nI (0)) X.1 X.2.1 dX4_isAhead_53 (by decide) ?_
        exact m_zret X hr hlocks hM dX4_isAhead_54 ⟨Nat.le_of_ble_eq_true rfl, Nat.le_of_ble_eq_true rfl⟩ (rfl) (⟨congrArg (fun z => some (Value.int z)) (by unfold ahM; first | (rw [if_pos (show P sj p0 = P sj p1 by omega)]; first | exact bI_dec (by omega) | exact bI_decN (by omega)) | (rw [if_neg (show ¬ P sj p0 = P sj p1 by omega)]; first | exact bI_dec (by omega) | exact bI_decN (by omega))), rfl⟩)
      · skip
        refine lv_iconst (v := nI (1)) X.1 X.2.1 dX4_isAhead_49 (by decide) ?_
        refine lv_goto (tgt := 54) X.1 X.2.1 dX4_isAhead_50 (by decide) ?_
        exact m_zret X hr hlocks hM dX4_isAhead_54 ⟨Nat.le_of_ble_eq_true rfl, Nat.le_of_ble_eq_true rfl⟩ (rfl) (⟨congrArg (fun z => some (Value.int z)) (by unfold ahM; first | (rw [if_pos (show P sj p0 = P sj p1 by omega)]; first | exact bI_dec (by omega) | exact bI_decN (by omega)) | (rw [if_neg (show ¬ P sj p0 = P sj p1 by omega)]; first | exact bI_dec (by omega) | exact bI_decN (by omega))), rfl⟩)
  · skip
    refine lv_iload_n X.1 X.2.1 dX4_isAhead_16 rfl (lv_at hl 0 rfl) ?_
    refine b_if_le (tgt := 24) X dX4_isAhead_17 (by decide) (a := ((P sj p0 : Nat) : Int) - ((P sj p1 : Nat) : Int)) (pk_sub_toInt (by omega) (by omega)) (fun c9 => ?_) (fun c9 => ?_)
    · skip
      refine lv_iconst (v := nI (0)) X.1 X.2.1 dX4_isAhead_24 (by decide) ?_
      exact m_zret X hr hlocks hM dX4_isAhead_25 ⟨Nat.le_of_ble_eq_true rfl, Nat.le_of_ble_eq_true rfl⟩ (rfl) (⟨congrArg (fun z => some (Value.int z)) (by unfold ahM; first | (rw [if_pos (show P sj p0 = P sj p1 by omega)]; first | exact bI_dec (by omega) | exact bI_decN (by omega)) | (rw [if_neg (show ¬ P sj p0 = P sj p1 by omega)]; first | exact bI_dec (by omega) | exact bI_decN (by omega))), rfl⟩)
    · skip
      refine lv_iconst (v := nI (1)) X.1 X.2.1 dX4_isAhead_20 (by decide) ?_
      refine lv_goto (tgt := 25) X.1 X.2.1 dX4_isAhead_21 (by decide) ?_
      exact m_zret X hr hlocks hM dX4_isAhead_25 ⟨Nat.le_of_ble_eq_true rfl, Nat.le_of_ble_eq_true rfl⟩ (rfl) (⟨congrArg (fun z => some (Value.int z)) (by unfold ahM; first | (rw [if_pos (show P sj p0 = P sj p1 by omega)]; first | exact bI_dec (by omega) | exact bI_decN (by omega)) | (rw [if_neg (show ¬ P sj p0 = P sj p1 by omega)]; first | exact bI_dec (by omega) | exact bI_decN (by omega))), rfl⟩)
set_option maxHeartbeats 4000000 in
set_option maxRecDepth 100000 in
theorem c_X4_placeOf (l : Launch) (G : mG) (ad : Nat → Nat → Nat) (N : Nat → Nat) (F : Nat → Nat → Nat) (B : Nat → Int32) (E P Q : Nat → Nat → Nat) (M : Mem) (R : RC G ad N F B E P Q M) (sj : Nat) (p0 : Nat) (hs : sj < E 0 3) (hb : ∀ z, z < 16 → P sj z ≤ 1000 ∧ Q sj z ≤ 1000) (h0 : p0 < 16) : mMet l yX4_placeOf cX4_placeOf 4 (some FieldType.int) ({ frames := 2, cells := 0, slots := 0, locals := 45 } : Room) G [.ref (ad 3 (sj)), .int (nI (p0))] M (fun r M' => r = some (.int (nI (if P sj p0 = 0 then 0 else 1 + plC (P sj) (Q sj) p0 16))) ∧ M = M') := by
  refine mMet.of (by decide) (Nat.le_of_ble_eq_true rfl) ?_
  intro p e s m args below meth c A ls X hr hlocks hname hM hl
  have hl : lv_has ls 4 [(0, .ref (ad 3 (sj))), (1, .int (nI (p0)))] := hl
  refine lv_aload_n X.1 X.2.1 dX4_placeOf_0 rfl (lv_at hl 0 rfl) ?_
  refine lv_iload_n X.1 X.2.1 dX4_placeOf_1 rfl (lv_at hl 1 rfl) ?_
  refine m_callV X hM ck_X4_22 ki_X4_pointsOf ks_X4_pointsOf (ci := 5) rfl dX4_placeOf_2 (As := [.int (nI (p0))]) (c_X4_pointsOf l G ad N F B E P Q _ R sj p0 (show _ < E 0 3 by omega) (by omega)) (R.1 3 (sj) (show sj < E 0 3 by omega)) rfl hl rfl (Nat.le_of_ble_eq_true rfl) ⟨Nat.le_of_ble_eq_true rfl, Nat.le_of_ble_eq_true rfl⟩ ⟨Nat.le_of_ble_eq_true rfl, Nat.le_of_ble_eq_true rfl⟩ ?_
  rintro _ _ H locs ⟨rfl, rfl⟩ hM
  have b1 := hb p0 (by omega)
  refine b_if_ne (tgt := 10) X dX4_placeOf_5 (by decide) (a := ((P sj p0 : Nat) : Int)) (nI_ti (by omega)) (fun c2 => ?_) (fun c2 => ?_)
  · skip
    refine lv_iconst (v := nI (1)) X.1 X.2.1 dX4_placeOf_10 (by decide) ?_
    refine lv_istore_n (lv' := [(2, .int (nI (1))), (0, .ref (ad 3 (sj))), (1, .int (nI (p0)))]) X.1 X.2.1 dX4_placeOf_11 rfl hl (by decide) rfl (fun ls hl => ?_)
    refine lv_iconst (v := nI (0)) X.1 X.2.1 dX4_placeOf_12 (by decide) ?_
    refine lv_istore_n (lv' := [(3, .int (nI (0))), (2, .int (nI (1))), (0, .ref (ad 3 (sj))), (1, .int (nI (p0)))]) X.1 X.2.1 dX4_placeOf_13 rfl hl (by decide) rfl (fun ls hl => ?_)
    have loop : ∀ (n9 : Nat) (i : Nat) (t : Nat), (i ≤ 16) → (17 ≤ i + n9) → (t = 1 + plC (P sj) (Q sj) p0 i) → ∀ (H : Heap) (locs : List Loc) (ls : Array Slot), mW G A s.heap M H locs → lv_has ls 4 [(0, .ref (ad 3 (sj))), (1, .int (nI (p0))), (2, .int (nI (t))), (3, .int (nI (i)))] → W p l e ({ frames := 2, cells := 0, slots := 0, locals := 45 } : Room) s m args below meth c H locs 0 0 (MQ below (mQ G A (fun r M' => r = some (.int (nI (if P sj p0 = 0 then 0 else 1 + plC (P sj) (Q sj) p0 16))) ∧ M = M')) args s 0 0 A) (F0 m 14 ls []) := by
      intro n9
      induction n9 with
      | zero => intro i t hi hm9 ht; exact absurd hm9 (by omega)
      | succ n9 ih_loop =>
        intro i t hi hm9 ht H locs ls hM hl
        have ht2 := plC_le (P sj) (Q sj) p0 i
        refine lv_iload_n X.1 X.2.1 dX4_placeOf_14 rfl (lv_at hl 3 rfl) ?_
        refine lv_aload_n X.1 X.2.1 dX4_placeOf_15 rfl (lv_at hl 0 rfl) ?_
        refine mg_get X hM (ci := 5) (k := 1) rfl kwX4 (by decide) kf_X4_9 dX4_placeOf_16 (R.1 3 (sj) (show sj < E 0 3 by omega)) (v := .ref (ad 4 (sj))) rfl ?_
        refine mg_alen X hM 0 rfl dX4_placeOf_19 (R.1 4 (sj) (show sj < E 0 3 by omega)) ?_
        refine b_icmp_ge (tgt := 41) X dX4_placeOf_20 (by decide) (a := ((i : Nat) : Int)) (b := ((16 : Nat) : Int)) (nI_ti (by omega)) (nI_ti (by omega)) (fun c3 => ?_) (fun c3 => ?_)
        · skip
          refine lv_iload_n X.1 X.2.1 dX4_placeOf_41 rfl (lv_at hl 2 rfl) ?_
          exact m_iret X hr hlocks hM dX4_placeOf_42 ⟨Nat.le_of_ble_eq_true rfl, Nat.le_of_ble_eq_true rfl⟩ (⟨congrArg (fun z => some (Value.int (nI z))) (by first | (rw [if_pos (show P sj p0 = 0 by omega)]; done) | (rw [if_neg (show ¬ P sj p0 = 0 by omega), ht, show i = 16 by omega]; done)), rfl⟩)
        · skip
          refine lv_aload_n X.1 X.2.1 dX4_placeOf_23 rfl (lv_at hl 0 rfl) ?_
          refine lv_iload_n X.1 X.2.1 dX4_placeOf_24 rfl (lv_at hl 3 rfl) ?_
          refine lv_iload_n X.1 X.2.1 dX4_placeOf_25 rfl (lv_at hl 1 rfl) ?_
          refine m_callV X hM ck_X4_26 ki_X4_isAhead ks_X4_isAhead (ci := 5) rfl dX4_placeOf_26 (As := [.int (nI (i)), .int (nI (p0))]) (c_X4_isAhead l G ad N F B E P Q _ R sj i p0 (show _ < E 0 3 by omega) hb (by omega) (by omega)) (R.1 3 (sj) (show sj < E 0 3 by omega)) rfl hl rfl (Nat.le_of_ble_eq_true rfl) ⟨Nat.le_of_ble_eq_true rfl, Nat.le_of_ble_eq_true rfl⟩ ⟨Nat.le_of_ble_eq_true rfl, Nat.le_of_ble_eq_true rfl⟩ ?_
          rintro _ _ H locs ⟨rfl, rfl⟩ hM
          refine b_bool_eq (tgt := 35) X dX4_placeOf_29 (by decide) (fun c4 => ?_) (fun c4 => ?_)
          · skip
            refine lv_iinc (v := nI (i + 1)) (lv' := [(3, .int (nI (i + 1))), (0, .ref (ad 3 (sj))), (1, .int (nI (p0))), (2, .int (nI (t)))]) X.1 X.2.1 dX4_placeOf_35 hl (k := 3) rfl (nI_add (i) 1) (by decide) rfl (fun ls hl => ?_)
            refine lv_goto (tgt := 14) X.1 X.2.1 dX4_placeOf_38 (by decide) ?_
            exact ih_loop (i + 1) (t) (by omega) (by omega) (by subst ht; first | (have := plC_t (P := P sj) (Q := Q sj) (p := p0) (q := i) (by assumption); omega) | (have := plC_f (P := P sj) (Q := Q sj) (p := p0) (q := i) (by assumption); omega)) _ _ _ hM (lv_sub hl [1, 2, 3, 0] rfl)
          · skip
            refine lv_iinc (v := nI (t + 1)) (lv' := [(2, .int (nI (t + 1))), (0, .ref (ad 3 (sj))), (1, .int (nI (p0))), (3, .int (nI (i)))]) X.1 X.2.1 dX4_placeOf_32 hl (k := 2) rfl (nI_add (t) 1) (by decide) rfl (fun ls hl => ?_)
            refine lv_iinc (v := nI (i + 1)) (lv' := [(3, .int (nI (i + 1))), (2, .int (nI (t + 1))), (0, .ref (ad 3 (sj))), (1, .int (nI (p0)))]) X.1 X.2.1 dX4_placeOf_35 hl (k := 3) rfl (nI_add (i) 1) (by decide) rfl (fun ls hl => ?_)
            refine lv_goto (tgt := 14) X.1 X.2.1 dX4_placeOf_38 (by decide) ?_
            exact ih_loop (i + 1) (t + 1) (by omega) (by omega) (by subst ht; first | (have := plC_t (P := P sj) (Q := Q sj) (p := p0) (q := i) (by assumption); omega) | (have := plC_f (P := P sj) (Q := Q sj) (p := p0) (q := i) (by assumption); omega)) _ _ _ hM (lv_sub hl [2, 3, 1, 0] rfl)
    exact loop 17 0 1 (by omega) (by omega) rfl _ _ _ hM (lv_sub hl [2, 3, 1, 0] rfl)
  · skip
    refine lv_iconst (v := nI (0)) X.1 X.2.1 dX4_placeOf_8 (by decide) ?_
    exact m_iret X hr hlocks hM dX4_placeOf_9 ⟨Nat.le_of_ble_eq_true rfl, Nat.le_of_ble_eq_true rfl⟩ (⟨congrArg (fun z => some (Value.int (nI z))) (by first | (rw [if_pos (show P sj p0 = 0 by omega)]; done) | (rw [if_neg (show ¬ P sj p0 = 0 by omega), ht, show i = 16 by omega]; done)), rfl⟩)
