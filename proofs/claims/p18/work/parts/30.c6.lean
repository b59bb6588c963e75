theorem pa_z {z : Int32} {n : Nat} (h : (if iR z n = true then ix z + 1 else 0) = 0) : iR z n = false := by
  cases h9 : iR z n with
  | false => rfl
  | true => rw [if_pos h9] at h; cases h
theorem pa_n {z : Int32} {n : Nat} (h : ¬ (if iR z n = true then ix z + 1 else 0) = 0) : iR z n = true := by
  cases h9 : iR z n with
  | true => rfl
  | false => exact absurd (if_neg (by rw [h9]; decide)) h
theorem row_op (ad : Nat → Nat → Nat) (n : Nat) {j : Nat} (hj : j < 2 ^ 31) : rowA ad 1 n j = opA ad (if iR (nI j) n = true then ix (nI j) + 1 else 0) := by
  rw [iR_nI hj, ix_nI hj]
  unfold rowA opA
  by_cases h : j < n <;> simp [h]
set_option maxHeartbeats 4000000 in
set_option maxRecDepth 100000 in
theorem c_X6_findPlayer (l : Launch) (G : mG) (ad : Nat → Nat → Nat) (N : Nat → Nat) (F : Nat → Nat → Nat) (B : Nat → Int32) (E P Q : Nat → Nat → Nat) (M : Mem) (R : RC G ad N F B E P Q M) (z0 : Int32) (h10 : E 0 10 ≤ 16) : mMet l yX6_findPlayer cX6_findPlayer 2 (some (FieldType.object "SkinLeague$Player")) ({ frames := 0, cells := 0, slots := 0, locals := 0 } : Room) G [.ref (ad 0 0), .int (z0)] M (fun r M' => r = some (va_rf (opA ad (if iR z0 (E 0 10) = true then ix z0 + 1 else 0))) ∧ M = M') := by
  refine mMet.of (by decide) (Nat.le_of_ble_eq_true rfl) ?_
  intro p e s m args below meth c A ls X hr hlocks hname hM hl
  have hl : lv_has ls 2 [(0, .ref (ad 0 0)), (1, .int (z0))] := hl
  refine lv_iload_n X.1 X.2.1 dX6_findPlayer_0 rfl (lv_at hl 1 rfl) ?_
  refine b_if_lt (tgt := 22) X dX6_findPlayer_1 (by decide) (a := (z0).toInt) (rfl) (fun c1 => ?_) (fun c1 => ?_)
  · skip
    refine lv_null X.1 X.2.1 dX6_findPlayer_22 ?_
    exact m_aret (r := none) X hr hlocks hM dX6_findPlayer_23 ⟨Nat.le_of_ble_eq_true rfl, Nat.le_of_ble_eq_true rfl⟩ (⟨congrArg (fun z => some (va_rf z)) (by rw [if_neg (fun y => by have y2 := of_decide_eq_true y; omega)]; rfl), rfl⟩)
  · skip
    refine lv_iload_n X.1 X.2.1 dX6_findPlayer_4 rfl (lv_at hl 1 rfl) ?_
    refine lv_aload_n X.1 X.2.1 dX6_findPlayer_5 rfl (lv_at hl 0 rfl) ?_
    refine mg_get X hM (ci := 7) (k := 0) rfl kwX6 (by decide) kf_X6_11 dX6_findPlayer_6 (R.1 0 (0) rfl) (v := .ref (ad 10 0)) rfl ?_
    refine mg_alen X hM 3 rfl dX6_findPlayer_9 (R.1 10 (0) rfl) ?_
    refine b_icmp_ge (tgt := 22) X dX6_findPlayer_10 (by decide) (a := (z0).toInt) (b := ((16 : Nat) : Int)) (rfl) (nI_ti (by omega)) (fun c2 => ?_) (fun c2 => ?_)
    · skip
      refine lv_null X.1 X.2.1 dX6_findPlayer_22 ?_
      exact m_aret (r := none) X hr hlocks hM dX6_findPlayer_23 ⟨Nat.le_of_ble_eq_true rfl, Nat.le_of_ble_eq_true rfl⟩ (⟨congrArg (fun z => some (va_rf z)) (by rw [if_neg (fun y => by have y2 := of_decide_eq_true y; omega)]; rfl), rfl⟩)
    · skip
      obtain ⟨j0, hj0, rfl⟩ := iR_t (p := z0) (n := 16) (decide_eq_true (by omega)) (by decide)
      refine lv_aload_n X.1 X.2.1 dX6_findPlayer_13 rfl (lv_at hl 0 rfl) ?_
      refine mg_get X hM (ci := 7) (k := 0) rfl kwX6 (by decide) kf_X6_11 dX6_findPlayer_14 (R.1 0 (0) rfl) (v := .ref (ad 10 0)) rfl ?_
      refine lv_iload_n X.1 X.2.1 dX6_findPlayer_17 rfl (lv_at hl 1 rfl) ?_
      refine mx_aald X hM 3 (C := RX1) rfl dX6_findPlayer_18 (R.1 10 (0) rfl) (i := j0) (by omega) (by decide) (r := rowA ad 1 (E 0 10) (j0)) (by first | rfl | simp only [set1_at]) ?_
      refine lv_goto (tgt := 23) X.1 X.2.1 dX6_findPlayer_19 (by decide) ?_
      exact m_aret (r := rowA ad 1 (E 0 10) (j0)) X hr hlocks hM dX6_findPlayer_23 ⟨Nat.le_of_ble_eq_true rfl, Nat.le_of_ble_eq_true rfl⟩ (⟨congrArg (fun z => some (va_rf z)) (row_op ad (E 0 10) (by omega)), rfl⟩)
theorem c_X6_findPlayer2 (l : Launch) (G : mG) (ad : Nat → Nat → Nat) (N : Nat → Nat) (F : Nat → Nat → Nat) (B : Nat → Int32) (E P Q : Nat → Nat → Nat) (M : Mem) (R : RC G ad N F B E P Q M) (f : Nat) (h10 : E 0 10 ≤ 16) (hf : f ≤ E 0 10) : mMet l yX6_findPlayer cX6_findPlayer 2 (some (FieldType.object "SkinLeague$Player")) ({ frames := 0, cells := 0, slots := 0, locals := 0 } : Room) G [.ref (ad 0 0), .int (nI (f) - 1)] M (fun r M' => r = some (va_rf (opA ad f)) ∧ M = M') := by
  have h := c_X6_findPlayer l G ad N F B E P Q M R (nI f - 1) h10
  have e : (if iR (nI f - 1) (E 0 10) = true then ix (nI f - 1) + 1 else 0) = f := by
    cases f with
    | zero => exact if_neg (fun y => by have y2 := of_decide_eq_true y; have y3 : (nI 0 - 1 : Int32).toInt = -1 := rfl; omega)
    | succ g => rw [nI_pred, iR_nI (by omega), ix_nI (by omega), if_pos (decide_eq_true (by omega))]
  rw [e] at h
  exact h
set_option maxHeartbeats 4000000 in
set_option maxRecDepth 100000 in
theorem c_X6_playerAt (l : Launch) (G : mG) (ad : Nat → Nat → Nat) (N : Nat → Nat) (F : Nat → Nat → Nat) (B : Nat → Int32) (E P Q : Nat → Nat → Nat) (M : Mem) (R : RC G ad N F B E P Q M) (z0 : Int32) (hst : l.stackTraces = false) (h10 : E 0 10 ≤ 16) : xMet l yX6_playerAt cX6_playerAt 3 (some (FieldType.object "SkinLeague$Player")) ({ frames := 6, cells := 1, slots := 6, locals := 82 } : Room) G [.ref (ad 0 0), .int (z0)] M (fun r M' => r = some (.ref (ad 1 (ix z0))) ∧ iR z0 (E 0 10) = true ∧ M = M') (fun E9 M' => E9 = EIO ∧ iR z0 (E 0 10) = false ∧ M = M') := by
  refine xMet.of (by decide) (Nat.le_of_ble_eq_true rfl) ?_
  intro p e s m args below meth c A ls X hr hlocks hname hM hl hS hZ ht
  have hl : lv_has ls 3 [(0, .ref (ad 0 0)), (1, .int (z0))] := hl
  refine lv_aload_n X.1 X.2.1 dX6_playerAt_0 rfl (lv_at hl 0 rfl) ?_
  refine lv_iload_n X.1 X.2.1 dX6_playerAt_1 rfl (lv_at hl 1 rfl) ?_
  refine m_callV X hM ck_X6_242 ki_X6_findPlayer ks_X6_findPlayer (ci := 7) rfl dX6_playerAt_2 (As := [.int (z0)]) (c_X6_findPlayer l G ad N F B E P Q _ R z0 (show E 0 10 ≤ 16 by omega)) (R.1 0 (0) rfl) rfl hl rfl (Nat.le_of_ble_eq_true rfl) ⟨Nat.le_of_ble_eq_true rfl, Nat.le_of_ble_eq_true rfl⟩ ⟨Nat.le_of_ble_eq_true rfl, Nat.le_of_ble_eq_true rfl⟩ ?_
  rintro _ _ H locs ⟨rfl, rfl⟩ hM
  refine lw_astore_n (lv' := [(2, va_rf (opA ad (if iR z0 (E 0 10) = true then ix z0 + 1 else 0))), (0, .ref (ad 0 0)), (1, .int (z0))]) X.1 X.2.1 dX6_playerAt_5 rfl hl (by decide) rfl (fun ls hl => ?_)
  refine lw_aload_n X.1 X.2.1 dX6_playerAt_6 rfl (lv_at hl 0 rfl) ?_
  by_cases cz1 : (if iR z0 (E 0 10) = true then ix z0 + 1 else 0) = 0
  · skip
    refine lv_topv (y := .null) (by unfold opA; rw [if_pos cz1]; rfl) ?_
    refine lv_ifnonnullN X.1 X.2.1 dX6_playerAt_7 ?_
    exact x_throw (cls := EIO) (text := "no such player") X hst hS hZ ht hlocks hM hl (by decide +kernel) (by decide) xh_227 xg_227 dX6_playerAt_10 dX6_playerAt_13 dX6_playerAt_14 dX6_playerAt_16 dX6_playerAt_19 ⟨Nat.le_of_ble_eq_true rfl, Nat.le_of_ble_eq_true rfl⟩ ⟨Nat.le_of_ble_eq_true rfl, Nat.le_of_ble_eq_true rfl⟩ ⟨Nat.le_of_ble_eq_true rfl, Nat.le_of_ble_eq_true rfl⟩ (⟨rfl, pa_z (by assumption), rfl⟩)
  · skip
    refine lv_topv (y := .ref (ad 1 ((if iR z0 (E 0 10) = true then ix z0 + 1 else 0) - 1))) (by unfold opA; rw [if_neg cz1]; rfl) ?_
    refine lv_ifnonnull (tgt := 20) X.1 X.2.1 dX6_playerAt_7 (by decide) ?_
    refine lw_aload_n X.1 X.2.1 dX6_playerAt_20 rfl (lv_at hl 0 rfl) ?_
    refine lv_topv (y := .ref (ad 1 ((if iR z0 (E 0 10) = true then ix z0 + 1 else 0) - 1))) (by unfold opA; rw [if_neg cz1]; rfl) ?_
    exact x_aret (r := some (ad 1 ((if iR z0 (E 0 10) = true then ix z0 + 1 else 0) - 1))) X hr hlocks hM dX6_playerAt_21 ⟨Nat.le_of_ble_eq_true rfl, Nat.le_of_ble_eq_true rfl⟩ (⟨congrArg (fun z => some (Value.ref (ad 1 z))) (by rw [if_pos (pa_n (by assumption))]; rfl), pa_n (by assumption), rfl⟩)
set_option maxHeartbeats 4000000 in
set_option maxRecDepth 100000 in
theorem c_X6_regionAt (l : Launch) (G : mG) (ad : Nat → Nat → Nat) (N : Nat → Nat) (F : Nat → Nat → Nat) (B : Nat → Int32) (E P Q : Nat → Nat → Nat) (M : Mem) (R : RC G ad N F B E P Q M) (z0 : Int32) (hst : l.stackTraces = false) : xMet l yX6_regionAt cX6_regionAt 3 (some (FieldType.object "SkinLeague$Region")) ({ frames := 6, cells := 1, slots := 6, locals := 82 } : Room) G [.ref (ad 0 0), .int (z0)] M (fun r M' => r = some (.ref (ad 9 (ix z0))) ∧ iR z0 (4) = true ∧ M = M') (fun E9 M' => E9 = EIO ∧ iR z0 (4) = false ∧ M = M') := by
  refine xMet.of (by decide) (Nat.le_of_ble_eq_true rfl) ?_
  intro p e s m args below meth c A ls X hr hlocks hname hM hl hS hZ ht
  have hl : lv_has ls 3 [(0, .ref (ad 0 0)), (1, .int (z0))] := hl
  refine lv_iload_n X.1 X.2.1 dX6_regionAt_0 rfl (lv_at hl 1 rfl) ?_
  refine b_if_lt (tgt := 22) X dX6_regionAt_1 (by decide) (a := (z0).toInt) (rfl) (fun c1 => ?_) (fun c1 => ?_)
  · skip
    refine lv_null X.1 X.2.1 dX6_regionAt_22 ?_
    refine lv_astore_nN (lv' := [(2, .null), (0, .ref (ad 0 0)), (1, .int (z0))]) X.1 X.2.1 dX6_regionAt_23 rfl hl (by decide) rfl (fun ls hl => ?_)
    refine lv_aload_nN X.1 X.2.1 dX6_regionAt_24 rfl (lv_at hl 0 rfl) ?_
    refine lv_ifnonnullN X.1 X.2.1 dX6_regionAt_25 ?_
    exact x_throw (cls := EIO) (text := "no such region") X hst hS hZ ht hlocks hM hl (by decide +kernel) (by decide) xh_227 xg_227 dX6_regionAt_28 dX6_regionAt_31 dX6_regionAt_32 dX6_regionAt_34 dX6_regionAt_37 ⟨Nat.le_of_ble_eq_true rfl, Nat.le_of_ble_eq_true rfl⟩ ⟨Nat.le_of_ble_eq_true rfl, Nat.le_of_ble_eq_true rfl⟩ ⟨Nat.le_of_ble_eq_true rfl, Nat.le_of_ble_eq_true rfl⟩ (⟨rfl, by first | exact decide_eq_false (fun y => by omega) | (rw [iR_nI (by omega)]; exact decide_eq_false (by omega)), rfl⟩)
  · skip
    refine lv_iload_n X.1 X.2.1 dX6_regionAt_4 rfl (lv_at hl 1 rfl) ?_
    refine lv_aload_n X.1 X.2.1 dX6_regionAt_5 rfl (lv_at hl 0 rfl) ?_
    refine mg_get X hM (ci := 7) (k := 4) rfl kwX6 (by decide) kf_X6_35 dX6_regionAt_6 (R.1 0 (0) rfl) (v := .ref (ad 14 0)) rfl ?_
    refine mg_alen X hM 7 rfl dX6_regionAt_9 (R.1 14 (0) rfl) ?_
    refine b_icmp_ge (tgt := 22) X dX6_regionAt_10 (by decide) (a := (z0).toInt) (b := ((4 : Nat) : Int)) (rfl) (nI_ti (by omega)) (fun c2 => ?_) (fun c2 => ?_)
    · skip
      refine lv_null X.1 X.2.1 dX6_regionAt_22 ?_
      refine lv_astore_nN (lv' := [(2, .null), (0, .ref (ad 0 0)), (1, .int (z0))]) X.1 X.2.1 dX6_regionAt_23 rfl hl (by decide) rfl (fun ls hl => ?_)
      refine lv_aload_nN X.1 X.2.1 dX6_regionAt_24 rfl (lv_at hl 0 rfl) ?_
      refine lv_ifnonnullN X.1 X.2.1 dX6_regionAt_25 ?_
      exact x_throw (cls := EIO) (text := "no such region") X hst hS hZ ht hlocks hM hl (by decide +kernel) (by decide) xh_227 xg_227 dX6_regionAt_28 dX6_regionAt_31 dX6_regionAt_32 dX6_regionAt_34 dX6_regionAt_37 ⟨Nat.le_of_ble_eq_true rfl, Nat.le_of_ble_eq_true rfl⟩ ⟨Nat.le_of_ble_eq_true rfl, Nat.le_of_ble_eq_true rfl⟩ ⟨Nat.le_of_ble_eq_true rfl, Nat.le_of_ble_eq_true rfl⟩ (⟨rfl, by first | exact decide_eq_false (fun y => by omega) | (rw [iR_nI (by omega)]; exact decide_eq_false (by omega)), rfl⟩)
    · skip
      obtain ⟨j0, hj0, rfl⟩ := iR_t (p := z0) (n := 4) (decide_eq_true (by omega)) (by decide)
      refine lv_aload_n X.1 X.2.1 dX6_regionAt_13 rfl (lv_at hl 0 rfl) ?_
      refine mg_get X hM (ci := 7) (k := 4) rfl kwX6 (by decide) kf_X6_35 dX6_regionAt_14 (R.1 0 (0) rfl) (v := .ref (ad 14 0)) rfl ?_
      refine lv_iload_n X.1 X.2.1 dX6_regionAt_17 rfl (lv_at hl 1 rfl) ?_
      refine mx_aald X hM 7 (C := RX2) rfl dX6_regionAt_18 (R.1 14 (0) rfl) (i := j0) (by omega) (by decide) (r := rowA ad 9 (4) (j0)) (by first | rfl | simp only [set1_at]) ?_
      refine lv_goto (tgt := 23) X.1 X.2.1 dX6_regionAt_19 (by decide) ?_
      refine lw_astore_n (lv' := [(2, va_rf (rowA ad 9 (4) (j0))), (0, .ref (ad 0 0)), (1, .int (nI (j0)))]) X.1 X.2.1 dX6_regionAt_23 rfl hl (by decide) rfl (fun ls hl => ?_)
      refine lw_aload_n X.1 X.2.1 dX6_regionAt_24 rfl (lv_at hl 0 rfl) ?_
      by_cases cz3 : j0 < 4
      · skip
        refine lv_topv (y := .ref (ad 9 (j0))) (by unfold rowA; rw [if_pos cz3]; rfl) ?_
        refine lv_ifnonnull (tgt := 38) X.1 X.2.1 dX6_regionAt_25 (by decide) ?_
        refine lw_aload_n X.1 X.2.1 dX6_regionAt_38 rfl (lv_at hl 0 rfl) ?_
        refine lv_topv (y := .ref (ad 9 (j0))) (by unfold rowA; rw [if_pos cz3]; rfl) ?_
        exact x_aret (r := some (ad 9 (j0))) X hr hlocks hM dX6_regionAt_39 ⟨Nat.le_of_ble_eq_true rfl, Nat.le_of_ble_eq_true rfl⟩ (⟨congrArg (fun z => some (Value.ref (ad 9 z))) (ix_nI (by omega)).symm, by rw [iR_nI (by omega)]; exact decide_eq_true (by omega), rfl⟩)
      · skip
        refine lv_topv (y := .null) (by unfold rowA; rw [if_neg cz3]; rfl) ?_
        refine lv_ifnonnullN X.1 X.2.1 dX6_regionAt_25 ?_
        exact x_throw (cls := EIO) (text := "no such region") X hst hS hZ ht hlocks hM hl (by decide +kernel) (by decide) xh_227 xg_227 dX6_regionAt_28 dX6_regionAt_31 dX6_regionAt_32 dX6_regionAt_34 dX6_regionAt_37 ⟨Nat.le_of_ble_eq_true rfl, Nat.le_of_ble_eq_true rfl⟩ ⟨Nat.le_of_ble_eq_true rfl, Nat.le_of_ble_eq_true rfl⟩ ⟨Nat.le_of_ble_eq_true rfl, Nat.le_of_ble_eq_true rfl⟩ (⟨rfl, by first | exact decide_eq_false (fun y => by omega) | (rw [iR_nI (by omega)]; exact decide_eq_false (by omega)), rfl⟩)
set_option maxHeartbeats 4000000 in
set_option maxRecDepth 100000 in
theorem c_X6_matchAt (l : Launch) (G : mG) (ad : Nat → Nat → Nat) (N : Nat → Nat) (F : Nat → Nat → Nat) (B : Nat → Int32) (E P Q : Nat → Nat → Nat) (M : Mem) (R : RC G ad N F B E P Q M) (z0 : Int32) (hst : l.stackTraces = false) (h10 : E 0 11 ≤ 100) : xMet l yX6_matchAt cX6_matchAt 3 (some (FieldType.object "SkinLeague$Match")) ({ frames := 6, cells := 1, slots := 6, locals := 82 } : Room) G [.ref (ad 0 0), .int (z0)] M (fun r M' => r = some (.ref (ad 2 (ix z0))) ∧ iR z0 (E 0 11) = true ∧ M = M') (fun E9 M' => E9 = EIO ∧ iR z0 (E 0 11) = false ∧ M = M') := by
  refine xMet.of (by decide) (Nat.le_of_ble_eq_true rfl) ?_
  intro p e s m args below meth c A ls X hr hlocks hname hM hl hS hZ ht
  have hl : lv_has ls 3 [(0, .ref (ad 0 0)), (1, .int (z0))] := hl
  refine lv_iload_n X.1 X.2.1 dX6_matchAt_0 rfl (lv_at hl 1 rfl) ?_
  refine b_if_lt (tgt := 22) X dX6_matchAt_1 (by decide) (a := (z0).toInt) (rfl) (fun c1 => ?_) (fun c1 => ?_)
  · skip
    refine lv_null X.1 X.2.1 dX6_matchAt_22 ?_
    refine lv_astore_nN (lv' := [(2, .null), (0, .ref (ad 0 0)), (1, .int (z0))]) X.1 X.2.1 dX6_matchAt_23 rfl hl (by decide) rfl (fun ls hl => ?_)
    refine lv_aload_nN X.1 X.2.1 dX6_matchAt_24 rfl (lv_at hl 0 rfl) ?_
    refine lv_ifnonnullN X.1 X.2.1 dX6_matchAt_25 ?_
    exact x_throw (cls := EIO) (text := "no such match") X hst hS hZ ht hlocks hM hl (by decide +kernel) (by decide) xh_227 xg_227 dX6_matchAt_28 dX6_matchAt_31 dX6_matchAt_32 dX6_matchAt_34 dX6_matchAt_37 ⟨Nat.le_of_ble_eq_true rfl, Nat.le_of_ble_eq_true rfl⟩ ⟨Nat.le_of_ble_eq_true rfl, Nat.le_of_ble_eq_true rfl⟩ ⟨Nat.le_of_ble_eq_true rfl, Nat.le_of_ble_eq_true rfl⟩ (⟨rfl, by first | exact decide_eq_false (fun y => by omega) | (rw [iR_nI (by omega)]; exact decide_eq_false (by omega)), rfl⟩)
  · skip
    refine lv_iload_n X.1 X.2.1 dX6_matchAt_4 rfl (lv_at hl 1 rfl) ?_
    refine lv_aload_n X.1 X.2.1 dX6_matchAt_5 rfl (lv_at hl 0 rfl) ?_
    refine mg_get X hM (ci := 7) (k := 1) rfl kwX6 (by decide) kf_X6_17 dX6_matchAt_6 (R.1 0 (0) rfl) (v := .ref (ad 11 0)) rfl ?_
    refine mg_alen X hM 4 rfl dX6_matchAt_9 (R.1 11 (0) rfl) ?_
    refine b_icmp_ge (tgt := 22) X dX6_matchAt_10 (by decide) (a := (z0).toInt) (b := ((100 : Nat) : Int)) (rfl) (nI_ti (by omega)) (fun c2 => ?_) (fun c2 => ?_)
    · skip
      refine lv_null X.1 X.2.1 dX6_matchAt_22 ?_
      refine lv_astore_nN (lv' := [(2, .null), (0, .ref (ad 0 0)), (1, .int (z0))]) X.1 X.2.1 dX6_matchAt_23 rfl hl (by decide) rfl (fun ls hl => ?_)
      refine lv_aload_nN X.1 X.2.1 dX6_matchAt_24 rfl (lv_at hl 0 rfl) ?_
      refine lv_ifnonnullN X.1 X.2.1 dX6_matchAt_25 ?_
      exact x_throw (cls := EIO) (text := "no such match") X hst hS hZ ht hlocks hM hl (by decide +kernel) (by decide) xh_227 xg_227 dX6_matchAt_28 dX6_matchAt_31 dX6_matchAt_32 dX6_matchAt_34 dX6_matchAt_37 ⟨Nat.le_of_ble_eq_true rfl, Nat.le_of_ble_eq_true rfl⟩ ⟨Nat.le_of_ble_eq_true rfl, Nat.le_of_ble_eq_true rfl⟩ ⟨Nat.le_of_ble_eq_true rfl, Nat.le_of_ble_eq_true rfl⟩ (⟨rfl, by first | exact decide_eq_false (fun y => by omega) | (rw [iR_nI (by omega)]; exact decide_eq_false (by omega)), rfl⟩)
    · skip
      obtain ⟨j0, hj0, rfl⟩ := iR_t (p := z0) (n := 100) (decide_eq_true (by omega)) (by decide)
      refine lv_aload_n X.1 X.2.1 dX6_matchAt_13 rfl (lv_at hl 0 rfl) ?_
      refine mg_get X hM (ci := 7) (k := 1) rfl kwX6 (by decide) kf_X6_17 dX6_matchAt_14 (R.1 0 (0) rfl) (v := .ref (ad 11 0)) rfl ?_
      refine lv_iload_n X.1 X.2.1 dX6_matchAt_17 rfl (lv_at hl 1 rfl) ?_
      refine mx_aald X hM 4 (C := RX0) rfl dX6_matchAt_18 (R.1 11 (0) rfl) (i := j0) (by omega) (by decide) (r := rowA ad 2 (E 0 11) (j0)) (by first | rfl | simp only [set1_at]) ?_
      refine lv_goto (tgt := 23) X.1 X.2.1 dX6_matchAt_19 (by decide) ?_
      refine lw_astore_n (lv' := [(2, va_rf (rowA ad 2 (E 0 11) (j0))), (0, .ref (ad 0 0)), (1, .int (nI (j0)))]) X.1 X.2.1 dX6_matchAt_23 rfl hl (by decide) rfl (fun ls hl => ?_)
      refine lw_aload_n X.1 X.2.1 dX6_matchAt_24 rfl (lv_at hl 0 rfl) ?_
      by_cases cz3 : j0 < E 0 11
      · skip
        refine lv_topv (y := .ref (ad 2 (j0))) (by unfold rowA; rw [if_pos cz3]; rfl) ?_
        refine lv_ifnonnull (tgt := 38) X.1 X.2.1 dX6_matchAt_25 (by decide) ?_
        refine lw_aload_n X.1 X.2.1 dX6_matchAt_38 rfl (lv_at hl 0 rfl) ?_
        refine lv_topv (y := .ref (ad 2 (j0))) (by unfold rowA; rw [if_pos cz3]; rfl) ?_
        exact x_aret (r := some (ad 2 (j0))) X hr hlocks hM dX6_matchAt_39 ⟨Nat.le_of_ble_eq_true rfl, Nat.le_of_ble_eq_true rfl⟩ (⟨congrArg (fun z => some (Value.ref (ad 2 z))) (ix_nI (by omega)).symm, by rw [iR_nI (by omega)]; exact decide_eq_true (by omega), rfl⟩)
      · skip
        refine lv_topv (y := .null) (by unfold rowA; rw [if_neg cz3]; rfl) ?_
        refine lv_ifnonnullN X.1 X.2.1 dX6_matchAt_25 ?_
        exact x_throw (cls := EIO) (text := "no such match") X hst hS hZ ht hlocks hM hl (by decide +kernel) (by decide) xh_227 xg_227 dX6_matchAt_28 dX6_matchAt_31 dX6_matchAt_32 dX6_matchAt_34 dX6_matchAt_37 ⟨Nat.le_of_ble_eq_true rfl, Nat.le_of_ble_eq_true rfl⟩ ⟨Nat.le_of_ble_eq_true rfl, Nat.le_of_ble_eq_true rfl⟩ ⟨Nat.le_of_ble_eq_true rfl, Nat.le_of_ble_eq_true rfl⟩ (⟨rfl, by first | exact decide_eq_false (fun y => by omega) | (rw [iR_nI (by omega)]; exact decide_eq_false (by omega)), rfl⟩)
set_option maxHeartbeats 4000000 in
set_option maxRecDepth 100000 in
theorem c_X6_seasonAt (l : Launch) (G : mG) (ad : Nat → Nat → Nat) (N : Nat → Nat) (F : Nat → Nat → Nat) (B : Nat → Int32) (E P Q : Nat → Nat → Nat) (M : Mem) (R : RC G ad N F B E P Q M) (z0 : Int32) (hst : l.stackTraces = false) (h10 : E 0 12 ≤ 12) : xMet l yX6_seasonAt cX6_seasonAt 3 (some (FieldType.object "SkinLeague$Season")) ({ frames := 6, cells := 1, slots := 6, locals := 82 } : Room) G [.ref (ad 0 0), .int (z0)] M (fun r M' => r = some (.ref (ad 3 (ix z0))) ∧ iR z0 (E 0 12) = true ∧ M = M') (fun E9 M' => E9 = EIO ∧ iR z0 (E 0 12) = false ∧ M = M') := by
  refine xMet.of (by decide) (Nat.le_of_ble_eq_true rfl) ?_
  intro p e s m args below meth c A ls X hr hlocks hname hM hl hS hZ ht
  have hl : lv_has ls 3 [(0, .ref (ad 0 0)), (1, .int (z0))] := hl
  refine lv_iload_n X.1 X.2.1 dX6_seasonAt_0 rfl (lv_at hl 1 rfl) ?_
  refine b_if_lt (tgt := 22) X dX6_seasonAt_1 (by decide) (a := (z0).toInt) (rfl) (fun c1 => ?_) (fun c1 => ?_)
  · skip
    refine lv_null X.1 X.2.1 dX6_seasonAt_22 ?_
    refine lv_astore_nN (lv' := [(2, .null), (0, .ref (ad 0 0)), (1, .int (z0))]) X.1 X.2.1 dX6_seasonAt_23 rfl hl (by decide) rfl (fun ls hl => ?_)
    refine lv_aload_nN X.1 X.2.1 dX6_seasonAt_24 rfl (lv_at hl 0 rfl) ?_
    refine lv_ifnonnullN X.1 X.2.1 dX6_seasonAt_25 ?_
    exact x_throw (cls := EIO) (text := "no such season") X hst hS hZ ht hlocks hM hl (by decide +kernel) (by decide) xh_227 xg_227 dX6_seasonAt_28 dX6_seasonAt_31 dX6_seasonAt_32 dX6_seasonAt_34 dX6_seasonAt_37 ⟨Nat.le_of_ble_eq_true rfl, Nat.le_of_ble_eq_true rfl⟩ ⟨Nat.le_of_ble_eq_true rfl, Nat.le_of_ble_eq_true rfl⟩ ⟨Nat.le_of_ble_eq_true rfl, Nat.le_of_ble_eq_true rfl⟩ (⟨rfl, by first | exact decide_eq_false (fun y => by omega) | (rw [iR_nI (by omega)]; exact decide_eq_false (by omega)), rfl⟩)
  · skip
    refine lv_iload_n X.1 X.2.1 dX6_seasonAt_4 rfl (lv_at hl 1 rfl) ?_
    refine lv_aload_n X.1 X.2.1 dX6_seasonAt_5 rfl (lv_at hl 0 rfl) ?_
    refine mg_get X hM (ci := 7) (k := 2) rfl kwX6 (by decide) kf_X6_23 dX6_seasonAt_6 (R.1 0 (0) rfl) (v := .ref (ad 12 0)) rfl ?_
    refine mg_alen X hM 5 rfl dX6_seasonAt_9 (R.1 12 (0) rfl) ?_
    refine b_icmp_ge (tgt := 22) X dX6_seasonAt_10 (by decide) (a := (z0).toInt) (b := ((12 : Nat) : Int)) (rfl) (nI_ti (by omega)) (fun c2 => ?_) (fun c2 => ?_)
    · skip
      refine lv_null X.1 X.2.1 dX6_seasonAt_22 ?_
      refine lv_astore_nN (lv' := [(2, .null), (0, .ref (ad 0 0)), (1, .int (z0))]) X.1 X.2.1 dX6_seasonAt_23 rfl hl (by decide) rfl (fun ls hl => ?_)
      refine lv_aload_nN X.1 X.2.1 dX6_seasonAt_24 rfl (lv_at hl 0 rfl) ?_
      refine lv_ifnonnullN X.1 X.2.1 dX6_seasonAt_25 ?_
      exact x_throw (cls := EIO) (text := "no such season") X hst hS hZ ht hlocks hM hl (by decide +kernel) (by decide) xh_227 xg_227 dX6_seasonAt_28 dX6_seasonAt_31 dX6_seasonAt_32 dX6_seasonAt_34 dX6_seasonAt_37 ⟨Nat.le_of_ble_eq_true rfl, Nat.le_of_ble_eq_true rfl⟩ ⟨Nat.le_of_ble_eq_true rfl, Nat.le_of_ble_eq_true rfl⟩ ⟨Nat.le_of_ble_eq_true rfl, Nat.le_of_ble_eq_true rfl⟩ (⟨rfl, by first | exact decide_eq_false (fun y => by omega) | (rw [iR_nI (by omega)]; exact decide_eq_false (by omega)), rfl⟩)
    · skip
      obtain ⟨j0, hj0, rfl⟩ := iR_t (p := z0) (n := 12) (decide_eq_true (by omega)) (by decide)
      refine lv_aload_n X.1 X.2.1 dX6_seasonAt_13 rfl (lv_at hl 0 rfl) ?_
      refine mg_get X hM (ci := 7) (k := 2) rfl kwX6 (by decide) kf_X6_23 dX6_seasonAt_14 (R.1 0 (0) rfl) (v := .ref (ad 12 0)) rfl ?_
      refine lv_iload_n X.1 X.2.1 dX6_seasonAt_17 rfl (lv_at hl 1 rfl) ?_
      refine mx_aald X hM 5 (C := RX4) rfl dX6_seasonAt_18 (R.1 12 (0) rfl) (i := j0) (by omega) (by decide) (r := rowA ad 3 (E 0 12) (j0)) (by first | rfl | simp only [set1_at]) ?_
      refine lv_goto (tgt := 23) X.1 X.2.1 dX6_seasonAt_19 (by decide) ?_
      refine lw_astore_n (lv' := [(2, va_rf (rowA ad 3 (E 0 12) (j0))), (0, .ref (ad 0 0)), (1, .int (nI (j0)))]) X.1 X.2.1 dX6_seasonAt_23 rfl hl (by decide) rfl (fun ls hl => ?_)
      refine lw_aload_n X.1 X.2.1 dX6_seasonAt_24 rfl (lv_at hl 0 rfl) ?_
      by_cases cz3 : j0 < E 0 12
      · skip
        refine lv_topv (y := .ref (ad 3 (j0))) (by unfold rowA; rw [if_pos cz3]; rfl) ?_
        refine lv_ifnonnull (tgt := 38) X.1 X.2.1 dX6_seasonAt_25 (by decide) ?_
        refine lw_aload_n X.1 X.2.1 dX6_seasonAt_38 rfl (lv_at hl 0 rfl) ?_
        refine lv_topv (y := .ref (ad 3 (j0))) (by unfold rowA; rw [if_pos cz3]; rfl) ?_
        exact x_aret (r := some (ad 3 (j0))) X hr hlocks hM dX6_seasonAt_39 ⟨Nat.le_of_ble_eq_true rfl, Nat.le_of_ble_eq_true rfl⟩ (⟨congrArg (fun z => some (Value.ref (ad 3 z))) (ix_nI (by omega)).symm, by rw [iR_nI (by omega)]; exact decide_eq_true (by omega), rfl⟩)
      · skip
        refine lv_topv (y := .null) (by unfold rowA; rw [if_neg cz3]; rfl) ?_
        refine lv_ifnonnullN X.1 X.2.1 dX6_seasonAt_25 ?_
        exact x_throw (cls := EIO) (text := "no such season") X hst hS hZ ht hlocks hM hl (by decide +kernel) (by decide) xh_227 xg_227 dX6_seasonAt_28 dX6_seasonAt_31 dX6_seasonAt_32 dX6_seasonAt_34 dX6_seasonAt_37 ⟨Nat.le_of_ble_eq_true rfl, Nat.le_of_ble_eq_true rfl⟩ ⟨Nat.le_of_ble_eq_true rfl, Nat.le_of_ble_eq_true rfl⟩ ⟨Nat.le_of_ble_eq_true rfl, Nat.le_of_ble_eq_true rfl⟩ (⟨rfl, by first | exact decide_eq_false (fun y => by omega) | (rw [iR_nI (by omega)]; exact decide_eq_false (by omega)), rfl⟩)
set_option maxHeartbeats 4000000 in
set_option maxRecDepth 100000 in
theorem c_X6_skinAt (l : Launch) (G : mG) (ad : Nat → Nat → Nat) (N : Nat → Nat) (F : Nat → Nat → Nat) (B : Nat → Int32) (E P Q : Nat → Nat → Nat) (M : Mem) (R : RC G ad N F B E P Q M) (z0 : Int32) (hst : l.stackTraces = false) (h10 : E 0 13 ≤ 36) : xMet l yX6_skinAt cX6_skinAt 3 (some (FieldType.object "SkinLeague$Skin")) ({ frames := 6, cells := 1, slots := 6, locals := 82 } : Room) G [.ref (ad 0 0), .int (z0)] M (fun r M' => r = some (.ref (ad 6 (ix z0))) ∧ iR z0 (E 0 13) = true ∧ M = M') (fun E9 M' => E9 = EIO ∧ iR z0 (E 0 13) = false ∧ M = M') := by
  refine xMet.of (by decide) (Nat.le_of_ble_eq_true rfl) ?_
  intro p e s m args below meth c A ls X hr hlocks hname hM hl hS hZ ht
  have hl : lv_has ls 3 [(0, .ref (ad 0 0)), (1, .int (z0))] := hl
  refine lv_iload_n X.1 X.2.1 dX6_skinAt_0 rfl (lv_at hl 1 rfl) ?_
  refine b_if_lt (tgt := 22) X dX6_skinAt_1 (by decide) (a := (z0).toInt) (rfl) (fun c1 => ?_) (fun c1 => ?_)
  · skip
    refine lv_null X.1 X.2.1 dX6_skinAt_22 ?_
    refine lv_astore_nN (lv' := [(2, .null), (0, .ref (ad 0 0)), (1, .int (z0))]) X.1 X.2.1 dX6_skinAt_23 rfl hl (by decide) rfl (fun ls hl => ?_)
    refine lv_aload_nN X.1 X.2.1 dX6_skinAt_24 rfl (lv_at hl 0 rfl) ?_
    refine lv_ifnonnullN X.1 X.2.1 dX6_skinAt_25 ?_
    exact x_throw (cls := EIO) (text := "no such skin") X hst hS hZ ht hlocks hM hl (by decide +kernel) (by decide) xh_227 xg_227 dX6_skinAt_28 dX6_skinAt_31 dX6_skinAt_32 dX6_skinAt_34 dX6_skinAt_37 ⟨Nat.le_of_ble_eq_true rfl, Nat.le_of_ble_eq_true rfl⟩ ⟨Nat.le_of_ble_eq_true rfl, Nat.le_of_ble_eq_true rfl⟩ ⟨Nat.le_of_ble_eq_true rfl, Nat.le_of_ble_eq_true rfl⟩ (⟨rfl, by first | exact decide_eq_false (fun y => by omega) | (rw [iR_nI (by omega)]; exact decide_eq_false (by omega)), rfl⟩)
  · skip
    refine lv_iload_n X.1 X.2.1 dX6_skinAt_4 rfl (lv_at hl 1 rfl) ?_
    refine lv_aload_n X.1 X.2.1 dX6_skinAt_5 rfl (lv_at hl 0 rfl) ?_
    refine mg_get X hM (ci := 7) (k := 3) rfl kwX6 (by decide) kf_X6_29 dX6_skinAt_6 (R.1 0 (0) rfl) (v := .ref (ad 13 0)) rfl ?_
    refine mg_alen X hM 6 rfl dX6_skinAt_9 (R.1 13 (0) rfl) ?_
    refine b_icmp_ge (tgt := 22) X dX6_skinAt_10 (by decide) (a := (z0).toInt) (b := ((36 : Nat) : Int)) (rfl) (nI_ti (by omega)) (fun c2 => ?_) (fun c2 => ?_)
    · skip
      refine lv_null X.1 X.2.1 dX6_skinAt_22 ?_
      refine lv_astore_nN (lv' := [(2, .null), (0, .ref (ad 0 0)), (1, .int (z0))]) X.1 X.2.1 dX6_skinAt_23 rfl hl (by decide) rfl (fun ls hl => ?_)
      refine lv_aload_nN X.1 X.2.1 dX6_skinAt_24 rfl (lv_at hl 0 rfl) ?_
      refine lv_ifnonnullN X.1 X.2.1 dX6_skinAt_25 ?_
      exact x_throw (cls := EIO) (text := "no such skin") X hst hS hZ ht hlocks hM hl (by decide +kernel) (by decide) xh_227 xg_227 dX6_skinAt_28 dX6_skinAt_31 dX6_skinAt_32 dX6_skinAt_34 dX6_skinAt_37 ⟨Nat.le_of_ble_eq_true rfl, Nat.le_of_ble_eq_true rfl⟩ ⟨Nat.le_of_ble_eq_true rfl, Nat.le_of_ble_eq_true rfl⟩ ⟨Nat.le_of_ble_eq_true rfl, Nat.le_of_ble_eq_true rfl⟩ (⟨rfl, by first | exact decide_eq_false (fun y => by omega) | (rw [iR_nI (by omega)]; exact decide_eq_false (by omega)), rfl⟩)
    · skip
      obtain ⟨j0, hj0, rfl⟩ := iR_t (p := z0) (n := 36) (decide_eq_true (by omega)) (by decide)
      refine lv_aload_n X.1 X.2.1 dX6_skinAt_13 rfl (lv_at hl 0 rfl) ?_
      refine mg_get X hM (ci := 7) (k := 3) rfl kwX6 (by decide) kf_X6_29 dX6_skinAt_14 (R.1 0 (0) rfl) (v := .ref (ad 13 0)) rfl ?_
      refine lv_iload_n X.1 X.2.1 dX6_skinAt_17 rfl (lv_at hl 1 rfl) ?_
      refine mx_aald X hM 6 (C := RX5) rfl dX6_skinAt_18 (R.1 13 (0) rfl) (i := j0) (by omega) (by decide) (r := rowA ad 6 (E 0 13) (j0)) (by first | rfl | simp only [set1_at]) ?_
      refine lv_goto (tgt := 23) X.1 X.2.1 dX6_skinAt_19 (by decide) ?_
      refine lw_astore_n (lv' := [(2, va_rf (rowA ad 6 (E 0 13) (j0))), (0, .ref (ad 0 0)), (1, .int (nI (j0)))]) X.1 X.2.1 dX6_skinAt_23 rfl hl (by decide) rfl (fun ls hl => ?_)
      refine lw_aload_n X.1 X.2.1 dX6_skinAt_24 rfl (lv_at hl 0 rfl) ?_
      by_cases cz3 : j0 < E 0 13
      · skip
        refine lv_topv (y := .ref (ad 6 (j0))) (by unfold rowA; rw [if_pos cz3]; rfl) ?_
        refine lv_ifnonnull (tgt := 38) X.1 X.2.1 dX6_skinAt_25 (by decide) ?_
        refine lw_aload_n X.1 X.2.1 dX6_skinAt_38 rfl (lv_at hl 0 rfl) ?_
        refine lv_topv (y := .ref (ad 6 (j0))) (by unfold rowA; rw [if_pos cz3]; rfl) ?_
        exact x_aret (r := some (ad 6 (j0))) X hr hlocks hM dX6_skinAt_39 ⟨Nat.le_of_ble_eq_true rfl, Nat.le_of_ble_eq_true rfl⟩ (⟨congrArg (fun z => some (Value.ref (ad 6 z))) (ix_nI (by omega)).symm, by rw [iR_nI (by omega)]; exact decide_eq_true (by omega), rfl⟩)
      · skip
        refine lv_topv (y := .null) (by unfold rowA; rw [if_neg cz3]; rfl) ?_
        refine lv_ifnonnullN X.1 X.2.1 dX6_skinAt_25 ?_
        exact x_throw (cls := EIO) (text := "no such skin") X hst hS hZ ht hlocks hM hl (by decide +kernel) (by decide) xh_227 xg_227 dX6_skinAt_28 dX6_skinAt_31 dX6_skinAt_32 dX6_skinAt_34 dX6_skinAt_37 ⟨Nat.le_of_ble_eq_true rfl, Nat.le_of_ble_eq_true rfl⟩ ⟨Nat.le_of_ble_eq_true rfl, Nat.le_of_ble_eq_true rfl⟩ ⟨Nat.le_of_ble_eq_true rfl, Nat.le_of_ble_eq_true rfl⟩ (⟨rfl, by first | exact decide_eq_false (fun y => by omega) | (rw [iR_nI (by omega)]; exact decide_eq_false (by omega)), rfl⟩)
set_option maxHeartbeats 4000000 in
set_option maxRecDepth 100000 in
theorem c_X6_numberOf (l : Launch) (G : mG) (ad : Nat → Nat → Nat) (N : Nat → Nat) (F : Nat → Nat → Nat) (B : Nat → Int32) (E P Q : Nat → Nat → Nat) (M : Mem) (R : RC G ad N F B E P Q M) (a : Nat) (ha : a ≤ E 0 1) : mMet l yX6_numberOf cX6_numberOf 1 (some FieldType.int) ({ frames := 0, cells := 0, slots := 0, locals := 0 } : Room) G [va_rf (opA ad (a))] M (fun r M' => r = some (.int (nI a - 1)) ∧ M = M') := by
  refine mMet.of (by decide) (by generalize opA ad (a) = r0; cases r0 <;> exact Nat.le_of_ble_eq_true rfl) ?_
  intro p e s m args below meth c A ls X hr hlocks hname hM hl
  have hl : lv_has ls 1 [(0, va_rf (opA ad (a)))] := by have h9 := hl; generalize opA ad (a) = r0 at h9 ⊢; cases r0 <;> exact h9
  refine lw_aload_n X.1 X.2.1 dX6_numberOf_0 rfl (lv_at hl 0 rfl) ?_
  by_cases cz1 : a = 0
  · skip
    refine lv_topv (y := .null) (by unfold opA; rw [if_pos cz1]; rfl) ?_
    refine lv_ifnonnullN X.1 X.2.1 dX6_numberOf_1 ?_
    refine lv_iconst (v := nI (0) - 1) X.1 X.2.1 dX6_numberOf_4 (by decide) ?_
    refine lv_goto (tgt := 12) X.1 X.2.1 dX6_numberOf_5 (by decide) ?_
    exact m_iret X hr hlocks hM dX6_numberOf_12 ⟨Nat.le_of_ble_eq_true rfl, Nat.le_of_ble_eq_true rfl⟩ (⟨congrArg (fun z => some (Value.int z)) (by first | (rw [show a = 0 by omega]; done) | (rw [show a = a - 1 + 1 by omega, nI_pred]; rfl)), rfl⟩)
  · skip
    refine lv_topv (y := .ref (ad 1 (a - 1))) (by unfold opA; rw [if_neg cz1]; rfl) ?_
    refine lv_ifnonnull (tgt := 8) X.1 X.2.1 dX6_numberOf_1 (by decide) ?_
    refine lw_aload_n X.1 X.2.1 dX6_numberOf_8 rfl (lv_at hl 0 rfl) ?_
    refine lv_topv (y := .ref (ad 1 (a - 1))) (by unfold opA; rw [if_neg cz1]; rfl) ?_
    refine mg_getN X hM (ci := 2) (k := 0) rfl kwX1 (by decide) kn_X6_183 dX6_numberOf_9 (R.1 1 (a - 1) (show a - 1 < E 0 1 by omega)) (v := .int (nI (a - 1))) rfl ?_
    exact m_iret X hr hlocks hM dX6_numberOf_12 ⟨Nat.le_of_ble_eq_true rfl, Nat.le_of_ble_eq_true rfl⟩ (⟨congrArg (fun z => some (Value.int z)) (by first | (rw [show a = 0 by omega]; done) | (rw [show a = a - 1 + 1 by omega, nI_pred]; rfl)), rfl⟩)
set_option maxHeartbeats 4000000 in
set_option maxRecDepth 100000 in
theorem c_X6_mayDeal (l : Launch) (G : mG) (ad : Nat → Nat → Nat) (N : Nat → Nat) (F : Nat → Nat → Nat) (B : Nat → Int32) (E P Q : Nat → Nat → Nat) (M : Mem) (R : RC G ad N F B E P Q M) (a : Nat) (b : Nat) (ha : a ≤ E 0 1) (hb : b ≤ E 0 1) (h0 : N 0 < 2 ^ 31) (h3 : F 3 (a - 1) < 2 ^ 31) (h4 : F 3 (b - 1) < 2 ^ 31) : mMet l yX6_mayDeal cX6_mayDeal 3 (some FieldType.boolean) ({ frames := 1, cells := 0, slots := 0, locals := 21 } : Room) G [.ref (ad 0 0), va_rf (opA ad (a)), va_rf (opA ad (b))] M (fun r M' => r = some (.int (bI (decide (a ≠ 0 ∧ b ≠ 0 ∧ a ≠ b ∧ F 3 (a - 1) ≤ N 0 ∧ F 3 (b - 1) ≤ N 0)))) ∧ M = M') := by
  refine mMet.of (by decide) (by generalize opA ad (a) = r0; generalize opA ad (b) = r1; cases r0 <;> cases r1 <;> exact Nat.le_of_ble_eq_true rfl) ?_
  intro p e s m args below meth c A ls X hr hlocks hname hM hl
  have hl : lv_has ls 3 [(0, .ref (ad 0 0)), (1, va_rf (opA ad (a))), (2, va_rf (opA ad (b)))] := by have h9 := hl; generalize opA ad (a) = r0 at h9 ⊢; generalize opA ad (b) = r1 at h9 ⊢; cases r0 <;> cases r1 <;> exact h9
  refine lw_aload_n X.1 X.2.1 dX6_mayDeal_0 rfl (lv_at hl 1 rfl) ?_
  by_cases cz1 : a = 0
  · skip
    refine lv_topv (y := .null) (by unfold opA; rw [if_pos cz1]; rfl) ?_
    refine lv_ifnullN (tgt := 39) X.1 X.2.1 dX6_mayDeal_1 (by decide) ?_
    refine lv_iconst (v := nI (0)) X.1 X.2.1 dX6_mayDeal_39 (by decide) ?_
    exact m_zret X hr hlocks hM dX6_mayDeal_40 ⟨Nat.le_of_ble_eq_true rfl, Nat.le_of_ble_eq_true rfl⟩ (rfl) (⟨congrArg (fun z => some (Value.int z)) (by first | exact bI_dec (by omega) | exact bI_decN (by omega)), rfl⟩)
  · skip
    refine lv_topv (y := .ref (ad 1 (a - 1))) (by unfold opA; rw [if_neg cz1]; rfl) ?_
    refine lv_ifnull X.1 X.2.1 dX6_mayDeal_1 ?_
    refine lw_aload_n X.1 X.2.1 dX6_mayDeal_4 rfl (lv_at hl 2 rfl) ?_
    by_cases cz2 : b = 0
    · skip
      refine lv_topv (y := .null) (by unfold opA; rw [if_pos cz2]; rfl) ?_
      refine lv_ifnullN (tgt := 39) X.1 X.2.1 dX6_mayDeal_5 (by decide) ?_
      refine lv_iconst (v := nI (0)) X.1 X.2.1 dX6_mayDeal_39 (by decide) ?_
      exact m_zret X hr hlocks hM dX6_mayDeal_40 ⟨Nat.le_of_ble_eq_true rfl, Nat.le_of_ble_eq_true rfl⟩ (rfl) (⟨congrArg (fun z => some (Value.int z)) (by first | exact bI_dec (by omega) | exact bI_decN (by omega)), rfl⟩)
    · skip
      refine lv_topv (y := .ref (ad 1 (b - 1))) (by unfold opA; rw [if_neg cz2]; rfl) ?_
      refine lv_ifnull X.1 X.2.1 dX6_mayDeal_5 ?_
      refine lw_aload_n X.1 X.2.1 dX6_mayDeal_8 rfl (lv_at hl 1 rfl) ?_
      refine lv_topv (y := .ref (ad 1 (a - 1))) (by unfold opA; rw [if_neg cz1]; rfl) ?_
      refine lw_aload_n X.1 X.2.1 dX6_mayDeal_9 rfl (lv_at hl 2 rfl) ?_
      refine lv_topv (y := .ref (ad 1 (b - 1))) (by unfold opA; rw [if_neg cz2]; rfl) ?_
      refine lv_topv (y := va_rf (opA ad (b - 1 + 1))) (by rw [opA_suc]; rfl) ?_
      refine lv_acmp_eq (rx := opA ad (a - 1 + 1)) (ry := opA ad (b - 1 + 1)) (tgt := 39) X.1 X.2.1 dX6_mayDeal_10 (by decide) (fun c3 => ?_) (fun c3 => ?_)
      · skip
        have c3 : a - 1 + 1 = b - 1 + 1 := opA_inj R (show _ ≤ E 0 1 by omega) (show _ ≤ E 0 1 by omega) c3
        refine lv_iconst (v := nI (0)) X.1 X.2.1 dX6_mayDeal_39 (by decide) ?_
        exact m_zret X hr hlocks hM dX6_mayDeal_40 ⟨Nat.le_of_ble_eq_true rfl, Nat.le_of_ble_eq_true rfl⟩ (rfl) (⟨congrArg (fun z => some (Value.int z)) (by first | exact bI_dec (by omega) | exact bI_decN (by omega)), rfl⟩)
      · skip
        have c3 : ¬ a - 1 + 1 = b - 1 + 1 := fun z => c3 (by rw [z])
        refine lw_aload_n X.1 X.2.1 dX6_mayDeal_13 rfl (lv_at hl 1 rfl) ?_
        refine lv_topv (y := .ref (ad 1 (a - 1))) (by unfold opA; rw [if_neg cz1]; rfl) ?_
        refine lv_aload_n X.1 X.2.1 dX6_mayDeal_14 rfl (lv_at hl 0 rfl) ?_
        refine mg_get X hM (ci := 7) (k := 8) rfl kwX6 (by decide) kf_X6_89 dX6_mayDeal_15 (R.1 0 (0) rfl) (v := .int (nI (N 0))) rfl ?_
        refine m_callVN X hM ckN_X6_92 ki_X1_isBanned ks_X1_isBanned (ci := 2) rfl dX6_mayDeal_18 (As := [.int (nI (N 0))]) (c_X1_isBanned l G ad N F B E P Q _ R (a - 1) (N 0) (show _ < E 0 1 by omega) (by omega) (by omega)) (R.1 1 (a - 1) (show a - 1 < E 0 1 by omega)) rfl hl rfl (Nat.le_of_ble_eq_true rfl) ⟨Nat.le_of_ble_eq_true rfl, Nat.le_of_ble_eq_true rfl⟩ ⟨Nat.le_of_ble_eq_true rfl, Nat.le_of_ble_eq_true rfl⟩ ?_
        rintro _ _ H locs ⟨rfl, rfl⟩ hM
        refine b_bool_ne (tgt := 39) X dX6_mayDeal_21 (by decide) (fun c4 => ?_) (fun c4 => ?_)
        · skip
          have c4 := of_decide_eq_true c4
          refine lv_iconst (v := nI (0)) X.1 X.2.1 dX6_mayDeal_39 (by decide) ?_
          exact m_zret X hr hlocks hM dX6_mayDeal_40 ⟨Nat.le_of_ble_eq_true rfl, Nat.le_of_ble_eq_true rfl⟩ (rfl) (⟨congrArg (fun z => some (Value.int z)) (by first | exact bI_dec (by omega) | exact bI_decN (by omega)), rfl⟩)
        · skip
          have c4 := of_decide_eq_false c4
          refine lw_aload_n X.1 X.2.1 dX6_mayDeal_24 rfl (lv_at hl 2 rfl) ?_
          refine lv_topv (y := .ref (ad 1 (b - 1))) (by unfold opA; rw [if_neg cz2]; rfl) ?_
          refine lv_aload_n X.1 X.2.1 dX6_mayDeal_25 rfl (lv_at hl 0 rfl) ?_
          refine mg_get X hM (ci := 7) (k := 8) rfl kwX6 (by decide) kf_X6_89 dX6_mayDeal_26 (R.1 0 (0) rfl) (v := .int (nI (N 0))) rfl ?_
          refine m_callVN X hM ckN_X6_92 ki_X1_isBanned ks_X1_isBanned (ci := 2) rfl dX6_mayDeal_29 (As := [.int (nI (N 0))]) (c_X1_isBanned l G ad N F B E P Q _ R (b - 1) (N 0) (show _ < E 0 1 by omega) (by omega) (by omega)) (R.1 1 (b - 1) (show b - 1 < E 0 1 by omega)) rfl hl rfl (Nat.le_of_ble_eq_true rfl) ⟨Nat.le_of_ble_eq_true rfl, Nat.le_of_ble_eq_true rfl⟩ ⟨Nat.le_of_ble_eq_true rfl, Nat.le_of_ble_eq_true rfl⟩ ?_
          rintro _ _ H locs ⟨rfl, rfl⟩ hM
          refine b_bool_ne (tgt := 39) X dX6_mayDeal_32 (by decide) (fun c5 => ?_) (fun c5 => ?_)
          · skip
            have c5 := of_decide_eq_true c5
            refine lv_iconst (v := nI (0)) X.1 X.2.1 dX6_mayDeal_39 (by decide) ?_
            exact m_zret X hr hlocks hM dX6_mayDeal_40 ⟨Nat.le_of_ble_eq_true rfl, Nat.le_of_ble_eq_true rfl⟩ (rfl) (⟨congrArg (fun z => some (Value.int z)) (by first | exact bI_dec (by omega) | exact bI_decN (by omega)), rfl⟩)
          · skip
            have c5 := of_decide_eq_false c5
            refine lv_iconst (v := nI (1)) X.1 X.2.1 dX6_mayDeal_35 (by decide) ?_
            refine lv_goto (tgt := 40) X.1 X.2.1 dX6_mayDeal_36 (by decide) ?_
            exact m_zret X hr hlocks hM dX6_mayDeal_40 ⟨Nat.le_of_ble_eq_true rfl, Nat.le_of_ble_eq_true rfl⟩ (rfl) (⟨congrArg (fun z => some (Value.int z)) (by first | exact bI_dec (by omega) | exact bI_decN (by omega)), rfl⟩)
