theorem va_up_up {α : Type} (N : Nat → α) (k : Nat) (a b : α) : va_up (va_up N k a) k b = va_up N k b := by
  funext i
  by_cases h : i = k <;> simp [va_up, h]
theorem va_same {α : Type} (N : Nat → α) (k : Nat) : va_up N k (N k) = N := by
  funext i
  by_cases h : i = k <;> simp [va_up, h]
theorem NrE.aw {N : Nat → Nat} {F E : Nat → Nat → Nat} (h : NrE N F E) {n : Nat} (hn : N 13 = n) (s pl v : Nat) : NrE (va_up N 13 (n + 1)) (awF F n s pl v) (set1 (set1 (sE E n 0) 0 6 (n + 1)) 0 13 (n + 1)) := by
  subst hn
  obtain ⟨⟨a1, a2, a3, a4, a5, a6, a7, a8⟩, h2, h3, h4⟩ := h
  refine ⟨⟨a1, a2, a3, a4, a5, a6, rfl, rfl⟩, ?_, ?_, ?_⟩ <;> funext i <;> simp [sE, awF, set1, va_up, h2, h3, h4]
theorem aw1_t {N : Nat → Nat} {F F1 : Nat → Nat → Nat} {n w : Nat} (h : awS N F n = (w, F1)) (hz : ¬ heirS N F (N 12) (n + 1) = 0) : awS N F (n + 1) = (w + 1, awF F1 (N 13 + w) (N 12) (n + 1) (heirS N F (N 12) (n + 1))) := by
  rw [awS, if_neg hz, h]
theorem aw1_f {N : Nat → Nat} {F F1 : Nat → Nat → Nat} {n w : Nat} (h : awS N F n = (w, F1)) (hz : heirS N F (N 12) (n + 1) = 0) : awS N F (n + 1) = (w, F1) := by
  rw [awS, if_pos hz, h]
theorem awS_off (N : Nat → Nat) (F : Nat → Nat → Nat) {j : Nat} (hj : j ≠ 14 ∧ j ≠ 15 ∧ j ≠ 16 ∧ j ≠ 17 ∧ j ≠ 18 ∧ j ≠ 20 ∧ j ≠ 21) : ∀ n, (awS N F n).2 j = F j
  | 0 => rfl
  | n + 1 => by
    rw [awS]
    split
    · exact awS_off N F hj n
    · show awF _ _ _ _ _ j = F j
      obtain ⟨a, b, c, d, e, f, g⟩ := hj
      unfold awF
      simp only [set1, va_up, if_neg a, if_neg b, if_neg c, if_neg d, if_neg e, if_neg f, if_neg g]
      exact awS_off N F ⟨a, b, c, d, e, f, g⟩ n
theorem aw_14 {N : Nat → Nat} {F : Nat → Nat → Nat} (hI : Iv N F) : ∀ n i, i < N 13 + (awS N F n).1 → (awS N F n).2 14 i < N 12 + 1
  | 0, i, h => by
    have k9 := hI.k (k := i) h
    exact Nat.lt_succ_of_lt k9.1
  | n + 1, i, h => by
    rw [awS] at h ⊢
    by_cases hz : heirS N F (N 12) (n + 1) = 0
    · rw [if_pos hz] at h ⊢
      exact aw_14 hI n i h
    · rw [if_neg hz] at h ⊢
      by_cases hi : i = N 13 + (awS N F n).1
      · show (awF (awS N F n).2 (N 13 + (awS N F n).1) (N 12) (n + 1) (heirS N F (N 12) (n + 1))) 14 i < _
        subst hi
        simp [awF, set1, va_up]
      · have h9 : i < N 13 + (awS N F n).1 + 1 := h
        have ih := aw_14 hI n i (by omega)
        show (awF (awS N F n).2 (N 13 + (awS N F n).1) (N 12) (n + 1) (heirS N F (N 12) (n + 1))) 14 i < _
        have e : (awF (awS N F n).2 (N 13 + (awS N F n).1) (N 12) (n + 1) (heirS N F (N 12) (n + 1))) 14 i = (awS N F n).2 14 i := by simp [awF, set1, va_up, hi]
        rw [e]; exact ih
set_option maxHeartbeats 4000000 in
set_option maxRecDepth 100000 in
theorem c_X6_awardPrizes (l : Launch) (G : mG) (ad : Nat → Nat → Nat) (N : Nat → Nat) (F : Nat → Nat → Nat) (B : Nat → Int32) (E P Q : Nat → Nat → Nat) (M : Mem) (R : RC G ad N F B E P Q M) (x : Nat) (hx : ad 0 0 = x) (hI : Iv N F) (hJ : Jv N F B) (hE : NrE N F E) (hP : NrP N F P Q) : mMet l yX6_awardPrizes cX6_awardPrizes 4 (some FieldType.int) ({ frames := 4, cells := 6, slots := 90, locals := 91 } : Room) G [.ref (ad 0 0)] M (fun r M' => r = some (.int (nI (awS N F 3).1)) ∧ ∃ ad' E', ad' 0 0 = x ∧ RC G ad' (va_up N 13 (N 13 + (awS N F 3).1)) (awS N F 3).2 B E' P Q M' ∧ NrE (va_up N 13 (N 13 + (awS N F 3).1)) (awS N F 3).2 E' ∧ E' 1 = E 1) := by
  refine mMet.of (by decide) (Nat.le_of_ble_eq_true rfl) ?_
  intro p e s m args below meth c A ls X hr hlocks hname hM hl
  have hl : lv_has ls 4 [(0, .ref (ad 0 0))] := hl
  have hn := hI.n
  obtain ⟨⟨e1, e10, e2, e11, e3, e12, e6, e13⟩, x2, x3, x4⟩ := id hE
  have hb : ∀ z, z < 16 → P (N 12) z ≤ 1000 ∧ Q (N 12) z ≤ 1000 := fun z hz => by have q1 := hP (N 12) z (by omega) hz; have q2 := pts_le F (N 12) z (n := N 6) (by omega); have q3 := gms_le F (N 12) z (n := N 6) (by omega); omega
  have sw : awS N F 0 = (0, F) := rfl
  refine lv_iconst (v := nI (0)) X.1 X.2.1 dX6_awardPrizes_0 (by decide) ?_
  refine lv_istore_n (lv' := [(1, .int (nI (0))), (0, .ref (ad 0 0))]) X.1 X.2.1 dX6_awardPrizes_1 rfl hl (by decide) rfl (fun ls hl => ?_)
  refine lv_iconst (v := nI (1)) X.1 X.2.1 dX6_awardPrizes_2 (by decide) ?_
  refine lv_istore_n (lv' := [(2, .int (nI (1))), (1, .int (nI (0))), (0, .ref (ad 0 0))]) X.1 X.2.1 dX6_awardPrizes_3 rfl hl (by decide) rfl (fun ls hl => ?_)
  refine lv_iload_n X.1 X.2.1 dX6_awardPrizes_4 rfl (lv_at hl 0 rfl) ?_
  refine lv_iconst (v := nI (3)) X.1 X.2.1 dX6_awardPrizes_5 (by decide) ?_
  refine b_icmp_gt (tgt := 83) X dX6_awardPrizes_6 (by decide) (a := ((1 : Nat) : Int)) (b := ((3 : Nat) : Int)) (nI_ti (by omega)) (nI_ti (by omega)) (fun c1 => ?_) (fun c1 => ?_)
  · skip
    exact absurd c1 (by first | decide | omega)
  · skip
    refine lv_aload_n X.1 X.2.1 dX6_awardPrizes_9 rfl (lv_at hl 2 rfl) ?_
    refine lv_aload_n X.1 X.2.1 dX6_awardPrizes_10 rfl (lv_at hl 2 rfl) ?_
    refine mg_get X hM (ci := 7) (k := 9) rfl kwX6 (by decide) kf_X6_43 dX6_awardPrizes_11 (R.1 0 (0) rfl) (v := .ref (ad 3 (N 12))) rfl ?_
    refine lv_iload_n X.1 X.2.1 dX6_awardPrizes_14 rfl (lv_at hl 0 rfl) ?_
    refine m_callVN X hM ckN_X6_255 ki_X4_playerOn ks_X4_playerOn (ci := 5) rfl dX6_awardPrizes_15 (As := [.int (nI (1))]) (c_X4_playerOn l G ad N F B E P Q _ R (N 12) 1 (show _ < E 0 3 by omega) hb (by decide)) (R.1 3 (N 12) (show N 12 < E 0 3 by omega)) rfl hl rfl (Nat.le_of_ble_eq_true rfl) ⟨Nat.le_of_ble_eq_true rfl, Nat.le_of_ble_eq_true rfl⟩ ⟨Nat.le_of_ble_eq_true rfl, Nat.le_of_ble_eq_true rfl⟩ ?_
    rintro _ _ H locs ⟨rfl, rfl⟩ hM
    refine lv_top (y := nI (heirS N F (N 12) 1) - 1) (by rw [pos_heir hI (fun p hp => hP (N 12) p (by omega) hp) (by decide)]) ?_
    have hh1 := heirS_le N F (N 12) 1
    refine m_callV X hM ck_X6_242 ki_X6_findPlayer ks_X6_findPlayer (ci := 7) rfl dX6_awardPrizes_18 (As := [.int (nI (heirS N F (N 12) 1) - 1)]) (c_X6_findPlayer2 l G ad N F B E P Q _ R (heirS N F (N 12) 1) (show E 0 10 ≤ 16 by omega) (show _ ≤ E 0 10 by omega)) (R.1 0 (0) rfl) rfl hl rfl (Nat.le_of_ble_eq_true rfl) ⟨Nat.le_of_ble_eq_true rfl, Nat.le_of_ble_eq_true rfl⟩ ⟨Nat.le_of_ble_eq_true rfl, Nat.le_of_ble_eq_true rfl⟩ ?_
    rintro _ _ H locs ⟨rfl, rfl⟩ hM
    refine lw_astore_n (lv' := [(3, va_rf (opA ad (heirS N F (N 12) 1))), (2, .int (nI (1))), (1, .int (nI (0))), (0, .ref (ad 0 0))]) X.1 X.2.1 dX6_awardPrizes_21 rfl hl (by decide) rfl (fun ls hl => ?_)
    refine lw_aload_n X.1 X.2.1 dX6_awardPrizes_22 rfl (lv_at hl 0 rfl) ?_
    by_cases cz2 : heirS N F (N 12) 1 = 0
    · skip
      refine lv_topv (y := .null) (by unfold opA; rw [if_pos cz2]; rfl) ?_
      refine lv_ifnullN (tgt := 77) X.1 X.2.1 dX6_awardPrizes_23 (by decide) ?_
      have sw : awS N F 1 = (0, F) := aw1_f sw (by assumption)
      refine lv_iinc (v := nI (2)) (lv' := [(2, .int (nI (2))), (3, va_rf (opA ad (heirS N F (N 12) 1))), (1, .int (nI (0))), (0, .ref (ad 0 0))]) X.1 X.2.1 dX6_awardPrizes_77 hl (k := 1) rfl (nI_add (1) 1) (by decide) rfl (fun ls hl => ?_)
      refine lv_goto (tgt := 4) X.1 X.2.1 dX6_awardPrizes_80 (by decide) ?_
      refine lv_iload_n X.1 X.2.1 dX6_awardPrizes_4 rfl (lv_at hl 0 rfl) ?_
      refine lv_iconst (v := nI (3)) X.1 X.2.1 dX6_awardPrizes_5 (by decide) ?_
      refine b_icmp_gt (tgt := 83) X dX6_awardPrizes_6 (by decide) (a := ((2 : Nat) : Int)) (b := ((3 : Nat) : Int)) (nI_ti (by omega)) (nI_ti (by omega)) (fun c3 => ?_) (fun c3 => ?_)
      · skip
        exact absurd c3 (by first | decide | omega)
      · skip
        refine lv_aload_n X.1 X.2.1 dX6_awardPrizes_9 rfl (lv_at hl 3 rfl) ?_
        refine lv_aload_n X.1 X.2.1 dX6_awardPrizes_10 rfl (lv_at hl 3 rfl) ?_
        refine mg_get X hM (ci := 7) (k := 9) rfl kwX6 (by decide) kf_X6_43 dX6_awardPrizes_11 (R.1 0 (0) rfl) (v := .ref (ad 3 (N 12))) rfl ?_
        refine lv_iload_n X.1 X.2.1 dX6_awardPrizes_14 rfl (lv_at hl 0 rfl) ?_
        refine m_callVN X hM ckN_X6_255 ki_X4_playerOn ks_X4_playerOn (ci := 5) rfl dX6_awardPrizes_15 (As := [.int (nI (2))]) (c_X4_playerOn l G ad N F B E P Q _ R (N 12) 2 (show _ < E 0 3 by omega) hb (by decide)) (R.1 3 (N 12) (show N 12 < E 0 3 by omega)) rfl hl rfl (Nat.le_of_ble_eq_true rfl) ⟨Nat.le_of_ble_eq_true rfl, Nat.le_of_ble_eq_true rfl⟩ ⟨Nat.le_of_ble_eq_true rfl, Nat.le_of_ble_eq_true rfl⟩ ?_
        rintro _ _ H locs ⟨rfl, rfl⟩ hM
        refine lv_top (y := nI (heirS N F (N 12) 2) - 1) (by rw [pos_heir hI (fun p hp => hP (N 12) p (by omega) hp) (by decide)]) ?_
        have hh2 := heirS_le N F (N 12) 2
        refine m_callV X hM ck_X6_242 ki_X6_findPlayer ks_X6_findPlayer (ci := 7) rfl dX6_awardPrizes_18 (As := [.int (nI (heirS N F (N 12) 2) - 1)]) (c_X6_findPlayer2 l G ad N F B E P Q _ R (heirS N F (N 12) 2) (show E 0 10 ≤ 16 by omega) (show _ ≤ E 0 10 by omega)) (R.1 0 (0) rfl) rfl hl rfl (Nat.le_of_ble_eq_true rfl) ⟨Nat.le_of_ble_eq_true rfl, Nat.le_of_ble_eq_true rfl⟩ ⟨Nat.le_of_ble_eq_true rfl, Nat.le_of_ble_eq_true rfl⟩ ?_
        rintro _ _ H locs ⟨rfl, rfl⟩ hM
        refine lw_astore_n (lv' := [(3, va_rf (opA ad (heirS N F (N 12) 2))), (2, .int (nI (2))), (1, .int (nI (0))), (0, .ref (ad 0 0))]) X.1 X.2.1 dX6_awardPrizes_21 rfl hl (by decide) rfl (fun ls hl => ?_)
        refine lw_aload_n X.1 X.2.1 dX6_awardPrizes_22 rfl (lv_at hl 0 rfl) ?_
        by_cases cz4 : heirS N F (N 12) 2 = 0
        · skip
          refine lv_topv (y := .null) (by unfold opA; rw [if_pos cz4]; rfl) ?_
          refine lv_ifnullN (tgt := 77) X.1 X.2.1 dX6_awardPrizes_23 (by decide) ?_
          have sw : awS N F 2 = (0, F) := aw1_f sw (by assumption)
          refine lv_iinc (v := nI (3)) (lv' := [(2, .int (nI (3))), (3, va_rf (opA ad (heirS N F (N 12) 2))), (1, .int (nI (0))), (0, .ref (ad 0 0))]) X.1 X.2.1 dX6_awardPrizes_77 hl (k := 1) rfl (nI_add (2) 1) (by decide) rfl (fun ls hl => ?_)
          refine lv_goto (tgt := 4) X.1 X.2.1 dX6_awardPrizes_80 (by decide) ?_
          refine lv_iload_n X.1 X.2.1 dX6_awardPrizes_4 rfl (lv_at hl 0 rfl) ?_
          refine lv_iconst (v := nI (3)) X.1 X.2.1 dX6_awardPrizes_5 (by decide) ?_
          refine b_icmp_gt (tgt := 83) X dX6_awardPrizes_6 (by decide) (a := ((3 : Nat) : Int)) (b := ((3 : Nat) : Int)) (nI_ti (by omega)) (nI_ti (by omega)) (fun c5 => ?_) (fun c5 => ?_)
          · skip
            exact absurd c5 (by first | decide | omega)
          · skip
            refine lv_aload_n X.1 X.2.1 dX6_awardPrizes_9 rfl (lv_at hl 3 rfl) ?_
            refine lv_aload_n X.1 X.2.1 dX6_awardPrizes_10 rfl (lv_at hl 3 rfl) ?_
            refine mg_get X hM (ci := 7) (k := 9) rfl kwX6 (by decide) kf_X6_43 dX6_awardPrizes_11 (R.1 0 (0) rfl) (v := .ref (ad 3 (N 12))) rfl ?_
            refine lv_iload_n X.1 X.2.1 dX6_awardPrizes_14 rfl (lv_at hl 0 rfl) ?_
            refine m_callVN X hM ckN_X6_255 ki_X4_playerOn ks_X4_playerOn (ci := 5) rfl dX6_awardPrizes_15 (As := [.int (nI (3))]) (c_X4_playerOn l G ad N F B E P Q _ R (N 12) 3 (show _ < E 0 3 by omega) hb (by decide)) (R.1 3 (N 12) (show N 12 < E 0 3 by omega)) rfl hl rfl (Nat.le_of_ble_eq_true rfl) ⟨Nat.le_of_ble_eq_true rfl, Nat.le_of_ble_eq_true rfl⟩ ⟨Nat.le_of_ble_eq_true rfl, Nat.le_of_ble_eq_true rfl⟩ ?_
            rintro _ _ H locs ⟨rfl, rfl⟩ hM
            refine lv_top (y := nI (heirS N F (N 12) 3) - 1) (by rw [pos_heir hI (fun p hp => hP (N 12) p (by omega) hp) (by decide)]) ?_
            have hh3 := heirS_le N F (N 12) 3
            refine m_callV X hM ck_X6_242 ki_X6_findPlayer ks_X6_findPlayer (ci := 7) rfl dX6_awardPrizes_18 (As := [.int (nI (heirS N F (N 12) 3) - 1)]) (c_X6_findPlayer2 l G ad N F B E P Q _ R (heirS N F (N 12) 3) (show E 0 10 ≤ 16 by omega) (show _ ≤ E 0 10 by omega)) (R.1 0 (0) rfl) rfl hl rfl (Nat.le_of_ble_eq_true rfl) ⟨Nat.le_of_ble_eq_true rfl, Nat.le_of_ble_eq_true rfl⟩ ⟨Nat.le_of_ble_eq_true rfl, Nat.le_of_ble_eq_true rfl⟩ ?_
            rintro _ _ H locs ⟨rfl, rfl⟩ hM
            refine lw_astore_n (lv' := [(3, va_rf (opA ad (heirS N F (N 12) 3))), (2, .int (nI (3))), (1, .int (nI (0))), (0, .ref (ad 0 0))]) X.1 X.2.1 dX6_awardPrizes_21 rfl hl (by decide) rfl (fun ls hl => ?_)
            refine lw_aload_n X.1 X.2.1 dX6_awardPrizes_22 rfl (lv_at hl 0 rfl) ?_
            by_cases cz6 : heirS N F (N 12) 3 = 0
            · skip
              refine lv_topv (y := .null) (by unfold opA; rw [if_pos cz6]; rfl) ?_
              refine lv_ifnullN (tgt := 77) X.1 X.2.1 dX6_awardPrizes_23 (by decide) ?_
              have sw : awS N F 3 = (0, F) := aw1_f sw (by assumption)
              refine lv_iinc (v := nI (4)) (lv' := [(2, .int (nI (4))), (3, va_rf (opA ad (heirS N F (N 12) 3))), (1, .int (nI (0))), (0, .ref (ad 0 0))]) X.1 X.2.1 dX6_awardPrizes_77 hl (k := 1) rfl (nI_add (3) 1) (by decide) rfl (fun ls hl => ?_)
              refine lv_goto (tgt := 4) X.1 X.2.1 dX6_awardPrizes_80 (by decide) ?_
              refine lv_iload_n X.1 X.2.1 dX6_awardPrizes_4 rfl (lv_at hl 0 rfl) ?_
              refine lv_iconst (v := nI (3)) X.1 X.2.1 dX6_awardPrizes_5 (by decide) ?_
              refine b_icmp_gt (tgt := 83) X dX6_awardPrizes_6 (by decide) (a := ((4 : Nat) : Int)) (b := ((3 : Nat) : Int)) (nI_ti (by omega)) (nI_ti (by omega)) (fun c7 => ?_) (fun c7 => ?_)
              · skip
                refine lv_iload_n X.1 X.2.1 dX6_awardPrizes_83 rfl (lv_at hl 2 rfl) ?_
                exact m_iret X hr hlocks hM dX6_awardPrizes_84 ⟨Nat.le_of_ble_eq_true rfl, Nat.le_of_ble_eq_true rfl⟩ (⟨by rw [sw], ad, E, hx, by rw [sw]; show RC G ad (va_up N 13 (N 13 + 0)) _ _ _ _ _ _; rw [Nat.add_zero, va_same]; exact R, by rw [sw]; show NrE (va_up N 13 (N 13 + 0)) _ _; rw [Nat.add_zero, va_same]; exact hE, rfl⟩)
              · skip
                exact absurd c7 (by first | decide | omega)
            · skip
              refine lv_topv (y := .ref (ad 1 (heirS N F (N 12) 3 - 1))) (by unfold opA; rw [if_neg cz6]; rfl) ?_
              refine lv_ifnull X.1 X.2.1 dX6_awardPrizes_23 ?_
              refine lv_aload_n X.1 X.2.1 dX6_awardPrizes_26 rfl (lv_at hl 3 rfl) ?_
              refine mg_get X hM (ci := 7) (k := 7) rfl kwX6 (by decide) kf_X6_258 dX6_awardPrizes_27 (R.1 0 (0) rfl) (v := .int (nI (N 13))) rfl ?_
              refine lv_aload_n X.1 X.2.1 dX6_awardPrizes_30 rfl (lv_at hl 3 rfl) ?_
              refine mg_get X hM (ci := 7) (k := 3) rfl kwX6 (by decide) kf_X6_29 dX6_awardPrizes_31 (R.1 0 (0) rfl) (v := .ref (ad 13 0)) rfl ?_
              refine mg_alen X hM 6 rfl dX6_awardPrizes_34 (R.1 13 (0) rfl) ?_
              refine b_icmp_ge (tgt := 77) X dX6_awardPrizes_35 (by decide) (a := ((N 13 : Nat) : Int)) (b := ((36 : Nat) : Int)) (nI_ti (by omega)) (nI_ti (by omega)) (fun c8 => ?_) (fun c8 => ?_)
              · skip
                exact absurd c8 (by omega)
              · skip
                refine lv_aload_n X.1 X.2.1 dX6_awardPrizes_38 rfl (lv_at hl 3 rfl) ?_
                refine mg_get X hM (ci := 7) (k := 3) rfl kwX6 (by decide) kf_X6_29 dX6_awardPrizes_39 (R.1 0 (0) rfl) (v := .ref (ad 13 0)) rfl ?_
                refine lv_aload_n X.1 X.2.1 dX6_awardPrizes_42 rfl (lv_at hl 3 rfl) ?_
                refine mg_get X hM (ci := 7) (k := 7) rfl kwX6 (by decide) kf_X6_258 dX6_awardPrizes_43 (R.1 0 (0) rfl) (v := .int (nI (N 13))) rfl ?_
                refine mg_new X hM (ci := 6) tyX5 tyX5_ok rfl kwX5 kcl_X6_27 kinst_X5 kini_X5 (fs := [.int (0), .null, .int (0), .null, .int (0), .null, .null, .null, .null, .int (0)]) (by decide) dX6_awardPrizes_46 (Nat.le_of_ble_eq_true rfl) (Nat.le_of_ble_eq_true rfl) (fun a9 H hn10 hM => ?_)
                have hq11 := R.new hn10
                obtain ⟨M, hc12, hM, R⟩ : ∃ M2, M2 a9 = some (.inr (6, [.int (0), .null, .int (0), .null, .int (0), .null, .null, .null, .null, .int (0)])) ∧ mW G A s.heap M2 H locs ∧ RC G ad N F B E P Q M2 := ⟨_, mU_eq _ _ _, hM, R.off hq11 _⟩
                refine lv_dup X.1 X.2.1 dX6_awardPrizes_49 rfl ?_
                refine lv_aload_n X.1 X.2.1 dX6_awardPrizes_50 rfl (lv_at hl 3 rfl) ?_
                refine mg_get X hM (ci := 7) (k := 7) rfl kwX6 (by decide) kf_X6_258 dX6_awardPrizes_51 (R.1 0 (0) rfl) (v := .int (nI (N 13))) rfl ?_
                refine lv_aload_n X.1 X.2.1 dX6_awardPrizes_54 rfl (lv_at hl 3 rfl) ?_
                refine mg_get X hM (ci := 7) (k := 9) rfl kwX6 (by decide) kf_X6_43 dX6_awardPrizes_55 (R.1 0 (0) rfl) (v := .ref (ad 3 (N 12))) rfl ?_
                refine lv_iload_n X.1 X.2.1 dX6_awardPrizes_58 rfl (lv_at hl 1 rfl) ?_
                refine lw_aload_n X.1 X.2.1 dX6_awardPrizes_59 rfl (lv_at hl 0 rfl) ?_
                refine lv_topv (y := .ref (ad 1 (heirS N F (N 12) 3 - 1))) (by unfold opA; rw [if_neg cz6]; rfl) ?_
                refine m_callIN X hM ckN_X6_261 ki_X5_init rfl dX6_awardPrizes_60 (b := a9) (As := [.int (nI (N 13)), .ref (ad 3 (N 12)), .int (nI (3)), .ref (ad 1 (heirS N F (N 12) 3 - 1))]) (c_X5_init l G _ a9 (N 13) (ad 3 (N 12)) 3 (ad 1 (heirS N F (N 12) 3 - 1)) hc12) rfl hl rfl (Nat.le_of_ble_eq_true rfl) ⟨Nat.le_of_ble_eq_true rfl, Nat.le_of_ble_eq_true rfl⟩ ⟨Nat.le_of_ble_eq_true rfl, Nat.le_of_ble_eq_true rfl⟩ ?_
                rintro _ _ H locs ⟨rfl, a13, ha14, rfl⟩ hM
                obtain ⟨ad, M, h0, hop, h13, ea, hM, R⟩ : ∃ (ad2 : Nat → Nat → Nat) (M2 : Mem), ad 0 = ad2 0 ∧ opA ad = opA ad2 ∧ ad 13 = ad2 13 ∧ a9 = ad2 6 (N 13) ∧ mW G A s.heap M2 H locs ∧ RC G ad2 N (awF F (N 13) (N 12) 3 (heirS N F (N 12) 3)) B (set1 (sE E (N 13) 0) 0 6 (N 13 + 1)) P Q M2 := ⟨set1 (set1 ad 6 (N 13) a9) 7 (N 13) a13, _, rfl, rfl, rfl, by simp [set1, va_up], hM, R.skin (s := N 12) (pl := 3) (h := heirS N F (N 12) 3) e6 e13 (fun z => absurd z (by assumption)) (hJ.2.2 _ (by omega)) hq11 hc12 ha14⟩
                have hx : ad 0 0 = x := (congrFun h0 0).symm.trans hx
                have hl : lv_has ls 4 [(3, va_rf (opA ad (heirS N F (N 12) 3))), (2, .int (nI (3))), (1, .int (nI (0))), (0, .ref (ad 0 0))] := by rw [h0, hop] at hl; exact hl
                rw [ea, h13]
                refine mx_aast X hM 6 (ci := 6) rfl rfl dX6_awardPrizes_63 (R.1 13 (0) rfl) (R.1 6 (N 13) (show N 13 < N 13 + 1 by omega)) (i := N 13) (by omega) (by decide) (fun H locs hM => ?_)
                obtain ⟨M, hM, R⟩ : ∃ M2, mW G A s.heap M2 H locs ∧ RC G ad N (awF F (N 13) (N 12) 3 (heirS N F (N 12) 3)) B (set1 (set1 (sE E (N 13) 0) 0 6 (N 13 + 1)) 0 (13) (N 13 + 1)) P Q M2 := ⟨_, hM, R.rowSkc (n := N 13) (by first | rfl | exact e13)⟩
                refine lv_aload_n X.1 X.2.1 dX6_awardPrizes_64 rfl (lv_at hl 3 rfl) ?_
                refine lv_dup X.1 X.2.1 dX6_awardPrizes_65 rfl ?_
                refine mg_get X hM (ci := 7) (k := 7) rfl kwX6 (by decide) kf_X6_258 dX6_awardPrizes_66 (R.1 0 (0) rfl) (v := .int (nI (N 13))) (by first | rfl | simp [set1, va_up, upd]) ?_
                refine lv_iconst (v := nI (1)) X.1 X.2.1 dX6_awardPrizes_69 (by decide) ?_
                refine lv_iadd X.1 X.2.1 dX6_awardPrizes_70 ?_
                refine lv_top (y := nI (N 13 + 1)) (nI_add _ _) ?_
                refine mg_put X hM tyX6 tyX6_ok nmX6 (ci := 7) (k := 7) rfl kwX6 (by decide) kf_X6_258 rfl dX6_awardPrizes_71 (R.1 0 (0) rfl) rfl rfl (Nat.le_of_ble_eq_true rfl) (fun H locs hM => ?_)
                obtain ⟨M, hM, R⟩ : ∃ M2, mW G A s.heap M2 H locs ∧ RC G ad (va_up N 13 (N 13 + 1)) (awF F (N 13) (N 12) 3 (heirS N F (N 12) 3)) B (set1 (set1 (sE E (N 13) 0) 0 6 (N 13 + 1)) 0 (13) (N 13 + 1)) P Q M2 := ⟨_, hM, R.nSk (N 13 + 1)⟩
                have hE : NrE (va_up N 13 (N 13 + 1)) (awF F (N 13) (N 12) 3 (heirS N F (N 12) 3)) (set1 (set1 (sE E (N 13) 0) 0 6 (N 13 + 1)) 0 (13) (N 13 + 1)) := by have h9 := NrE.aw hE (n := N 13) rfl (N 12) 3 (heirS N F (N 12) 3); exact h9
                obtain ⟨⟨_, _, _, _, _, _, e6, e13⟩, _, _, _⟩ := id hE
                have sw : awS N F 3 = (0 + 1, (awF F (N 13) (N 12) 3 (heirS N F (N 12) 3))) := aw1_t sw (by assumption)
                refine lv_iinc (v := nI (1)) (lv' := [(1, .int (nI (1))), (3, va_rf (opA ad (heirS N F (N 12) 3))), (2, .int (nI (3))), (0, .ref (ad 0 0))]) X.1 X.2.1 dX6_awardPrizes_74 hl (k := 2) rfl (nI_add (0) 1) (by decide) rfl (fun ls hl => ?_)
                refine lv_iinc (v := nI (4)) (lv' := [(2, .int (nI (4))), (1, .int (nI (1))), (3, va_rf (opA ad (heirS N F (N 12) 3))), (0, .ref (ad 0 0))]) X.1 X.2.1 dX6_awardPrizes_77 hl (k := 2) rfl (nI_add (3) 1) (by decide) rfl (fun ls hl => ?_)
                refine lv_goto (tgt := 4) X.1 X.2.1 dX6_awardPrizes_80 (by decide) ?_
                refine lv_iload_n X.1 X.2.1 dX6_awardPrizes_4 rfl (lv_at hl 0 rfl) ?_
                refine lv_iconst (v := nI (3)) X.1 X.2.1 dX6_awardPrizes_5 (by decide) ?_
                refine b_icmp_gt (tgt := 83) X dX6_awardPrizes_6 (by decide) (a := ((4 : Nat) : Int)) (b := ((3 : Nat) : Int)) (nI_ti (by omega)) (nI_ti (by omega)) (fun c15 => ?_) (fun c15 => ?_)
                · skip
                  refine lv_iload_n X.1 X.2.1 dX6_awardPrizes_83 rfl (lv_at hl 1 rfl) ?_
                  exact m_iret X hr hlocks hM dX6_awardPrizes_84 ⟨Nat.le_of_ble_eq_true rfl, Nat.le_of_ble_eq_true rfl⟩ (⟨by rw [sw], ad, (set1 (set1 (sE E (N 13) 0) 0 6 (N 13 + 1)) 0 (13) (N 13 + 1)), hx, by rw [sw]; exact R, by rw [sw]; exact hE, rfl⟩)
                · skip
                  exact absurd c15 (by first | decide | omega)
        · skip
          refine lv_topv (y := .ref (ad 1 (heirS N F (N 12) 2 - 1))) (by unfold opA; rw [if_neg cz4]; rfl) ?_
          refine lv_ifnull X.1 X.2.1 dX6_awardPrizes_23 ?_
          refine lv_aload_n X.1 X.2.1 dX6_awardPrizes_26 rfl (lv_at hl 3 rfl) ?_
          refine mg_get X hM (ci := 7) (k := 7) rfl kwX6 (by decide) kf_X6_258 dX6_awardPrizes_27 (R.1 0 (0) rfl) (v := .int (nI (N 13))) rfl ?_
          refine lv_aload_n X.1 X.2.1 dX6_awardPrizes_30 rfl (lv_at hl 3 rfl) ?_
          refine mg_get X hM (ci := 7) (k := 3) rfl kwX6 (by decide) kf_X6_29 dX6_awardPrizes_31 (R.1 0 (0) rfl) (v := .ref (ad 13 0)) rfl ?_
          refine mg_alen X hM 6 rfl dX6_awardPrizes_34 (R.1 13 (0) rfl) ?_
          refine b_icmp_ge (tgt := 77) X dX6_awardPrizes_35 (by decide) (a := ((N 13 : Nat) : Int)) (b := ((36 : Nat) : Int)) (nI_ti (by omega)) (nI_ti (by omega)) (fun c16 => ?_) (fun c16 => ?_)
          · skip
            exact absurd c16 (by omega)
          · skip
            refine lv_aload_n X.1 X.2.1 dX6_awardPrizes_38 rfl (lv_at hl 3 rfl) ?_
            refine mg_get X hM (ci := 7) (k := 3) rfl kwX6 (by decide) kf_X6_29 dX6_awardPrizes_39 (R.1 0 (0) rfl) (v := .ref (ad 13 0)) rfl ?_
            refine lv_aload_n X.1 X.2.1 dX6_awardPrizes_42 rfl (lv_at hl 3 rfl) ?_
            refine mg_get X hM (ci := 7) (k := 7) rfl kwX6 (by decide) kf_X6_258 dX6_awardPrizes_43 (R.1 0 (0) rfl) (v := .int (nI (N 13))) rfl ?_
            refine mg_new X hM (ci := 6) tyX5 tyX5_ok rfl kwX5 kcl_X6_27 kinst_X5 kini_X5 (fs := [.int (0), .null, .int (0), .null, .int (0), .null, .null, .null, .null, .int (0)]) (by decide) dX6_awardPrizes_46 (Nat.le_of_ble_eq_true rfl) (Nat.le_of_ble_eq_true rfl) (fun a17 H hn18 hM => ?_)
            have hq19 := R.new hn18
            obtain ⟨M, hc20, hM, R⟩ : ∃ M2, M2 a17 = some (.inr (6, [.int (0), .null, .int (0), .null, .int (0), .null, .null, .null, .null, .int (0)])) ∧ mW G A s.heap M2 H locs ∧ RC G ad N F B E P Q M2 := ⟨_, mU_eq _ _ _, hM, R.off hq19 _⟩
            refine lv_dup X.1 X.2.1 dX6_awardPrizes_49 rfl ?_
            refine lv_aload_n X.1 X.2.1 dX6_awardPrizes_50 rfl (lv_at hl 3 rfl) ?_
            refine mg_get X hM (ci := 7) (k := 7) rfl kwX6 (by decide) kf_X6_258 dX6_awardPrizes_51 (R.1 0 (0) rfl) (v := .int (nI (N 13))) rfl ?_
            refine lv_aload_n X.1 X.2.1 dX6_awardPrizes_54 rfl (lv_at hl 3 rfl) ?_
            refine mg_get X hM (ci := 7) (k := 9) rfl kwX6 (by decide) kf_X6_43 dX6_awardPrizes_55 (R.1 0 (0) rfl) (v := .ref (ad 3 (N 12))) rfl ?_
            refine lv_iload_n X.1 X.2.1 dX6_awardPrizes_58 rfl (lv_at hl 1 rfl) ?_
            refine lw_aload_n X.1 X.2.1 dX6_awardPrizes_59 rfl (lv_at hl 0 rfl) ?_
            refine lv_topv (y := .ref (ad 1 (heirS N F (N 12) 2 - 1))) (by unfold opA; rw [if_neg cz4]; rfl) ?_
            refine m_callIN X hM ckN_X6_261 ki_X5_init rfl dX6_awardPrizes_60 (b := a17) (As := [.int (nI (N 13)), .ref (ad 3 (N 12)), .int (nI (2)), .ref (ad 1 (heirS N F (N 12) 2 - 1))]) (c_X5_init l G _ a17 (N 13) (ad 3 (N 12)) 2 (ad 1 (heirS N F (N 12) 2 - 1)) hc20) rfl hl rfl (Nat.le_of_ble_eq_true rfl) ⟨Nat.le_of_ble_eq_true rfl, Nat.le_of_ble_eq_true rfl⟩ ⟨Nat.le_of_ble_eq_true rfl, Nat.le_of_ble_eq_true rfl⟩ ?_
            rintro _ _ H locs ⟨rfl, a21, ha22, rfl⟩ hM
            obtain ⟨ad, M, h0, hop, h13, ea, hM, R⟩ : ∃ (ad2 : Nat → Nat → Nat) (M2 : Mem), ad 0 = ad2 0 ∧ opA ad = opA ad2 ∧ ad 13 = ad2 13 ∧ a17 = ad2 6 (N 13) ∧ mW G A s.heap M2 H locs ∧ RC G ad2 N (awF F (N 13) (N 12) 2 (heirS N F (N 12) 2)) B (set1 (sE E (N 13) 0) 0 6 (N 13 + 1)) P Q M2 := ⟨set1 (set1 ad 6 (N 13) a17) 7 (N 13) a21, _, rfl, rfl, rfl, by simp [set1, va_up], hM, R.skin (s := N 12) (pl := 2) (h := heirS N F (N 12) 2) e6 e13 (fun z => absurd z (by assumption)) (hJ.2.2 _ (by omega)) hq19 hc20 ha22⟩
            have hx : ad 0 0 = x := (congrFun h0 0).symm.trans hx
            have hl : lv_has ls 4 [(3, va_rf (opA ad (heirS N F (N 12) 2))), (2, .int (nI (2))), (1, .int (nI (0))), (0, .ref (ad 0 0))] := by rw [h0, hop] at hl; exact hl
            rw [ea, h13]
            refine mx_aast X hM 6 (ci := 6) rfl rfl dX6_awardPrizes_63 (R.1 13 (0) rfl) (R.1 6 (N 13) (show N 13 < N 13 + 1 by omega)) (i := N 13) (by omega) (by decide) (fun H locs hM => ?_)
            obtain ⟨M, hM, R⟩ : ∃ M2, mW G A s.heap M2 H locs ∧ RC G ad N (awF F (N 13) (N 12) 2 (heirS N F (N 12) 2)) B (set1 (set1 (sE E (N 13) 0) 0 6 (N 13 + 1)) 0 (13) (N 13 + 1)) P Q M2 := ⟨_, hM, R.rowSkc (n := N 13) (by first | rfl | exact e13)⟩
            refine lv_aload_n X.1 X.2.1 dX6_awardPrizes_64 rfl (lv_at hl 3 rfl) ?_
            refine lv_dup X.1 X.2.1 dX6_awardPrizes_65 rfl ?_
            refine mg_get X hM (ci := 7) (k := 7) rfl kwX6 (by decide) kf_X6_258 dX6_awardPrizes_66 (R.1 0 (0) rfl) (v := .int (nI (N 13))) (by first | rfl | simp [set1, va_up, upd]) ?_
            refine lv_iconst (v := nI (1)) X.1 X.2.1 dX6_awardPrizes_69 (by decide) ?_
            refine lv_iadd X.1 X.2.1 dX6_awardPrizes_70 ?_
            refine lv_top (y := nI (N 13 + 1)) (nI_add _ _) ?_
            refine mg_put X hM tyX6 tyX6_ok nmX6 (ci := 7) (k := 7) rfl kwX6 (by decide) kf_X6_258 rfl dX6_awardPrizes_71 (R.1 0 (0) rfl) rfl rfl (Nat.le_of_ble_eq_true rfl) (fun H locs hM => ?_)
            obtain ⟨M, hM, R⟩ : ∃ M2, mW G A s.heap M2 H locs ∧ RC G ad (va_up N 13 (N 13 + 1)) (awF F (N 13) (N 12) 2 (heirS N F (N 12) 2)) B (set1 (set1 (sE E (N 13) 0) 0 6 (N 13 + 1)) 0 (13) (N 13 + 1)) P Q M2 := ⟨_, hM, R.nSk (N 13 + 1)⟩
            have hE : NrE (va_up N 13 (N 13 + 1)) (awF F (N 13) (N 12) 2 (heirS N F (N 12) 2)) (set1 (set1 (sE E (N 13) 0) 0 6 (N 13 + 1)) 0 (13) (N 13 + 1)) := by have h9 := NrE.aw hE (n := N 13) rfl (N 12) 2 (heirS N F (N 12) 2); exact h9
            obtain ⟨⟨_, _, _, _, _, _, e6, e13⟩, _, _, _⟩ := id hE
            have sw : awS N F 2 = (0 + 1, (awF F (N 13) (N 12) 2 (heirS N F (N 12) 2))) := aw1_t sw (by assumption)
            refine lv_iinc (v := nI (1)) (lv' := [(1, .int (nI (1))), (3, va_rf (opA ad (heirS N F (N 12) 2))), (2, .int (nI (2))), (0, .ref (ad 0 0))]) X.1 X.2.1 dX6_awardPrizes_74 hl (k := 2) rfl (nI_add (0) 1) (by decide) rfl (fun ls hl => ?_)
            refine lv_iinc (v := nI (3)) (lv' := [(2, .int (nI (3))), (1, .int (nI (1))), (3, va_rf (opA ad (heirS N F (N 12) 2))), (0, .ref (ad 0 0))]) X.1 X.2.1 dX6_awardPrizes_77 hl (k := 2) rfl (nI_add (2) 1) (by decide) rfl (fun ls hl => ?_)
            refine lv_goto (tgt := 4) X.1 X.2.1 dX6_awardPrizes_80 (by decide) ?_
            refine lv_iload_n X.1 X.2.1 dX6_awardPrizes_4 rfl (lv_at hl 0 rfl) ?_
            refine lv_iconst (v := nI (3)) X.1 X.2.1 dX6_awardPrizes_5 (by decide) ?_
            refine b_icmp_gt (tgt := 83) X dX6_awardPrizes_6 (by decide) (a := ((3 : Nat) : Int)) (b := ((3 : Nat) : Int)) (nI_ti (by omega)) (nI_ti (by omega)) (fun c23 => ?_) (fun c23 => ?_)
            · skip
              exact absurd c23 (by first | decide | omega)
            · skip
              refine lv_aload_n X.1 X.2.1 dX6_awardPrizes_9 rfl (lv_at hl 3 rfl) ?_
              refine lv_aload_n X.1 X.2.1 dX6_awardPrizes_10 rfl (lv_at hl 3 rfl) ?_
              refine mg_get X hM (ci := 7) (k := 9) rfl kwX6 (by decide) kf_X6_43 dX6_awardPrizes_11 (R.1 0 (0) rfl) (v := .ref (ad 3 (N 12))) (by first | rfl | simp [set1, va_up, upd]) ?_
              refine lv_iload_n X.1 X.2.1 dX6_awardPrizes_14 rfl (lv_at hl 0 rfl) ?_
              refine m_callVN X hM ckN_X6_255 ki_X4_playerOn ks_X4_playerOn (ci := 5) rfl dX6_awardPrizes_15 (As := [.int (nI (3))]) (c_X4_playerOn l G ad (va_up N 13 (N 13 + 1)) (awF F (N 13) (N 12) 2 (heirS N F (N 12) 2)) B (set1 (set1 (sE E (N 13) 0) 0 6 (N 13 + 1)) 0 (13) (N 13 + 1)) P Q _ R (N 12) 3 (show _ < E 0 3 by omega) hb (by decide)) (R.1 3 (N 12) (show N 12 < E 0 3 by omega)) rfl hl rfl (Nat.le_of_ble_eq_true rfl) ⟨Nat.le_of_ble_eq_true rfl, Nat.le_of_ble_eq_true rfl⟩ ⟨Nat.le_of_ble_eq_true rfl, Nat.le_of_ble_eq_true rfl⟩ ?_
              rintro _ _ H locs ⟨rfl, rfl⟩ hM
              refine lv_top (y := nI (heirS N F (N 12) 3) - 1) (by rw [pos_heir hI (fun p hp => hP (N 12) p (by omega) hp) (by decide)]) ?_
              have hh3 := heirS_le N F (N 12) 3
              refine m_callV X hM ck_X6_242 ki_X6_findPlayer ks_X6_findPlayer (ci := 7) rfl dX6_awardPrizes_18 (As := [.int (nI (heirS N F (N 12) 3) - 1)]) (c_X6_findPlayer2 l G ad (va_up N 13 (N 13 + 1)) (awF F (N 13) (N 12) 2 (heirS N F (N 12) 2)) B (set1 (set1 (sE E (N 13) 0) 0 6 (N 13 + 1)) 0 (13) (N 13 + 1)) P Q _ R (heirS N F (N 12) 3) (show E 0 10 ≤ 16 by omega) (show _ ≤ E 0 10 by omega)) (R.1 0 (0) rfl) rfl hl rfl (Nat.le_of_ble_eq_true rfl) ⟨Nat.le_of_ble_eq_true rfl, Nat.le_of_ble_eq_true rfl⟩ ⟨Nat.le_of_ble_eq_true rfl, Nat.le_of_ble_eq_true rfl⟩ ?_
              rintro _ _ H locs ⟨rfl, rfl⟩ hM
              refine lw_astore_n (lv' := [(3, va_rf (opA ad (heirS N F (N 12) 3))), (2, .int (nI (3))), (1, .int (nI (1))), (0, .ref (ad 0 0))]) X.1 X.2.1 dX6_awardPrizes_21 rfl hl (by decide) rfl (fun ls hl => ?_)
              refine lw_aload_n X.1 X.2.1 dX6_awardPrizes_22 rfl (lv_at hl 0 rfl) ?_
              by_cases cz24 : heirS N F (N 12) 3 = 0
              · skip
                refine lv_topv (y := .null) (by unfold opA; rw [if_pos cz24]; rfl) ?_
                refine lv_ifnullN (tgt := 77) X.1 X.2.1 dX6_awardPrizes_23 (by decide) ?_
                have sw : awS N F 3 = (1, (awF F (N 13) (N 12) 2 (heirS N F (N 12) 2))) := aw1_f sw (by assumption)
                refine lv_iinc (v := nI (4)) (lv' := [(2, .int (nI (4))), (3, va_rf (opA ad (heirS N F (N 12) 3))), (1, .int (nI (1))), (0, .ref (ad 0 0))]) X.1 X.2.1 dX6_awardPrizes_77 hl (k := 1) rfl (nI_add (3) 1) (by decide) rfl (fun ls hl => ?_)
                refine lv_goto (tgt := 4) X.1 X.2.1 dX6_awardPrizes_80 (by decide) ?_
                refine lv_iload_n X.1 X.2.1 dX6_awardPrizes_4 rfl (lv_at hl 0 rfl) ?_
                refine lv_iconst (v := nI (3)) X.1 X.2.1 dX6_awardPrizes_5 (by decide) ?_
                refine b_icmp_gt (tgt := 83) X dX6_awardPrizes_6 (by decide) (a := ((4 : Nat) : Int)) (b := ((3 : Nat) : Int)) (nI_ti (by omega)) (nI_ti (by omega)) (fun c25 => ?_) (fun c25 => ?_)
                · skip
                  refine lv_iload_n X.1 X.2.1 dX6_awardPrizes_83 rfl (lv_at hl 2 rfl) ?_
                  exact m_iret X hr hlocks hM dX6_awardPrizes_84 ⟨Nat.le_of_ble_eq_true rfl, Nat.le_of_ble_eq_true rfl⟩ (⟨by rw [sw], ad, (set1 (set1 (sE E (N 13) 0) 0 6 (N 13 + 1)) 0 (13) (N 13 + 1)), hx, by rw [sw]; exact R, by rw [sw]; exact hE, rfl⟩)
                · skip
                  exact absurd c25 (by first | decide | omega)
              · skip
                refine lv_topv (y := .ref (ad 1 (heirS N F (N 12) 3 - 1))) (by unfold opA; rw [if_neg cz24]; rfl) ?_
                refine lv_ifnull X.1 X.2.1 dX6_awardPrizes_23 ?_
                refine lv_aload_n X.1 X.2.1 dX6_awardPrizes_26 rfl (lv_at hl 3 rfl) ?_
                refine mg_get X hM (ci := 7) (k := 7) rfl kwX6 (by decide) kf_X6_258 dX6_awardPrizes_27 (R.1 0 (0) rfl) (v := .int (nI ((N 13 + 1)))) (by first | rfl | simp [set1, va_up, upd]) ?_
                refine lv_aload_n X.1 X.2.1 dX6_awardPrizes_30 rfl (lv_at hl 3 rfl) ?_
                refine mg_get X hM (ci := 7) (k := 3) rfl kwX6 (by decide) kf_X6_29 dX6_awardPrizes_31 (R.1 0 (0) rfl) (v := .ref (ad 13 0)) (by first | rfl | simp [set1, va_up, upd]) ?_
                refine mg_alen X hM 6 rfl dX6_awardPrizes_34 (R.1 13 (0) rfl) ?_
                refine b_icmp_ge (tgt := 77) X dX6_awardPrizes_35 (by decide) (a := (((N 13 + 1) : Nat) : Int)) (b := ((36 : Nat) : Int)) (nI_ti (by omega)) (nI_ti (by omega)) (fun c26 => ?_) (fun c26 => ?_)
                · skip
                  exact absurd c26 (by omega)
                · skip
                  refine lv_aload_n X.1 X.2.1 dX6_awardPrizes_38 rfl (lv_at hl 3 rfl) ?_
                  refine mg_get X hM (ci := 7) (k := 3) rfl kwX6 (by decide) kf_X6_29 dX6_awardPrizes_39 (R.1 0 (0) rfl) (v := .ref (ad 13 0)) (by first | rfl | simp [set1, va_up, upd]) ?_
                  refine lv_aload_n X.1 X.2.1 dX6_awardPrizes_42 rfl (lv_at hl 3 rfl) ?_
                  refine mg_get X hM (ci := 7) (k := 7) rfl kwX6 (by decide) kf_X6_258 dX6_awardPrizes_43 (R.1 0 (0) rfl) (v := .int (nI ((N 13 + 1)))) (by first | rfl | simp [set1, va_up, upd]) ?_
                  refine mg_new X hM (ci := 6) tyX5 tyX5_ok rfl kwX5 kcl_X6_27 kinst_X5 kini_X5 (fs := [.int (0), .null, .int (0), .null, .int (0), .null, .null, .null, .null, .int (0)]) (by decide) dX6_awardPrizes_46 (Nat.le_of_ble_eq_true rfl) (Nat.le_of_ble_eq_true rfl) (fun a27 H hn28 hM => ?_)
                  have hq29 := R.new hn28
                  obtain ⟨M, hc30, hM, R⟩ : ∃ M2, M2 a27 = some (.inr (6, [.int (0), .null, .int (0), .null, .int (0), .null, .null, .null, .null, .int (0)])) ∧ mW G A s.heap M2 H locs ∧ RC G ad (va_up N 13 (N 13 + 1)) (awF F (N 13) (N 12) 2 (heirS N F (N 12) 2)) B (set1 (set1 (sE E (N 13) 0) 0 6 (N 13 + 1)) 0 (13) (N 13 + 1)) P Q M2 := ⟨_, mU_eq _ _ _, hM, R.off hq29 _⟩
                  refine lv_dup X.1 X.2.1 dX6_awardPrizes_49 rfl ?_
                  refine lv_aload_n X.1 X.2.1 dX6_awardPrizes_50 rfl (lv_at hl 3 rfl) ?_
                  refine mg_get X hM (ci := 7) (k := 7) rfl kwX6 (by decide) kf_X6_258 dX6_awardPrizes_51 (R.1 0 (0) rfl) (v := .int (nI ((N 13 + 1)))) (by first | rfl | simp [set1, va_up, upd]) ?_
                  refine lv_aload_n X.1 X.2.1 dX6_awardPrizes_54 rfl (lv_at hl 3 rfl) ?_
                  refine mg_get X hM (ci := 7) (k := 9) rfl kwX6 (by decide) kf_X6_43 dX6_awardPrizes_55 (R.1 0 (0) rfl) (v := .ref (ad 3 (N 12))) (by first | rfl | simp [set1, va_up, upd]) ?_
                  refine lv_iload_n X.1 X.2.1 dX6_awardPrizes_58 rfl (lv_at hl 1 rfl) ?_
                  refine lw_aload_n X.1 X.2.1 dX6_awardPrizes_59 rfl (lv_at hl 0 rfl) ?_
                  refine lv_topv (y := .ref (ad 1 (heirS N F (N 12) 3 - 1))) (by unfold opA; rw [if_neg cz24]; rfl) ?_
                  refine m_callIN X hM ckN_X6_261 ki_X5_init rfl dX6_awardPrizes_60 (b := a27) (As := [.int (nI ((N 13 + 1))), .ref (ad 3 (N 12)), .int (nI (3)), .ref (ad 1 (heirS N F (N 12) 3 - 1))]) (c_X5_init l G _ a27 ((N 13 + 1)) (ad 3 (N 12)) 3 (ad 1 (heirS N F (N 12) 3 - 1)) hc30) rfl hl rfl (Nat.le_of_ble_eq_true rfl) ⟨Nat.le_of_ble_eq_true rfl, Nat.le_of_ble_eq_true rfl⟩ ⟨Nat.le_of_ble_eq_true rfl, Nat.le_of_ble_eq_true rfl⟩ ?_
                  rintro _ _ H locs ⟨rfl, a31, ha32, rfl⟩ hM
                  obtain ⟨ad, M, h0, hop, h13, ea, hM, R⟩ : ∃ (ad2 : Nat → Nat → Nat) (M2 : Mem), ad 0 = ad2 0 ∧ opA ad = opA ad2 ∧ ad 13 = ad2 13 ∧ a27 = ad2 6 ((N 13 + 1)) ∧ mW G A s.heap M2 H locs ∧ RC G ad2 (va_up N 13 (N 13 + 1)) (awF (awF F (N 13) (N 12) 2 (heirS N F (N 12) 2)) ((N 13 + 1)) (N 12) 3 (heirS N F (N 12) 3)) B (set1 (sE (set1 (set1 (sE E (N 13) 0) 0 6 (N 13 + 1)) 0 (13) (N 13 + 1)) ((N 13 + 1)) 0) 0 6 ((N 13 + 1) + 1)) P Q M2 := ⟨set1 (set1 ad 6 ((N 13 + 1)) a27) 7 ((N 13 + 1)) a31, _, rfl, rfl, rfl, by simp [set1, va_up], hM, R.skin (s := N 12) (pl := 3) (h := heirS N F (N 12) 3) e6 e13 (fun z => absurd z (by assumption)) (hJ.2.2 _ (by omega)) hq29 hc30 ha32⟩
                  have hx : ad 0 0 = x := (congrFun h0 0).symm.trans hx
                  have hl : lv_has ls 4 [(3, va_rf (opA ad (heirS N F (N 12) 3))), (2, .int (nI (3))), (1, .int (nI (1))), (0, .ref (ad 0 0))] := by rw [h0, hop] at hl; exact hl
                  rw [ea, h13]
                  refine mx_aast X hM 6 (ci := 6) rfl rfl dX6_awardPrizes_63 (R.1 13 (0) rfl) (R.1 6 ((N 13 + 1)) (show (N 13 + 1) < (N 13 + 1) + 1 by omega)) (i := (N 13 + 1)) (by omega) (by decide) (fun H locs hM => ?_)
                  obtain ⟨M, hM, R⟩ : ∃ M2, mW G A s.heap M2 H locs ∧ RC G ad (va_up N 13 (N 13 + 1)) (awF (awF F (N 13) (N 12) 2 (heirS N F (N 12) 2)) ((N 13 + 1)) (N 12) 3 (heirS N F (N 12) 3)) B (set1 (set1 (sE (set1 (set1 (sE E (N 13) 0) 0 6 (N 13 + 1)) 0 (13) (N 13 + 1)) ((N 13 + 1)) 0) 0 6 ((N 13 + 1) + 1)) 0 (13) ((N 13 + 1) + 1)) P Q M2 := ⟨_, hM, R.rowSkc (n := (N 13 + 1)) (by first | rfl | exact e13)⟩
                  refine lv_aload_n X.1 X.2.1 dX6_awardPrizes_64 rfl (lv_at hl 3 rfl) ?_
                  refine lv_dup X.1 X.2.1 dX6_awardPrizes_65 rfl ?_
                  refine mg_get X hM (ci := 7) (k := 7) rfl kwX6 (by decide) kf_X6_258 dX6_awardPrizes_66 (R.1 0 (0) rfl) (v := .int (nI ((N 13 + 1)))) (by first | rfl | simp [set1, va_up, upd]) ?_
                  refine lv_iconst (v := nI (1)) X.1 X.2.1 dX6_awardPrizes_69 (by decide) ?_
                  refine lv_iadd X.1 X.2.1 dX6_awardPrizes_70 ?_
                  refine lv_top (y := nI ((N 13 + 1) + 1)) (nI_add _ _) ?_
                  refine mg_put X hM tyX6 tyX6_ok nmX6 (ci := 7) (k := 7) rfl kwX6 (by decide) kf_X6_258 rfl dX6_awardPrizes_71 (R.1 0 (0) rfl) rfl rfl (Nat.le_of_ble_eq_true rfl) (fun H locs hM => ?_)
                  obtain ⟨M, hM, R⟩ : ∃ M2, mW G A s.heap M2 H locs ∧ RC G ad (va_up (va_up N 13 (N 13 + 1)) 13 ((N 13 + 1) + 1)) (awF (awF F (N 13) (N 12) 2 (heirS N F (N 12) 2)) ((N 13 + 1)) (N 12) 3 (heirS N F (N 12) 3)) B (set1 (set1 (sE (set1 (set1 (sE E (N 13) 0) 0 6 (N 13 + 1)) 0 (13) (N 13 + 1)) ((N 13 + 1)) 0) 0 6 ((N 13 + 1) + 1)) 0 (13) ((N 13 + 1) + 1)) P Q M2 := ⟨_, hM, R.nSk ((N 13 + 1) + 1)⟩
                  rw [va_up_up] at R
                  have hE : NrE (va_up N 13 ((N 13 + 1) + 1)) (awF (awF F (N 13) (N 12) 2 (heirS N F (N 12) 2)) ((N 13 + 1)) (N 12) 3 (heirS N F (N 12) 3)) (set1 (set1 (sE (set1 (set1 (sE E (N 13) 0) 0 6 (N 13 + 1)) 0 (13) (N 13 + 1)) ((N 13 + 1)) 0) 0 6 ((N 13 + 1) + 1)) 0 (13) ((N 13 + 1) + 1)) := by have h9 := NrE.aw hE (n := (N 13 + 1)) rfl (N 12) 3 (heirS N F (N 12) 3); rw [va_up_up] at h9; exact h9
                  obtain ⟨⟨_, _, _, _, _, _, e6, e13⟩, _, _, _⟩ := id hE
                  have sw : awS N F 3 = (1 + 1, (awF (awF F (N 13) (N 12) 2 (heirS N F (N 12) 2)) ((N 13 + 1)) (N 12) 3 (heirS N F (N 12) 3))) := aw1_t sw (by assumption)
                  refine lv_iinc (v := nI (2)) (lv' := [(1, .int (nI (2))), (3, va_rf (opA ad (heirS N F (N 12) 3))), (2, .int (nI (3))), (0, .ref (ad 0 0))]) X.1 X.2.1 dX6_awardPrizes_74 hl (k := 2) rfl (nI_add (1) 1) (by decide) rfl (fun ls hl => ?_)
                  refine lv_iinc (v := nI (4)) (lv' := [(2, .int (nI (4))), (1, .int (nI (2))), (3, va_rf (opA ad (heirS N F (N 12) 3))), (0, .ref (ad 0 0))]) X.1 X.2.1 dX6_awardPrizes_77 hl (k := 2) rfl (nI_add (3) 1) (by decide) rfl (fun ls hl => ?_)
                  refine lv_goto (tgt := 4) X.1 X.2.1 dX6_awardPrizes_80 (by decide) ?_
                  refine lv_iload_n X.1 X.2.1 dX6_awardPrizes_4 rfl (lv_at hl 0 rfl) ?_
                  refine lv_iconst (v := nI (3)) X.1 X.2.1 dX6_awardPrizes_5 (by decide) ?_
                  refine b_icmp_gt (tgt := 83) X dX6_awardPrizes_6 (by decide) (a := ((4 : Nat) : Int)) (b := ((3 : Nat) : Int)) (nI_ti (by omega)) (nI_ti (by omega)) (fun c33 => ?_) (fun c33 => ?_)
                  · skip
                    refine lv_iload_n X.1 X.2.1 dX6_awardPrizes_83 rfl (lv_at hl 1 rfl) ?_
                    exact m_iret X hr hlocks hM dX6_awardPrizes_84 ⟨Nat.le_of_ble_eq_true rfl, Nat.le_of_ble_eq_true rfl⟩ (⟨by rw [sw], ad, (set1 (set1 (sE (set1 (set1 (sE E (N 13) 0) 0 6 (N 13 + 1)) 0 (13) (N 13 + 1)) ((N 13 + 1)) 0) 0 6 ((N 13 + 1) + 1)) 0 (13) ((N 13 + 1) + 1)), hx, by rw [sw]; exact R, by rw [sw]; exact hE, rfl⟩)
                  · skip
                    exact absurd c33 (by first | decide | omega)
    · skip
      refine lv_topv (y := .ref (ad 1 (heirS N F (N 12) 1 - 1))) (by unfold opA; rw [if_neg cz2]; rfl) ?_
      refine lv_ifnull X.1 X.2.1 dX6_awardPrizes_23 ?_
      refine lv_aload_n X.1 X.2.1 dX6_awardPrizes_26 rfl (lv_at hl 3 rfl) ?_
      refine mg_get X hM (ci := 7) (k := 7) rfl kwX6 (by decide) kf_X6_258 dX6_awardPrizes_27 (R.1 0 (0) rfl) (v := .int (nI (N 13))) rfl ?_
      refine lv_aload_n X.1 X.2.1 dX6_awardPrizes_30 rfl (lv_at hl 3 rfl) ?_
      refine mg_get X hM (ci := 7) (k := 3) rfl kwX6 (by decide) kf_X6_29 dX6_awardPrizes_31 (R.1 0 (0) rfl) (v := .ref (ad 13 0)) rfl ?_
      refine mg_alen X hM 6 rfl dX6_awardPrizes_34 (R.1 13 (0) rfl) ?_
      refine b_icmp_ge (tgt := 77) X dX6_awardPrizes_35 (by decide) (a := ((N 13 : Nat) : Int)) (b := ((36 : Nat) : Int)) (nI_ti (by omega)) (nI_ti (by omega)) (fun c34 => ?_) (fun c34 => ?_)
      · skip
        exact absurd c34 (by omega)
      · skip
        refine lv_aload_n X.1 X.2.1 dX6_awardPrizes_38 rfl (lv_at hl 3 rfl) ?_
        refine mg_get X hM (ci := 7) (k := 3) rfl kwX6 (by decide) kf_X6_29 dX6_awardPrizes_39 (R.1 0 (0) rfl) (v := .ref (ad 13 0)) rfl ?_
        refine lv_aload_n X.1 X.2.1 dX6_awardPrizes_42 rfl (lv_at hl 3 rfl) ?_
        refine mg_get X hM (ci := 7) (k := 7) rfl kwX6 (by decide) kf_X6_258 dX6_awardPrizes_43 (R.1 0 (0) rfl) (v := .int (nI (N 13))) rfl ?_
        refine mg_new X hM (ci := 6) tyX5 tyX5_ok rfl kwX5 kcl_X6_27 kinst_X5 kini_X5 (fs := [.int (0), .null, .int (0), .null, .int (0), .null, .null, .null, .null, .int (0)]) (by decide) dX6_awardPrizes_46 (Nat.le_of_ble_eq_true rfl) (Nat.le_of_ble_eq_true rfl) (fun a35 H hn36 hM => ?_)
        have hq37 := R.new hn36
        obtain ⟨M, hc38, hM, R⟩ : ∃ M2, M2 a35 = some (.inr (6, [.int (0), .null, .int (0), .null, .int (0), .null, .null, .null, .null, .int (0)])) ∧ mW G A s.heap M2 H locs ∧ RC G ad N F B E P Q M2 := ⟨_, mU_eq _ _ _, hM, R.off hq37 _⟩
        refine lv_dup X.1 X.2.1 dX6_awardPrizes_49 rfl ?_
        refine lv_aload_n X.1 X.2.1 dX6_awardPrizes_50 rfl (lv_at hl 3 rfl) ?_
        refine mg_get X hM (ci := 7) (k := 7) rfl kwX6 (by decide) kf_X6_258 dX6_awardPrizes_51 (R.1 0 (0) rfl) (v := .int (nI (N 13))) rfl ?_
        refine lv_aload_n X.1 X.2.1 dX6_awardPrizes_54 rfl (lv_at hl 3 rfl) ?_
        refine mg_get X hM (ci := 7) (k := 9) rfl kwX6 (by decide) kf_X6_43 dX6_awardPrizes_55 (R.1 0 (0) rfl) (v := .ref (ad 3 (N 12))) rfl ?_
        refine lv_iload_n X.1 X.2.1 dX6_awardPrizes_58 rfl (lv_at hl 1 rfl) ?_
        refine lw_aload_n X.1 X.2.1 dX6_awardPrizes_59 rfl (lv_at hl 0 rfl) ?_
        refine lv_topv (y := .ref (ad 1 (heirS N F (N 12) 1 - 1))) (by unfold opA; rw [if_neg cz2]; rfl) ?_
        refine m_callIN X hM ckN_X6_261 ki_X5_init rfl dX6_awardPrizes_60 (b := a35) (As := [.int (nI (N 13)), .ref (ad 3 (N 12)), .int (nI (1)), .ref (ad 1 (heirS N F (N 12) 1 - 1))]) (c_X5_init l G _ a35 (N 13) (ad 3 (N 12)) 1 (ad 1 (heirS N F (N 12) 1 - 1)) hc38) rfl hl rfl (Nat.le_of_ble_eq_true rfl) ⟨Nat.le_of_ble_eq_true rfl, Nat.le_of_ble_eq_true rfl⟩ ⟨Nat.le_of_ble_eq_true rfl, Nat.le_of_ble_eq_true rfl⟩ ?_
        rintro _ _ H locs ⟨rfl, a39, ha40, rfl⟩ hM
        obtain ⟨ad, M, h0, hop, h13, ea, hM, R⟩ : ∃ (ad2 : Nat → Nat → Nat) (M2 : Mem), ad 0 = ad2 0 ∧ opA ad = opA ad2 ∧ ad 13 = ad2 13 ∧ a35 = ad2 6 (N 13) ∧ mW G A s.heap M2 H locs ∧ RC G ad2 N (awF F (N 13) (N 12) 1 (heirS N F (N 12) 1)) B (set1 (sE E (N 13) 0) 0 6 (N 13 + 1)) P Q M2 := ⟨set1 (set1 ad 6 (N 13) a35) 7 (N 13) a39, _, rfl, rfl, rfl, by simp [set1, va_up], hM, R.skin (s := N 12) (pl := 1) (h := heirS N F (N 12) 1) e6 e13 (fun z => absurd z (by assumption)) (hJ.2.2 _ (by omega)) hq37 hc38 ha40⟩
        have hx : ad 0 0 = x := (congrFun h0 0).symm.trans hx
        have hl : lv_has ls 4 [(3, va_rf (opA ad (heirS N F (N 12) 1))), (2, .int (nI (1))), (1, .int (nI (0))), (0, .ref (ad 0 0))] := by rw [h0, hop] at hl; exact hl
        rw [ea, h13]
        refine mx_aast X hM 6 (ci := 6) rfl rfl dX6_awardPrizes_63 (R.1 13 (0) rfl) (R.1 6 (N 13) (show N 13 < N 13 + 1 by omega)) (i := N 13) (by omega) (by decide) (fun H locs hM => ?_)
        obtain ⟨M, hM, R⟩ : ∃ M2, mW G A s.heap M2 H locs ∧ RC G ad N (awF F (N 13) (N 12) 1 (heirS N F (N 12) 1)) B (set1 (set1 (sE E (N 13) 0) 0 6 (N 13 + 1)) 0 (13) (N 13 + 1)) P Q M2 := ⟨_, hM, R.rowSkc (n := N 13) (by first | rfl | exact e13)⟩
        refine lv_aload_n X.1 X.2.1 dX6_awardPrizes_64 rfl (lv_at hl 3 rfl) ?_
        refine lv_dup X.1 X.2.1 dX6_awardPrizes_65 rfl ?_
        refine mg_get X hM (ci := 7) (k := 7) rfl kwX6 (by decide) kf_X6_258 dX6_awardPrizes_66 (R.1 0 (0) rfl) (v := .int (nI (N 13))) (by first | rfl | simp [set1, va_up, upd]) ?_
        refine lv_iconst (v := nI (1)) X.1 X.2.1 dX6_awardPrizes_69 (by decide) ?_
        refine lv_iadd X.1 X.2.1 dX6_awardPrizes_70 ?_
        refine lv_top (y := nI (N 13 + 1)) (nI_add _ _) ?_
        refine mg_put X hM tyX6 tyX6_ok nmX6 (ci := 7) (k := 7) rfl kwX6 (by decide) kf_X6_258 rfl dX6_awardPrizes_71 (R.1 0 (0) rfl) rfl rfl (Nat.le_of_ble_eq_true rfl) (fun H locs hM => ?_)
        obtain ⟨M, hM, R⟩ : ∃ M2, mW G A s.heap M2 H locs ∧ RC G ad (va_up N 13 (N 13 + 1)) (awF F (N 13) (N 12) 1 (heirS N F (N 12) 1)) B (set1 (set1 (sE E (N 13) 0) 0 6 (N 13 + 1)) 0 (13) (N 13 + 1)) P Q M2 := ⟨_, hM, R.nSk (N 13 + 1)⟩
        have hE : NrE (va_up N 13 (N 13 + 1)) (awF F (N 13) (N 12) 1 (heirS N F (N 12) 1)) (set1 (set1 (sE E (N 13) 0) 0 6 (N 13 + 1)) 0 (13) (N 13 + 1)) := by have h9 := NrE.aw hE (n := N 13) rfl (N 12) 1 (heirS N F (N 12) 1); exact h9
        obtain ⟨⟨_, _, _, _, _, _, e6, e13⟩, _, _, _⟩ := id hE
        have sw : awS N F 1 = (0 + 1, (awF F (N 13) (N 12) 1 (heirS N F (N 12) 1))) := aw1_t sw (by assumption)
        refine lv_iinc (v := nI (1)) (lv' := [(1, .int (nI (1))), (3, va_rf (opA ad (heirS N F (N 12) 1))), (2, .int (nI (1))), (0, .ref (ad 0 0))]) X.1 X.2.1 dX6_awardPrizes_74 hl (k := 2) rfl (nI_add (0) 1) (by decide) rfl (fun ls hl => ?_)
        refine lv_iinc (v := nI (2)) (lv' := [(2, .int (nI (2))), (1, .int (nI (1))), (3, va_rf (opA ad (heirS N F (N 12) 1))), (0, .ref (ad 0 0))]) X.1 X.2.1 dX6_awardPrizes_77 hl (k := 2) rfl (nI_add (1) 1) (by decide) rfl (fun ls hl => ?_)
        refine lv_goto (tgt := 4) X.1 X.2.1 dX6_awardPrizes_80 (by decide) ?_
        refine lv_iload_n X.1 X.2.1 dX6_awardPrizes_4 rfl (lv_at hl 0 rfl) ?_
        refine lv_iconst (v := nI (3)) X.1 X.2.1 dX6_awardPrizes_5 (by decide) ?_
        refine b_icmp_gt (tgt := 83) X dX6_awardPrizes_6 (by decide) (a := ((2 : Nat) : Int)) (b := ((3 : Nat) : Int)) (nI_ti (by omega)) (nI_ti (by omega)) (fun c41 => ?_) (fun c41 => ?_)
        · skip
          exact absurd c41 (by first | decide | omega)
        · skip
          refine lv_aload_n X.1 X.2.1 dX6_awardPrizes_9 rfl (lv_at hl 3 rfl) ?_
          refine lv_aload_n X.1 X.2.1 dX6_awardPrizes_10 rfl (lv_at hl 3 rfl) ?_
          refine mg_get X hM (ci := 7) (k := 9) rfl kwX6 (by decide) kf_X6_43 dX6_awardPrizes_11 (R.1 0 (0) rfl) (v := .ref (ad 3 (N 12))) (by first | rfl | simp [set1, va_up, upd]) ?_
          refine lv_iload_n X.1 X.2.1 dX6_awardPrizes_14 rfl (lv_at hl 0 rfl) ?_
          refine m_callVN X hM ckN_X6_255 ki_X4_playerOn ks_X4_playerOn (ci := 5) rfl dX6_awardPrizes_15 (As := [.int (nI (2))]) (c_X4_playerOn l G ad (va_up N 13 (N 13 + 1)) (awF F (N 13) (N 12) 1 (heirS N F (N 12) 1)) B (set1 (set1 (sE E (N 13) 0) 0 6 (N 13 + 1)) 0 (13) (N 13 + 1)) P Q _ R (N 12) 2 (show _ < E 0 3 by omega) hb (by decide)) (R.1 3 (N 12) (show N 12 < E 0 3 by omega)) rfl hl rfl (Nat.le_of_ble_eq_true rfl) ⟨Nat.le_of_ble_eq_true rfl, Nat.le_of_ble_eq_true rfl⟩ ⟨Nat.le_of_ble_eq_true rfl, Nat.le_of_ble_eq_true rfl⟩ ?_
          rintro _ _ H locs ⟨rfl, rfl⟩ hM
          refine lv_top (y := nI (heirS N F (N 12) 2) - 1) (by rw [pos_heir hI (fun p hp => hP (N 12) p (by omega) hp) (by decide)]) ?_
          have hh2 := heirS_le N F (N 12) 2
          refine m_callV X hM ck_X6_242 ki_X6_findPlayer ks_X6_findPlayer (ci := 7) rfl dX6_awardPrizes_18 (As := [.int (nI (heirS N F (N 12) 2) - 1)]) (c_X6_findPlayer2 l G ad (va_up N 13 (N 13 + 1)) (awF F (N 13) (N 12) 1 (heirS N F (N 12) 1)) B (set1 (set1 (sE E (N 13) 0) 0 6 (N 13 + 1)) 0 (13) (N 13 + 1)) P Q _ R (heirS N F (N 12) 2) (show E 0 10 ≤ 16 by omega) (show _ ≤ E 0 10 by omega)) (R.1 0 (0) rfl) rfl hl rfl (Nat.le_of_ble_eq_true rfl) ⟨Nat.le_of_ble_eq_true rfl, Nat.le_of_ble_eq_true rfl⟩ ⟨Nat.le_of_ble_eq_true rfl, Nat.le_of_ble_eq_true rfl⟩ ?_
          rintro _ _ H locs ⟨rfl, rfl⟩ hM
          refine lw_astore_n (lv' := [(3, va_rf (opA ad (heirS N F (N 12) 2))), (2, .int (nI (2))), (1, .int (nI (1))), (0, .ref (ad 0 0))]) X.1 X.2.1 dX6_awardPrizes_21 rfl hl (by decide) rfl (fun ls hl => ?_)
          refine lw_aload_n X.1 X.2.1 dX6_awardPrizes_22 rfl (lv_at hl 0 rfl) ?_
          by_cases cz42 : heirS N F (N 12) 2 = 0
          · skip
            refine lv_topv (y := .null) (by unfold opA; rw [if_pos cz42]; rfl) ?_
            refine lv_ifnullN (tgt := 77) X.1 X.2.1 dX6_awardPrizes_23 (by decide) ?_
            have sw : awS N F 2 = (1, (awF F (N 13) (N 12) 1 (heirS N F (N 12) 1))) := aw1_f sw (by assumption)
            refine lv_iinc (v := nI (3)) (lv' := [(2, .int (nI (3))), (3, va_rf (opA ad (heirS N F (N 12) 2))), (1, .int (nI (1))), (0, .ref (ad 0 0))]) X.1 X.2.1 dX6_awardPrizes_77 hl (k := 1) rfl (nI_add (2) 1) (by decide) rfl (fun ls hl => ?_)
            refine lv_goto (tgt := 4) X.1 X.2.1 dX6_awardPrizes_80 (by decide) ?_
            refine lv_iload_n X.1 X.2.1 dX6_awardPrizes_4 rfl (lv_at hl 0 rfl) ?_
            refine lv_iconst (v := nI (3)) X.1 X.2.1 dX6_awardPrizes_5 (by decide) ?_
            refine b_icmp_gt (tgt := 83) X dX6_awardPrizes_6 (by decide) (a := ((3 : Nat) : Int)) (b := ((3 : Nat) : Int)) (nI_ti (by omega)) (nI_ti (by omega)) (fun c43 => ?_) (fun c43 => ?_)
            · skip
              exact absurd c43 (by first | decide | omega)
            · skip
              refine lv_aload_n X.1 X.2.1 dX6_awardPrizes_9 rfl (lv_at hl 3 rfl) ?_
              refine lv_aload_n X.1 X.2.1 dX6_awardPrizes_10 rfl (lv_at hl 3 rfl) ?_
              refine mg_get X hM (ci := 7) (k := 9) rfl kwX6 (by decide) kf_X6_43 dX6_awardPrizes_11 (R.1 0 (0) rfl) (v := .ref (ad 3 (N 12))) (by first | rfl | simp [set1, va_up, upd]) ?_
              refine lv_iload_n X.1 X.2.1 dX6_awardPrizes_14 rfl (lv_at hl 0 rfl) ?_
              refine m_callVN X hM ckN_X6_255 ki_X4_playerOn ks_X4_playerOn (ci := 5) rfl dX6_awardPrizes_15 (As := [.int (nI (3))]) (c_X4_playerOn l G ad (va_up N 13 (N 13 + 1)) (awF F (N 13) (N 12) 1 (heirS N F (N 12) 1)) B (set1 (set1 (sE E (N 13) 0) 0 6 (N 13 + 1)) 0 (13) (N 13 + 1)) P Q _ R (N 12) 3 (show _ < E 0 3 by omega) hb (by decide)) (R.1 3 (N 12) (show N 12 < E 0 3 by omega)) rfl hl rfl (Nat.le_of_ble_eq_true rfl) ⟨Nat.le_of_ble_eq_true rfl, Nat.le_of_ble_eq_true rfl⟩ ⟨Nat.le_of_ble_eq_true rfl, Nat.le_of_ble_eq_true rfl⟩ ?_
              rintro _ _ H locs ⟨rfl, rfl⟩ hM
              refine lv_top (y := nI (heirS N F (N 12) 3) - 1) (by rw [pos_heir hI (fun p hp => hP (N 12) p (by omega) hp) (by decide)]) ?_
              have hh3 := heirS_le N F (N 12) 3
              refine m_callV X hM ck_X6_242 ki_X6_findPlayer ks_X6_findPlayer (ci := 7) rfl dX6_awardPrizes_18 (As := [.int (nI (heirS N F (N 12) 3) - 1)]) (c_X6_findPlayer2 l G ad (va_up N 13 (N 13 + 1)) (awF F (N 13) (N 12) 1 (heirS N F (N 12) 1)) B (set1 (set1 (sE E (N 13) 0) 0 6 (N 13 + 1)) 0 (13) (N 13 + 1)) P Q _ R (heirS N F (N 12) 3) (show E 0 10 ≤ 16 by omega) (show _ ≤ E 0 10 by omega)) (R.1 0 (0) rfl) rfl hl rfl (Nat.le_of_ble_eq_true rfl) ⟨Nat.le_of_ble_eq_true rfl, Nat.le_of_ble_eq_true rfl⟩ ⟨Nat.le_of_ble_eq_true rfl, Nat.le_of_ble_eq_true rfl⟩ ?_
              rintro _ _ H locs ⟨rfl, rfl⟩ hM
              refine lw_astore_n (lv' := [(3, va_rf (opA ad (heirS N F (N 12) 3))), (2, .int (nI (3))), (1, .int (nI (1))), (0, .ref (ad 0 0))]) X.1 X.2.1 dX6_awardPrizes_21 rfl hl (by decide) rfl (fun ls hl => ?_)
              refine lw_aload_n X.1 X.2.1 dX6_awardPrizes_22 rfl (lv_at hl 0 rfl) ?_
              by_cases cz44 : heirS N F (N 12) 3 = 0
              · skip
                refine lv_topv (y := .null) (by unfold opA; rw [if_pos cz44]; rfl) ?_
                refine lv_ifnullN (tgt := 77) X.1 X.2.1 dX6_awardPrizes_23 (by decide) ?_
                have sw : awS N F 3 = (1, (awF F (N 13) (N 12) 1 (heirS N F (N 12) 1))) := aw1_f sw (by assumption)
                refine lv_iinc (v := nI (4)) (lv' := [(2, .int (nI (4))), (3, va_rf (opA ad (heirS N F (N 12) 3))), (1, .int (nI (1))), (0, .ref (ad 0 0))]) X.1 X.2.1 dX6_awardPrizes_77 hl (k := 1) rfl (nI_add (3) 1) (by decide) rfl (fun ls hl => ?_)
                refine lv_goto (tgt := 4) X.1 X.2.1 dX6_awardPrizes_80 (by decide) ?_
                refine lv_iload_n X.1 X.2.1 dX6_awardPrizes_4 rfl (lv_at hl 0 rfl) ?_
                refine lv_iconst (v := nI (3)) X.1 X.2.1 dX6_awardPrizes_5 (by decide) ?_
                refine b_icmp_gt (tgt := 83) X dX6_awardPrizes_6 (by decide) (a := ((4 : Nat) : Int)) (b := ((3 : Nat) : Int)) (nI_ti (by omega)) (nI_ti (by omega)) (fun c45 => ?_) (fun c45 => ?_)
                · skip
                  refine lv_iload_n X.1 X.2.1 dX6_awardPrizes_83 rfl (lv_at hl 2 rfl) ?_
                  exact m_iret X hr hlocks hM dX6_awardPrizes_84 ⟨Nat.le_of_ble_eq_true rfl, Nat.le_of_ble_eq_true rfl⟩ (⟨by rw [sw], ad, (set1 (set1 (sE E (N 13) 0) 0 6 (N 13 + 1)) 0 (13) (N 13 + 1)), hx, by rw [sw]; exact R, by rw [sw]; exact hE, rfl⟩)
                · skip
                  exact absurd c45 (by first | decide | omega)
              · skip
                refine lv_topv (y := .ref (ad 1 (heirS N F (N 12) 3 - 1))) (by unfold opA; rw [if_neg cz44]; rfl) ?_
                refine lv_ifnull X.1 X.2.1 dX6_awardPrizes_23 ?_
                refine lv_aload_n X.1 X.2.1 dX6_awardPrizes_26 rfl (lv_at hl 3 rfl) ?_
                refine mg_get X hM (ci := 7) (k := 7) rfl kwX6 (by decide) kf_X6_258 dX6_awardPrizes_27 (R.1 0 (0) rfl) (v := .int (nI ((N 13 + 1)))) (by first | rfl | simp [set1, va_up, upd]) ?_
                refine lv_aload_n X.1 X.2.1 dX6_awardPrizes_30 rfl (lv_at hl 3 rfl) ?_
                refine mg_get X hM (ci := 7) (k := 3) rfl kwX6 (by decide) kf_X6_29 dX6_awardPrizes_31 (R.1 0 (0) rfl) (v := .ref (ad 13 0)) (by first | rfl | simp [set1, va_up, upd]) ?_
                refine mg_alen X hM 6 rfl dX6_awardPrizes_34 (R.1 13 (0) rfl) ?_
                refine b_icmp_ge (tgt := 77) X dX6_awardPrizes_35 (by decide) (a := (((N 13 + 1) : Nat) : Int)) (b := ((36 : Nat) : Int)) (nI_ti (by omega)) (nI_ti (by omega)) (fun c46 => ?_) (fun c46 => ?_)
                · skip
                  exact absurd c46 (by omega)
                · skip
                  refine lv_aload_n X.1 X.2.1 dX6_awardPrizes_38 rfl (lv_at hl 3 rfl) ?_
                  refine mg_get X hM (ci := 7) (k := 3) rfl kwX6 (by decide) kf_X6_29 dX6_awardPrizes_39 (R.1 0 (0) rfl) (v := .ref (ad 13 0)) (by first | rfl | simp [set1, va_up, upd]) ?_
                  refine lv_aload_n X.1 X.2.1 dX6_awardPrizes_42 rfl (lv_at hl 3 rfl) ?_
                  refine mg_get X hM (ci := 7) (k := 7) rfl kwX6 (by decide) kf_X6_258 dX6_awardPrizes_43 (R.1 0 (0) rfl) (v := .int (nI ((N 13 + 1)))) (by first | rfl | simp [set1, va_up, upd]) ?_
                  refine mg_new X hM (ci := 6) tyX5 tyX5_ok rfl kwX5 kcl_X6_27 kinst_X5 kini_X5 (fs := [.int (0), .null, .int (0), .null, .int (0), .null, .null, .null, .null, .int (0)]) (by decide) dX6_awardPrizes_46 (Nat.le_of_ble_eq_true rfl) (Nat.le_of_ble_eq_true rfl) (fun a47 H hn48 hM => ?_)
                  have hq49 := R.new hn48
                  obtain ⟨M, hc50, hM, R⟩ : ∃ M2, M2 a47 = some (.inr (6, [.int (0), .null, .int (0), .null, .int (0), .null, .null, .null, .null, .int (0)])) ∧ mW G A s.heap M2 H locs ∧ RC G ad (va_up N 13 (N 13 + 1)) (awF F (N 13) (N 12) 1 (heirS N F (N 12) 1)) B (set1 (set1 (sE E (N 13) 0) 0 6 (N 13 + 1)) 0 (13) (N 13 + 1)) P Q M2 := ⟨_, mU_eq _ _ _, hM, R.off hq49 _⟩
                  refine lv_dup X.1 X.2.1 dX6_awardPrizes_49 rfl ?_
                  refine lv_aload_n X.1 X.2.1 dX6_awardPrizes_50 rfl (lv_at hl 3 rfl) ?_
                  refine mg_get X hM (ci := 7) (k := 7) rfl kwX6 (by decide) kf_X6_258 dX6_awardPrizes_51 (R.1 0 (0) rfl) (v := .int (nI ((N 13 + 1)))) (by first | rfl | simp [set1, va_up, upd]) ?_
                  refine lv_aload_n X.1 X.2.1 dX6_awardPrizes_54 rfl (lv_at hl 3 rfl) ?_
                  refine mg_get X hM (ci := 7) (k := 9) rfl kwX6 (by decide) kf_X6_43 dX6_awardPrizes_55 (R.1 0 (0) rfl) (v := .ref (ad 3 (N 12))) (by first | rfl | simp [set1, va_up, upd]) ?_
                  refine lv_iload_n X.1 X.2.1 dX6_awardPrizes_58 rfl (lv_at hl 1 rfl) ?_
                  refine lw_aload_n X.1 X.2.1 dX6_awardPrizes_59 rfl (lv_at hl 0 rfl) ?_
                  refine lv_topv (y := .ref (ad 1 (heirS N F (N 12) 3 - 1))) (by unfold opA; rw [if_neg cz44]; rfl) ?_
                  refine m_callIN X hM ckN_X6_261 ki_X5_init rfl dX6_awardPrizes_60 (b := a47) (As := [.int (nI ((N 13 + 1))), .ref (ad 3 (N 12)), .int (nI (3)), .ref (ad 1 (heirS N F (N 12) 3 - 1))]) (c_X5_init l G _ a47 ((N 13 + 1)) (ad 3 (N 12)) 3 (ad 1 (heirS N F (N 12) 3 - 1)) hc50) rfl hl rfl (Nat.le_of_ble_eq_true rfl) ⟨Nat.le_of_ble_eq_true rfl, Nat.le_of_ble_eq_true rfl⟩ ⟨Nat.le_of_ble_eq_true rfl, Nat.le_of_ble_eq_true rfl⟩ ?_
                  rintro _ _ H locs ⟨rfl, a51, ha52, rfl⟩ hM
                  obtain ⟨ad, M, h0, hop, h13, ea, hM, R⟩ : ∃ (ad2 : Nat → Nat → Nat) (M2 : Mem), ad 0 = ad2 0 ∧ opA ad = opA ad2 ∧ ad 13 = ad2 13 ∧ a47 = ad2 6 ((N 13 + 1)) ∧ mW G A s.heap M2 H locs ∧ RC G ad2 (va_up N 13 (N 13 + 1)) (awF (awF F (N 13) (N 12) 1 (heirS N F (N 12) 1)) ((N 13 + 1)) (N 12) 3 (heirS N F (N 12) 3)) B (set1 (sE (set1 (set1 (sE E (N 13) 0) 0 6 (N 13 + 1)) 0 (13) (N 13 + 1)) ((N 13 + 1)) 0) 0 6 ((N 13 + 1) + 1)) P Q M2 := ⟨set1 (set1 ad 6 ((N 13 + 1)) a47) 7 ((N 13 + 1)) a51, _, rfl, rfl, rfl, by simp [set1, va_up], hM, R.skin (s := N 12) (pl := 3) (h := heirS N F (N 12) 3) e6 e13 (fun z => absurd z (by assumption)) (hJ.2.2 _ (by omega)) hq49 hc50 ha52⟩
                  have hx : ad 0 0 = x := (congrFun h0 0).symm.trans hx
                  have hl : lv_has ls 4 [(3, va_rf (opA ad (heirS N F (N 12) 3))), (2, .int (nI (3))), (1, .int (nI (1))), (0, .ref (ad 0 0))] := by rw [h0, hop] at hl; exact hl
                  rw [ea, h13]
                  refine mx_aast X hM 6 (ci := 6) rfl rfl dX6_awardPrizes_63 (R.1 13 (0) rfl) (R.1 6 ((N 13 + 1)) (show (N 13 + 1) < (N 13 + 1) + 1 by omega)) (i := (N 13 + 1)) (by omega) (by decide) (fun H locs hM => ?_)
                  obtain ⟨M, hM, R⟩ : ∃ M2, mW G A s.heap M2 H locs ∧ RC G ad (va_up N 13 (N 13 + 1)) (awF (awF F (N 13) (N 12) 1 (heirS N F (N 12) 1)) ((N 13 + 1)) (N 12) 3 (heirS N F (N 12) 3)) B (set1 (set1 (sE (set1 (set1 (sE E (N 13) 0) 0 6 (N 13 + 1)) 0 (13) (N 13 + 1)) ((N 13 + 1)) 0) 0 6 ((N 13 + 1) + 1)) 0 (13) ((N 13 + 1) + 1)) P Q M2 := ⟨_, hM, R.rowSkc (n := (N 13 + 1)) (by first | rfl | exact e13)⟩
                  refine lv_aload_n X.1 X.2.1 dX6_awardPrizes_64 rfl (lv_at hl 3 rfl) ?_
                  refine lv_dup X.1 X.2.1 dX6_awardPrizes_65 rfl ?_
                  refine mg_get X hM (ci := 7) (k := 7) rfl kwX6 (by decide) kf_X6_258 dX6_awardPrizes_66 (R.1 0 (0) rfl) (v := .int (nI ((N 13 + 1)))) (by first | rfl | simp [set1, va_up, upd]) ?_
                  refine lv_iconst (v := nI (1)) X.1 X.2.1 dX6_awardPrizes_69 (by decide) ?_
                  refine lv_iadd X.1 X.2.1 dX6_awardPrizes_70 ?_
                  refine lv_top (y := nI ((N 13 + 1) + 1)) (nI_add _ _) ?_
                  refine mg_put X hM tyX6 tyX6_ok nmX6 (ci := 7) (k := 7) rfl kwX6 (by decide) kf_X6_258 rfl dX6_awardPrizes_71 (R.1 0 (0) rfl) rfl rfl (Nat.le_of_ble_eq_true rfl) (fun H locs hM => ?_)
                  obtain ⟨M, hM, R⟩ : ∃ M2, mW G A s.heap M2 H locs ∧ RC G ad (va_up (va_up N 13 (N 13 + 1)) 13 ((N 13 + 1) + 1)) (awF (awF F (N 13) (N 12) 1 (heirS N F (N 12) 1)) ((N 13 + 1)) (N 12) 3 (heirS N F (N 12) 3)) B (set1 (set1 (sE (set1 (set1 (sE E (N 13) 0) 0 6 (N 13 + 1)) 0 (13) (N 13 + 1)) ((N 13 + 1)) 0) 0 6 ((N 13 + 1) + 1)) 0 (13) ((N 13 + 1) + 1)) P Q M2 := ⟨_, hM, R.nSk ((N 13 + 1) + 1)⟩
                  rw [va_up_up] at R
                  have hE : NrE (va_up N 13 ((N 13 + 1) + 1)) (awF (awF F (N 13) (N 12) 1 (heirS N F (N 12) 1)) ((N 13 + 1)) (N 12) 3 (heirS N F (N 12) 3)) (set1 (set1 (sE (set1 (set1 (sE E (N 13) 0) 0 6 (N 13 + 1)) 0 (13) (N 13 + 1)) ((N 13 + 1)) 0) 0 6 ((N 13 + 1) + 1)) 0 (13) ((N 13 + 1) + 1)) := by have h9 := NrE.aw hE (n := (N 13 + 1)) rfl (N 12) 3 (heirS N F (N 12) 3); rw [va_up_up] at h9; exact h9
                  obtain ⟨⟨_, _, _, _, _, _, e6, e13⟩, _, _, _⟩ := id hE
                  have sw : awS N F 3 = (1 + 1, (awF (awF F (N 13) (N 12) 1 (heirS N F (N 12) 1)) ((N 13 + 1)) (N 12) 3 (heirS N F (N 12) 3))) := aw1_t sw (by assumption)
                  refine lv_iinc (v := nI (2)) (lv' := [(1, .int (nI (2))), (3, va_rf (opA ad (heirS N F (N 12) 3))), (2, .int (nI (3))), (0, .ref (ad 0 0))]) X.1 X.2.1 dX6_awardPrizes_74 hl (k := 2) rfl (nI_add (1) 1) (by decide) rfl (fun ls hl => ?_)
                  refine lv_iinc (v := nI (4)) (lv' := [(2, .int (nI (4))), (1, .int (nI (2))), (3, va_rf (opA ad (heirS N F (N 12) 3))), (0, .ref (ad 0 0))]) X.1 X.2.1 dX6_awardPrizes_77 hl (k := 2) rfl (nI_add (3) 1) (by decide) rfl (fun ls hl => ?_)
                  refine lv_goto (tgt := 4) X.1 X.2.1 dX6_awardPrizes_80 (by decide) ?_
                  refine lv_iload_n X.1 X.2.1 dX6_awardPrizes_4 rfl (lv_at hl 0 rfl) ?_
                  refine lv_iconst (v := nI (3)) X.1 X.2.1 dX6_awardPrizes_5 (by decide) ?_
                  refine b_icmp_gt (tgt := 83) X dX6_awardPrizes_6 (by decide) (a := ((4 : Nat) : Int)) (b := ((3 : Nat) : Int)) (nI_ti (by omega)) (nI_ti (by omega)) (fun c53 => ?_) (fun c53 => ?_)
                  · skip
                    refine lv_iload_n X.1 X.2.1 dX6_awardPrizes_83 rfl (lv_at hl 1 rfl) ?_
                    exact m_iret X hr hlocks hM dX6_awardPrizes_84 ⟨Nat.le_of_ble_eq_true rfl, Nat.le_of_ble_eq_true rfl⟩ (⟨by rw [sw], ad, (set1 (set1 (sE (set1 (set1 (sE E (N 13) 0) 0 6 (N 13 + 1)) 0 (13) (N 13 + 1)) ((N 13 + 1)) 0) 0 6 ((N 13 + 1) + 1)) 0 (13) ((N 13 + 1) + 1)), hx, by rw [sw]; exact R, by rw [sw]; exact hE, rfl⟩)
                  · skip
                    exact absurd c53 (by first | decide | omega)
          · skip
            refine lv_topv (y := .ref (ad 1 (heirS N F (N 12) 2 - 1))) (by unfold opA; rw [if_neg cz42]; rfl) ?_
            refine lv_ifnull X.1 X.2.1 dX6_awardPrizes_23 ?_
            refine lv_aload_n X.1 X.2.1 dX6_awardPrizes_26 rfl (lv_at hl 3 rfl) ?_
            refine mg_get X hM (ci := 7) (k := 7) rfl kwX6 (by decide) kf_X6_258 dX6_awardPrizes_27 (R.1 0 (0) rfl) (v := .int (nI ((N 13 + 1)))) (by first | rfl | simp [set1, va_up, upd]) ?_
            refine lv_aload_n X.1 X.2.1 dX6_awardPrizes_30 rfl (lv_at hl 3 rfl) ?_
            refine mg_get X hM (ci := 7) (k := 3) rfl kwX6 (by decide) kf_X6_29 dX6_awardPrizes_31 (R.1 0 (0) rfl) (v := .ref (ad 13 0)) (by first | rfl | simp [set1, va_up, upd]) ?_
            refine mg_alen X hM 6 rfl dX6_awardPrizes_34 (R.1 13 (0) rfl) ?_
            refine b_icmp_ge (tgt := 77) X dX6_awardPrizes_35 (by decide) (a := (((N 13 + 1) : Nat) : Int)) (b := ((36 : Nat) : Int)) (nI_ti (by omega)) (nI_ti (by omega)) (fun c54 => ?_) (fun c54 => ?_)
            · skip
              exact absurd c54 (by omega)
            · skip
              refine lv_aload_n X.1 X.2.1 dX6_awardPrizes_38 rfl (lv_at hl 3 rfl) ?_
              refine mg_get X hM (ci := 7) (k := 3) rfl kwX6 (by decide) kf_X6_29 dX6_awardPrizes_39 (R.1 0 (0) rfl) (v := .ref (ad 13 0)) (by first | rfl | simp [set1, va_up, upd]) ?_
              refine lv_aload_n X.1 X.2.1 dX6_awardPrizes_42 rfl (lv_at hl 3 rfl) ?_
              refine mg_get X hM (ci := 7) (k := 7) rfl kwX6 (by decide) kf_X6_258 dX6_awardPrizes_43 (R.1 0 (0) rfl) (v := .int (nI ((N 13 + 1)))) (by first | rfl | simp [set1, va_up, upd]) ?_
              refine mg_new X hM (ci := 6) tyX5 tyX5_ok rfl kwX5 kcl_X6_27 kinst_X5 kini_X5 (fs := [.int (0), .null, .int (0), .null, .int (0), .null, .null, .null, .null, .int (0)]) (by decide) dX6_awardPrizes_46 (Nat.le_of_ble_eq_true rfl) (Nat.le_of_ble_eq_true rfl) (fun a55 H hn56 hM => ?_)
              have hq57 := R.new hn56
              obtain ⟨M, hc58, hM, R⟩ : ∃ M2, M2 a55 = some (.inr (6, [.int (0), .null, .int (0), .null, .int (0), .null, .null, .null, .null, .int (0)])) ∧ mW G A s.heap M2 H locs ∧ RC G ad (va_up N 13 (N 13 + 1)) (awF F (N 13) (N 12) 1 (heirS N F (N 12) 1)) B (set1 (set1 (sE E (N 13) 0) 0 6 (N 13 + 1)) 0 (13) (N 13 + 1)) P Q M2 := ⟨_, mU_eq _ _ _, hM, R.off hq57 _⟩
              refine lv_dup X.1 X.2.1 dX6_awardPrizes_49 rfl ?_
              refine lv_aload_n X.1 X.2.1 dX6_awardPrizes_50 rfl (lv_at hl 3 rfl) ?_
              refine mg_get X hM (ci := 7) (k := 7) rfl kwX6 (by decide) kf_X6_258 dX6_awardPrizes_51 (R.1 0 (0) rfl) (v := .int (nI ((N 13 + 1)))) (by first | rfl | simp [set1, va_up, upd]) ?_
              refine lv_aload_n X.1 X.2.1 dX6_awardPrizes_54 rfl (lv_at hl 3 rfl) ?_
              refine mg_get X hM (ci := 7) (k := 9) rfl kwX6 (by decide) kf_X6_43 dX6_awardPrizes_55 (R.1 0 (0) rfl) (v := .ref (ad 3 (N 12))) (by first | rfl | simp [set1, va_up, upd]) ?_
              refine lv_iload_n X.1 X.2.1 dX6_awardPrizes_58 rfl (lv_at hl 1 rfl) ?_
              refine lw_aload_n X.1 X.2.1 dX6_awardPrizes_59 rfl (lv_at hl 0 rfl) ?_
              refine lv_topv (y := .ref (ad 1 (heirS N F (N 12) 2 - 1))) (by unfold opA; rw [if_neg cz42]; rfl) ?_
              refine m_callIN X hM ckN_X6_261 ki_X5_init rfl dX6_awardPrizes_60 (b := a55) (As := [.int (nI ((N 13 + 1))), .ref (ad 3 (N 12)), .int (nI (2)), .ref (ad 1 (heirS N F (N 12) 2 - 1))]) (c_X5_init l G _ a55 ((N 13 + 1)) (ad 3 (N 12)) 2 (ad 1 (heirS N F (N 12) 2 - 1)) hc58) rfl hl rfl (Nat.le_of_ble_eq_true rfl) ⟨Nat.le_of_ble_eq_true rfl, Nat.le_of_ble_eq_true rfl⟩ ⟨Nat.le_of_ble_eq_true rfl, Nat.le_of_ble_eq_true rfl⟩ ?_
              rintro _ _ H locs ⟨rfl, a59, ha60, rfl⟩ hM
              obtain ⟨ad, M, h0, hop, h13, ea, hM, R⟩ : ∃ (ad2 : Nat → Nat → Nat) (M2 : Mem), ad 0 = ad2 0 ∧ opA ad = opA ad2 ∧ ad 13 = ad2 13 ∧ a55 = ad2 6 ((N 13 + 1)) ∧ mW G A s.heap M2 H locs ∧ RC G ad2 (va_up N 13 (N 13 + 1)) (awF (awF F (N 13) (N 12) 1 (heirS N F (N 12) 1)) ((N 13 + 1)) (N 12) 2 (heirS N F (N 12) 2)) B (set1 (sE (set1 (set1 (sE E (N 13) 0) 0 6 (N 13 + 1)) 0 (13) (N 13 + 1)) ((N 13 + 1)) 0) 0 6 ((N 13 + 1) + 1)) P Q M2 := ⟨set1 (set1 ad 6 ((N 13 + 1)) a55) 7 ((N 13 + 1)) a59, _, rfl, rfl, rfl, by simp [set1, va_up], hM, R.skin (s := N 12) (pl := 2) (h := heirS N F (N 12) 2) e6 e13 (fun z => absurd z (by assumption)) (hJ.2.2 _ (by omega)) hq57 hc58 ha60⟩
              have hx : ad 0 0 = x := (congrFun h0 0).symm.trans hx
              have hl : lv_has ls 4 [(3, va_rf (opA ad (heirS N F (N 12) 2))), (2, .int (nI (2))), (1, .int (nI (1))), (0, .ref (ad 0 0))] := by rw [h0, hop] at hl; exact hl
              rw [ea, h13]
              refine mx_aast X hM 6 (ci := 6) rfl rfl dX6_awardPrizes_63 (R.1 13 (0) rfl) (R.1 6 ((N 13 + 1)) (show (N 13 + 1) < (N 13 + 1) + 1 by omega)) (i := (N 13 + 1)) (by omega) (by decide) (fun H locs hM => ?_)
              obtain ⟨M, hM, R⟩ : ∃ M2, mW G A s.heap M2 H locs ∧ RC G ad (va_up N 13 (N 13 + 1)) (awF (awF F (N 13) (N 12) 1 (heirS N F (N 12) 1)) ((N 13 + 1)) (N 12) 2 (heirS N F (N 12) 2)) B (set1 (set1 (sE (set1 (set1 (sE E (N 13) 0) 0 6 (N 13 + 1)) 0 (13) (N 13 + 1)) ((N 13 + 1)) 0) 0 6 ((N 13 + 1) + 1)) 0 (13) ((N 13 + 1) + 1)) P Q M2 := ⟨_, hM, R.rowSkc (n := (N 13 + 1)) (by first | rfl | exact e13)⟩
              refine lv_aload_n X.1 X.2.1 dX6_awardPrizes_64 rfl (lv_at hl 3 rfl) ?_
              refine lv_dup X.1 X.2.1 dX6_awardPrizes_65 rfl ?_
              refine mg_get X hM (ci := 7) (k := 7) rfl kwX6 (by decide) kf_X6_258 dX6_awardPrizes_66 (R.1 0 (0) rfl) (v := .int (nI ((N 13 + 1)))) (by first | rfl | simp [set1, va_up, upd]) ?_
              refine lv_iconst (v := nI (1)) X.1 X.2.1 dX6_awardPrizes_69 (by decide) ?_
              refine lv_iadd X.1 X.2.1 dX6_awardPrizes_70 ?_
              refine lv_top (y := nI ((N 13 + 1) + 1)) (nI_add _ _) ?_
              refine mg_put X hM tyX6 tyX6_ok nmX6 (ci := 7) (k := 7) rfl kwX6 (by decide) kf_X6_258 rfl dX6_awardPrizes_71 (R.1 0 (0) rfl) rfl rfl (Nat.le_of_ble_eq_true rfl) (fun H locs hM => ?_)
              obtain ⟨M, hM, R⟩ : ∃ M2, mW G A s.heap M2 H locs ∧ RC G ad (va_up (va_up N 13 (N 13 + 1)) 13 ((N 13 + 1) + 1)) (awF (awF F (N 13) (N 12) 1 (heirS N F (N 12) 1)) ((N 13 + 1)) (N 12) 2 (heirS N F (N 12) 2)) B (set1 (set1 (sE (set1 (set1 (sE E (N 13) 0) 0 6 (N 13 + 1)) 0 (13) (N 13 + 1)) ((N 13 + 1)) 0) 0 6 ((N 13 + 1) + 1)) 0 (13) ((N 13 + 1) + 1)) P Q M2 := ⟨_, hM, R.nSk ((N 13 + 1) + 1)⟩
              rw [va_up_up] at R
              have hE : NrE (va_up N 13 ((N 13 + 1) + 1)) (awF (awF F (N 13) (N 12) 1 (heirS N F (N 12) 1)) ((N 13 + 1)) (N 12) 2 (heirS N F (N 12) 2)) (set1 (set1 (sE (set1 (set1 (sE E (N 13) 0) 0 6 (N 13 + 1)) 0 (13) (N 13 + 1)) ((N 13 + 1)) 0) 0 6 ((N 13 + 1) + 1)) 0 (13) ((N 13 + 1) + 1)) := by have h9 := NrE.aw hE (n := (N 13 + 1)) rfl (N 12) 2 (heirS N F (N 12) 2); rw [va_up_up] at h9; exact h9
              obtain ⟨⟨_, _, _, _, _, _, e6, e13⟩, _, _, _⟩ := id hE
              have sw : awS N F 2 = (1 + 1, (awF (awF F (N 13) (N 12) 1 (heirS N F (N 12) 1)) ((N 13 + 1)) (N 12) 2 (heirS N F (N 12) 2))) := aw1_t sw (by assumption)
              refine lv_iinc (v := nI (2)) (lv' := [(1, .int (nI (2))), (3, va_rf (opA ad (heirS N F (N 12) 2))), (2, .int (nI (2))), (0, .ref (ad 0 0))]) X.1 X.2.1 dX6_awardPrizes_74 hl (k := 2) rfl (nI_add (1) 1) (by decide) rfl (fun ls hl => ?_)
              refine lv_iinc (v := nI (3)) (lv' := [(2, .int (nI (3))), (1, .int (nI (2))), (3, va_rf (opA ad (heirS N F (N 12) 2))), (0, .ref (ad 0 0))]) X.1 X.2.1 dX6_awardPrizes_77 hl (k := 2) rfl (nI_add (2) 1) (by decide) rfl (fun ls hl => ?_)
              refine lv_goto (tgt := 4) X.1 X.2.1 dX6_awardPrizes_80 (by decide) ?_
              refine lv_iload_n X.1 X.2.1 dX6_awardPrizes_4 rfl (lv_at hl 0 rfl) ?_
              refine lv_iconst (v := nI (3)) X.1 X.2.1 dX6_awardPrizes_5 (by decide) ?_
              refine b_icmp_gt (tgt := 83) X dX6_awardPrizes_6 (by decide) (a := ((3 : Nat) : Int)) (b := ((3 : Nat) : Int)) (nI_ti (by omega)) (nI_ti (by omega)) (fun c61 => ?_) (fun c61 => ?_)
              · skip
                exact absurd c61 (by first | decide | omega)
              · skip
                refine lv_aload_n X.1 X.2.1 dX6_awardPrizes_9 rfl (lv_at hl 3 rfl) ?_
                refine lv_aload_n X.1 X.2.1 dX6_awardPrizes_10 rfl (lv_at hl 3 rfl) ?_
                refine mg_get X hM (ci := 7) (k := 9) rfl kwX6 (by decide) kf_X6_43 dX6_awardPrizes_11 (R.1 0 (0) rfl) (v := .ref (ad 3 (N 12))) (by first | rfl | simp [set1, va_up, upd]) ?_
                refine lv_iload_n X.1 X.2.1 dX6_awardPrizes_14 rfl (lv_at hl 0 rfl) ?_
                refine m_callVN X hM ckN_X6_255 ki_X4_playerOn ks_X4_playerOn (ci := 5) rfl dX6_awardPrizes_15 (As := [.int (nI (3))]) (c_X4_playerOn l G ad (va_up N 13 ((N 13 + 1) + 1)) (awF (awF F (N 13) (N 12) 1 (heirS N F (N 12) 1)) ((N 13 + 1)) (N 12) 2 (heirS N F (N 12) 2)) B (set1 (set1 (sE (set1 (set1 (sE E (N 13) 0) 0 6 (N 13 + 1)) 0 (13) (N 13 + 1)) ((N 13 + 1)) 0) 0 6 ((N 13 + 1) + 1)) 0 (13) ((N 13 + 1) + 1)) P Q _ R (N 12) 3 (show _ < E 0 3 by omega) hb (by decide)) (R.1 3 (N 12) (show N 12 < E 0 3 by omega)) rfl hl rfl (Nat.le_of_ble_eq_true rfl) ⟨Nat.le_of_ble_eq_true rfl, Nat.le_of_ble_eq_true rfl⟩ ⟨Nat.le_of_ble_eq_true rfl, Nat.le_of_ble_eq_true rfl⟩ ?_
                rintro _ _ H locs ⟨rfl, rfl⟩ hM
                refine lv_top (y := nI (heirS N F (N 12) 3) - 1) (by rw [pos_heir hI (fun p hp => hP (N 12) p (by omega) hp) (by decide)]) ?_
                have hh3 := heirS_le N F (N 12) 3
                refine m_callV X hM ck_X6_242 ki_X6_findPlayer ks_X6_findPlayer (ci := 7) rfl dX6_awardPrizes_18 (As := [.int (nI (heirS N F (N 12) 3) - 1)]) (c_X6_findPlayer2 l G ad (va_up N 13 ((N 13 + 1) + 1)) (awF (awF F (N 13) (N 12) 1 (heirS N F (N 12) 1)) ((N 13 + 1)) (N 12) 2 (heirS N F (N 12) 2)) B (set1 (set1 (sE (set1 (set1 (sE E (N 13) 0) 0 6 (N 13 + 1)) 0 (13) (N 13 + 1)) ((N 13 + 1)) 0) 0 6 ((N 13 + 1) + 1)) 0 (13) ((N 13 + 1) + 1)) P Q _ R (heirS N F (N 12) 3) (show E 0 10 ≤ 16 by omega) (show _ ≤ E 0 10 by omega)) (R.1 0 (0) rfl) rfl hl rfl (Nat.le_of_ble_eq_true rfl) ⟨Nat.le_of_ble_eq_true rfl, Nat.le_of_ble_eq_true rfl⟩ ⟨Nat.le_of_ble_eq_true rfl, Nat.le_of_ble_eq_true rfl⟩ ?_
                rintro _ _ H locs ⟨rfl, rfl⟩ hM
                refine lw_astore_n (lv' := [(3, va_rf (opA ad (heirS N F (N 12) 3))), (2, .int (nI (3))), (1, .int (nI (2))), (0, .ref (ad 0 0))]) X.1 X.2.1 dX6_awardPrizes_21 rfl hl (by decide) rfl (fun ls hl => ?_)
                refine lw_aload_n X.1 X.2.1 dX6_awardPrizes_22 rfl (lv_at hl 0 rfl) ?_
                by_cases cz62 : heirS N F (N 12) 3 = 0
                · skip
                  refine lv_topv (y := .null) (by unfold opA; rw [if_pos cz62]; rfl) ?_
                  refine lv_ifnullN (tgt := 77) X.1 X.2.1 dX6_awardPrizes_23 (by decide) ?_
                  have sw : awS N F 3 = (2, (awF (awF F (N 13) (N 12) 1 (heirS N F (N 12) 1)) ((N 13 + 1)) (N 12) 2 (heirS N F (N 12) 2))) := aw1_f sw (by assumption)
                  refine lv_iinc (v := nI (4)) (lv' := [(2, .int (nI (4))), (3, va_rf (opA ad (heirS N F (N 12) 3))), (1, .int (nI (2))), (0, .ref (ad 0 0))]) X.1 X.2.1 dX6_awardPrizes_77 hl (k := 1) rfl (nI_add (3) 1) (by decide) rfl (fun ls hl => ?_)
                  refine lv_goto (tgt := 4) X.1 X.2.1 dX6_awardPrizes_80 (by decide) ?_
                  refine lv_iload_n X.1 X.2.1 dX6_awardPrizes_4 rfl (lv_at hl 0 rfl) ?_
                  refine lv_iconst (v := nI (3)) X.1 X.2.1 dX6_awardPrizes_5 (by decide) ?_
                  refine b_icmp_gt (tgt := 83) X dX6_awardPrizes_6 (by decide) (a := ((4 : Nat) : Int)) (b := ((3 : Nat) : Int)) (nI_ti (by omega)) (nI_ti (by omega)) (fun c63 => ?_) (fun c63 => ?_)
                  · skip
                    refine lv_iload_n X.1 X.2.1 dX6_awardPrizes_83 rfl (lv_at hl 2 rfl) ?_
                    exact m_iret X hr hlocks hM dX6_awardPrizes_84 ⟨Nat.le_of_ble_eq_true rfl, Nat.le_of_ble_eq_true rfl⟩ (⟨by rw [sw], ad, (set1 (set1 (sE (set1 (set1 (sE E (N 13) 0) 0 6 (N 13 + 1)) 0 (13) (N 13 + 1)) ((N 13 + 1)) 0) 0 6 ((N 13 + 1) + 1)) 0 (13) ((N 13 + 1) + 1)), hx, by rw [sw]; exact R, by rw [sw]; exact hE, rfl⟩)
                  · skip
                    exact absurd c63 (by first | decide | omega)
                · skip
                  refine lv_topv (y := .ref (ad 1 (heirS N F (N 12) 3 - 1))) (by unfold opA; rw [if_neg cz62]; rfl) ?_
                  refine lv_ifnull X.1 X.2.1 dX6_awardPrizes_23 ?_
                  refine lv_aload_n X.1 X.2.1 dX6_awardPrizes_26 rfl (lv_at hl 3 rfl) ?_
                  refine mg_get X hM (ci := 7) (k := 7) rfl kwX6 (by decide) kf_X6_258 dX6_awardPrizes_27 (R.1 0 (0) rfl) (v := .int (nI (((N 13 + 1) + 1)))) (by first | rfl | simp [set1, va_up, upd]) ?_
                  refine lv_aload_n X.1 X.2.1 dX6_awardPrizes_30 rfl (lv_at hl 3 rfl) ?_
                  refine mg_get X hM (ci := 7) (k := 3) rfl kwX6 (by decide) kf_X6_29 dX6_awardPrizes_31 (R.1 0 (0) rfl) (v := .ref (ad 13 0)) (by first | rfl | simp [set1, va_up, upd]) ?_
                  refine mg_alen X hM 6 rfl dX6_awardPrizes_34 (R.1 13 (0) rfl) ?_
                  refine b_icmp_ge (tgt := 77) X dX6_awardPrizes_35 (by decide) (a := ((((N 13 + 1) + 1) : Nat) : Int)) (b := ((36 : Nat) : Int)) (nI_ti (by omega)) (nI_ti (by omega)) (fun c64 => ?_) (fun c64 => ?_)
                  · skip
                    exact absurd c64 (by omega)
                  · skip
                    refine lv_aload_n X.1 X.2.1 dX6_awardPrizes_38 rfl (lv_at hl 3 rfl) ?_
                    refine mg_get X hM (ci := 7) (k := 3) rfl kwX6 (by decide) kf_X6_29 dX6_awardPrizes_39 (R.1 0 (0) rfl) (v := .ref (ad 13 0)) (by first | rfl | simp [set1, va_up, upd]) ?_
                    refine lv_aload_n X.1 X.2.1 dX6_awardPrizes_42 rfl (lv_at hl 3 rfl) ?_
                    refine mg_get X hM (ci := 7) (k := 7) rfl kwX6 (by decide) kf_X6_258 dX6_awardPrizes_43 (R.1 0 (0) rfl) (v := .int (nI (((N 13 + 1) + 1)))) (by first | rfl | simp [set1, va_up, upd]) ?_
                    refine mg_new X hM (ci := 6) tyX5 tyX5_ok rfl kwX5 kcl_X6_27 kinst_X5 kini_X5 (fs := [.int (0), .null, .int (0), .null, .int (0), .null, .null, .null, .null, .int (0)]) (by decide) dX6_awardPrizes_46 (Nat.le_of_ble_eq_true rfl) (Nat.le_of_ble_eq_true rfl) (fun a65 H hn66 hM => ?_)
                    have hq67 := R.new hn66
                    obtain ⟨M, hc68, hM, R⟩ : ∃ M2, M2 a65 = some (.inr (6, [.int (0), .null, .int (0), .null, .int (0), .null, .null, .null, .null, .int (0)])) ∧ mW G A s.heap M2 H locs ∧ RC G ad (va_up N 13 ((N 13 + 1) + 1)) (awF (awF F (N 13) (N 12) 1 (heirS N F (N 12) 1)) ((N 13 + 1)) (N 12) 2 (heirS N F (N 12) 2)) B (set1 (set1 (sE (set1 (set1 (sE E (N 13) 0) 0 6 (N 13 + 1)) 0 (13) (N 13 + 1)) ((N 13 + 1)) 0) 0 6 ((N 13 + 1) + 1)) 0 (13) ((N 13 + 1) + 1)) P Q M2 := ⟨_, mU_eq _ _ _, hM, R.off hq67 _⟩
                    refine lv_dup X.1 X.2.1 dX6_awardPrizes_49 rfl ?_
                    refine lv_aload_n X.1 X.2.1 dX6_awardPrizes_50 rfl (lv_at hl 3 rfl) ?_
                    refine mg_get X hM (ci := 7) (k := 7) rfl kwX6 (by decide) kf_X6_258 dX6_awardPrizes_51 (R.1 0 (0) rfl) (v := .int (nI (((N 13 + 1) + 1)))) (by first | rfl | simp [set1, va_up, upd]) ?_
                    refine lv_aload_n X.1 X.2.1 dX6_awardPrizes_54 rfl (lv_at hl 3 rfl) ?_
                    refine mg_get X hM (ci := 7) (k := 9) rfl kwX6 (by decide) kf_X6_43 dX6_awardPrizes_55 (R.1 0 (0) rfl) (v := .ref (ad 3 (N 12))) (by first | rfl | simp [set1, va_up, upd]) ?_
                    refine lv_iload_n X.1 X.2.1 dX6_awardPrizes_58 rfl (lv_at hl 1 rfl) ?_
                    refine lw_aload_n X.1 X.2.1 dX6_awardPrizes_59 rfl (lv_at hl 0 rfl) ?_
                    refine lv_topv (y := .ref (ad 1 (heirS N F (N 12) 3 - 1))) (by unfold opA; rw [if_neg cz62]; rfl) ?_
                    refine m_callIN X hM ckN_X6_261 ki_X5_init rfl dX6_awardPrizes_60 (b := a65) (As := [.int (nI (((N 13 + 1) + 1))), .ref (ad 3 (N 12)), .int (nI (3)), .ref (ad 1 (heirS N F (N 12) 3 - 1))]) (c_X5_init l G _ a65 (((N 13 + 1) + 1)) (ad 3 (N 12)) 3 (ad 1 (heirS N F (N 12) 3 - 1)) hc68) rfl hl rfl (Nat.le_of_ble_eq_true rfl) ⟨Nat.le_of_ble_eq_true rfl, Nat.le_of_ble_eq_true rfl⟩ ⟨Nat.le_of_ble_eq_true rfl, Nat.le_of_ble_eq_true rfl⟩ ?_
                    rintro _ _ H locs ⟨rfl, a69, ha70, rfl⟩ hM
                    obtain ⟨ad, M, h0, hop, h13, ea, hM, R⟩ : ∃ (ad2 : Nat → Nat → Nat) (M2 : Mem), ad 0 = ad2 0 ∧ opA ad = opA ad2 ∧ ad 13 = ad2 13 ∧ a65 = ad2 6 (((N 13 + 1) + 1)) ∧ mW G A s.heap M2 H locs ∧ RC G ad2 (va_up N 13 ((N 13 + 1) + 1)) (awF (awF (awF F (N 13) (N 12) 1 (heirS N F (N 12) 1)) ((N 13 + 1)) (N 12) 2 (heirS N F (N 12) 2)) (((N 13 + 1) + 1)) (N 12) 3 (heirS N F (N 12) 3)) B (set1 (sE (set1 (set1 (sE (set1 (set1 (sE E (N 13) 0) 0 6 (N 13 + 1)) 0 (13) (N 13 + 1)) ((N 13 + 1)) 0) 0 6 ((N 13 + 1) + 1)) 0 (13) ((N 13 + 1) + 1)) (((N 13 + 1) + 1)) 0) 0 6 (((N 13 + 1) + 1) + 1)) P Q M2 := ⟨set1 (set1 ad 6 (((N 13 + 1) + 1)) a65) 7 (((N 13 + 1) + 1)) a69, _, rfl, rfl, rfl, by simp [set1, va_up], hM, R.skin (s := N 12) (pl := 3) (h := heirS N F (N 12) 3) e6 e13 (fun z => absurd z (by assumption)) (hJ.2.2 _ (by omega)) hq67 hc68 ha70⟩
                    have hx : ad 0 0 = x := (congrFun h0 0).symm.trans hx
                    have hl : lv_has ls 4 [(3, va_rf (opA ad (heirS N F (N 12) 3))), (2, .int (nI (3))), (1, .int (nI (2))), (0, .ref (ad 0 0))] := by rw [h0, hop] at hl; exact hl
                    rw [ea, h13]
                    refine mx_aast X hM 6 (ci := 6) rfl rfl dX6_awardPrizes_63 (R.1 13 (0) rfl) (R.1 6 (((N 13 + 1) + 1)) (show ((N 13 + 1) + 1) < ((N 13 + 1) + 1) + 1 by omega)) (i := ((N 13 + 1) + 1)) (by omega) (by decide) (fun H locs hM => ?_)
                    obtain ⟨M, hM, R⟩ : ∃ M2, mW G A s.heap M2 H locs ∧ RC G ad (va_up N 13 ((N 13 + 1) + 1)) (awF (awF (awF F (N 13) (N 12) 1 (heirS N F (N 12) 1)) ((N 13 + 1)) (N 12) 2 (heirS N F (N 12) 2)) (((N 13 + 1) + 1)) (N 12) 3 (heirS N F (N 12) 3)) B (set1 (set1 (sE (set1 (set1 (sE (set1 (set1 (sE E (N 13) 0) 0 6 (N 13 + 1)) 0 (13) (N 13 + 1)) ((N 13 + 1)) 0) 0 6 ((N 13 + 1) + 1)) 0 (13) ((N 13 + 1) + 1)) (((N 13 + 1) + 1)) 0) 0 6 (((N 13 + 1) + 1) + 1)) 0 (13) (((N 13 + 1) + 1) + 1)) P Q M2 := ⟨_, hM, R.rowSkc (n := ((N 13 + 1) + 1)) (by first | rfl | exact e13)⟩
                    refine lv_aload_n X.1 X.2.1 dX6_awardPrizes_64 rfl (lv_at hl 3 rfl) ?_
                    refine lv_dup X.1 X.2.1 dX6_awardPrizes_65 rfl ?_
                    refine mg_get X hM (ci := 7) (k := 7) rfl kwX6 (by decide) kf_X6_258 dX6_awardPrizes_66 (R.1 0 (0) rfl) (v := .int (nI (((N 13 + 1) + 1)))) (by first | rfl | simp [set1, va_up, upd]) ?_
                    refine lv_iconst (v := nI (1)) X.1 X.2.1 dX6_awardPrizes_69 (by decide) ?_
                    refine lv_iadd X.1 X.2.1 dX6_awardPrizes_70 ?_
                    refine lv_top (y := nI (((N 13 + 1) + 1) + 1)) (nI_add _ _) ?_
                    refine mg_put X hM tyX6 tyX6_ok nmX6 (ci := 7) (k := 7) rfl kwX6 (by decide) kf_X6_258 rfl dX6_awardPrizes_71 (R.1 0 (0) rfl) rfl rfl (Nat.le_of_ble_eq_true rfl) (fun H locs hM => ?_)
                    obtain ⟨M, hM, R⟩ : ∃ M2, mW G A s.heap M2 H locs ∧ RC G ad (va_up (va_up N 13 ((N 13 + 1) + 1)) 13 (((N 13 + 1) + 1) + 1)) (awF (awF (awF F (N 13) (N 12) 1 (heirS N F (N 12) 1)) ((N 13 + 1)) (N 12) 2 (heirS N F (N 12) 2)) (((N 13 + 1) + 1)) (N 12) 3 (heirS N F (N 12) 3)) B (set1 (set1 (sE (set1 (set1 (sE (set1 (set1 (sE E (N 13) 0) 0 6 (N 13 + 1)) 0 (13) (N 13 + 1)) ((N 13 + 1)) 0) 0 6 ((N 13 + 1) + 1)) 0 (13) ((N 13 + 1) + 1)) (((N 13 + 1) + 1)) 0) 0 6 (((N 13 + 1) + 1) + 1)) 0 (13) (((N 13 + 1) + 1) + 1)) P Q M2 := ⟨_, hM, R.nSk (((N 13 + 1) + 1) + 1)⟩
                    rw [va_up_up] at R
                    have hE : NrE (va_up N 13 (((N 13 + 1) + 1) + 1)) (awF (awF (awF F (N 13) (N 12) 1 (heirS N F (N 12) 1)) ((N 13 + 1)) (N 12) 2 (heirS N F (N 12) 2)) (((N 13 + 1) + 1)) (N 12) 3 (heirS N F (N 12) 3)) (set1 (set1 (sE (set1 (set1 (sE (set1 (set1 (sE E (N 13) 0) 0 6 (N 13 + 1)) 0 (13) (N 13 + 1)) ((N 13 + 1)) 0) 0 6 ((N 13 + 1) + 1)) 0 (13) ((N 13 + 1) + 1)) (((N 13 + 1) + 1)) 0) 0 6 (((N 13 + 1) + 1) + 1)) 0 (13) (((N 13 + 1) + 1) + 1)) := by have h9 := NrE.aw hE (n := ((N 13 + 1) + 1)) rfl (N 12) 3 (heirS N F (N 12) 3); rw [va_up_up] at h9; exact h9
                    obtain ⟨⟨_, _, _, _, _, _, e6, e13⟩, _, _, _⟩ := id hE
                    have sw : awS N F 3 = (2 + 1, (awF (awF (awF F (N 13) (N 12) 1 (heirS N F (N 12) 1)) ((N 13 + 1)) (N 12) 2 (heirS N F (N 12) 2)) (((N 13 + 1) + 1)) (N 12) 3 (heirS N F (N 12) 3))) := aw1_t sw (by assumption)
                    refine lv_iinc (v := nI (3)) (lv' := [(1, .int (nI (3))), (3, va_rf (opA ad (heirS N F (N 12) 3))), (2, .int (nI (3))), (0, .ref (ad 0 0))]) X.1 X.2.1 dX6_awardPrizes_74 hl (k := 2) rfl (nI_add (2) 1) (by decide) rfl (fun ls hl => ?_)
                    refine lv_iinc (v := nI (4)) (lv' := [(2, .int (nI (4))), (1, .int (nI (3))), (3, va_rf (opA ad (heirS N F (N 12) 3))), (0, .ref (ad 0 0))]) X.1 X.2.1 dX6_awardPrizes_77 hl (k := 2) rfl (nI_add (3) 1) (by decide) rfl (fun ls hl => ?_)
                    refine lv_goto (tgt := 4) X.1 X.2.1 dX6_awardPrizes_80 (by decide) ?_
                    refine lv_iload_n X.1 X.2.1 dX6_awardPrizes_4 rfl (lv_at hl 0 rfl) ?_
                    refine lv_iconst (v := nI (3)) X.1 X.2.1 dX6_awardPrizes_5 (by decide) ?_
                    refine b_icmp_gt (tgt := 83) X dX6_awardPrizes_6 (by decide) (a := ((4 : Nat) : Int)) (b := ((3 : Nat) : Int)) (nI_ti (by omega)) (nI_ti (by omega)) (fun c71 => ?_) (fun c71 => ?_)
                    · skip
                      refine lv_iload_n X.1 X.2.1 dX6_awardPrizes_83 rfl (lv_at hl 1 rfl) ?_
                      exact m_iret X hr hlocks hM dX6_awardPrizes_84 ⟨Nat.le_of_ble_eq_true rfl, Nat.le_of_ble_eq_true rfl⟩ (⟨by rw [sw], ad, (set1 (set1 (sE (set1 (set1 (sE (set1 (set1 (sE E (N 13) 0) 0 6 (N 13 + 1)) 0 (13) (N 13 + 1)) ((N 13 + 1)) 0) 0 6 ((N 13 + 1) + 1)) 0 (13) ((N 13 + 1) + 1)) (((N 13 + 1) + 1)) 0) 0 6 (((N 13 + 1) + 1) + 1)) 0 (13) (((N 13 + 1) + 1) + 1)), hx, by rw [sw]; exact R, by rw [sw]; exact hE, rfl⟩)
                    · skip
                      exact absurd c71 (by first | decide | omega)
