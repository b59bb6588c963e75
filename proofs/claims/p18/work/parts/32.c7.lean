/-! The class's picture and the reference's numbers -/
def NrE (N : Nat → Nat) (F E : Nat → Nat → Nat) : Prop := (E 0 1 = N 1 ∧ E 0 10 = N 1 ∧ E 0 2 = N 6 ∧ E 0 11 = N 6 ∧ E 0 3 = N 12 + 1 ∧ E 0 12 = N 12 + 1 ∧ E 0 6 = N 13 ∧ E 0 13 = N 13) ∧ E 2 = F 21 ∧ E 3 = F 21 ∧ E 4 = F 21
def NrT (N : Nat → Nat) (F E : Nat → Nat → Nat) : Prop := ∀ r, r < 4 → E 1 r = tdy F (N 0) r (N 6)
def NrP (N : Nat → Nat) (F P Q : Nat → Nat → Nat) : Prop := ∀ s p, s < N 12 + 1 → p < 16 → P s p = pts F s p (N 6) ∧ Q s p = gms F s p (N 6)
def CS (G : mG) (x : Nat) (N : Nat → Nat) (F : Nat → Nat → Nat) (B : Nat → Int32) (M : Mem) : Prop := ∃ (ad : Nat → Nat → Nat) (E P Q : Nat → Nat → Nat), ad 0 0 = x ∧ RC G ad N F B E P Q M ∧ NrE N F E ∧ NrT N F E ∧ NrP N F P Q
theorem NrE.inh {N : Nat → Nat} {F E : Nat → Nat → Nat} (h : NrE N F E) (k v : Nat) : NrE N (inhF F k v) (if F 20 k = 0 then undE E k else E) := by
  obtain ⟨h0, h2, h3, h4⟩ := h
  unfold inhF
  by_cases hz : F 20 k = 0
  · rw [if_pos hz, if_pos hz]
    refine ⟨h0, ?_, ?_, ?_⟩ <;> funext i <;> simp [undE, set1, va_up, h2, h3, h4]
  · rw [if_neg hz, if_neg hz]
    exact ⟨h0, h2, h3, h4⟩
theorem look1_t {N : Nat → Nat} {F F1 : Nat → Nat → Nat} {B B1 : Nat → Int32} {k : Nat} (h : lookS N F B k = (F1, B1)) (hne : ¬ heirS N F (F1 14 k) (F1 15 k) = F1 16 k) : lookS N F B (k + 1) = (inhF F1 k (heirS N F (F1 14 k) (F1 15 k)), inhB F1 B1 k (heirS N F (F1 14 k) (F1 15 k))) := by
  have h14 := lookS_off N F B (j := 14) (by decide) k
  have h15 := lookS_off N F B (j := 15) (by decide) k
  rw [h] at h14 h15
  have h14' : F1 14 = F 14 := h14
  have h15' : F1 15 = F 15 := h15
  rw [h14', h15'] at hne ⊢
  rw [lookS, h, if_neg hne]
theorem look1_f {N : Nat → Nat} {F F1 : Nat → Nat → Nat} {B B1 : Nat → Int32} {k : Nat} (h : lookS N F B k = (F1, B1)) (he : heirS N F (F1 14 k) (F1 15 k) = F1 16 k) : lookS N F B (k + 1) = (F1, B1) := by
  have h14 := lookS_off N F B (j := 14) (by decide) k
  have h15 := lookS_off N F B (j := 15) (by decide) k
  rw [h] at h14 h15
  have h14' : F1 14 = F 14 := h14
  have h15' : F1 15 = F 15 := h15
  rw [h14', h15'] at he
  rw [lookS, h, if_pos he]
set_option maxHeartbeats 4000000 in
set_option maxRecDepth 100000 in
theorem c_X6_countPointsAnew (l : Launch) (G : mG) (ad : Nat → Nat → Nat) (N : Nat → Nat) (F : Nat → Nat → Nat) (B : Nat → Int32) (E P Q : Nat → Nat → Nat) (M : Mem) (R : RC G ad N F B E P Q M)  (hI : Iv N F) (hE : NrE N F E) : mMet l yX6_countPointsAnew cX6_countPointsAnew 3 none ({ frames := 4, cells := 0, slots := 0, locals := 81 } : Room) G [.ref (ad 0 0)] M (fun r M' => r = none ∧ ∃ P' Q', RC G ad N F B E P' Q' M' ∧ NrP N F P' Q') := by
  refine mMet.of (by decide) (Nat.le_of_ble_eq_true rfl) ?_
  intro p e s m args below meth c A ls X hr hlocks hname hM hl
  have hl : lv_has ls 3 [(0, .ref (ad 0 0))] := hl
  have hn := hI.n
  obtain ⟨⟨e1, e10, e2, e11, e3, e12, e6, e13⟩, x2, x3, x4⟩ := hE
  refine lv_iconst (v := nI (0)) X.1 X.2.1 dX6_countPointsAnew_0 (by decide) ?_
  refine lv_istore_n (lv' := [(1, .int (nI (0))), (0, .ref (ad 0 0))]) X.1 X.2.1 dX6_countPointsAnew_1 rfl hl (by decide) rfl (fun ls hl => ?_)
  have loop1 : ∀ (n9 : Nat) (i : Nat) (M : Mem) (P1 : Nat → Nat → Nat) (Q1 : Nat → Nat → Nat), (i ≤ 12) → (13 ≤ i + n9) → (RC G ad N F B E P1 Q1 M) → (∀ s p, s < min i (N 12 + 1) → p < 16 → P1 s p = 0 ∧ Q1 s p = 0) → ∀ (H : Heap) (locs : List Loc) (ls : Array Slot), mW G A s.heap M H locs → lv_has ls 3 [(0, .ref (ad 0 0)), (1, .int (nI (i)))] → W p l e ({ frames := 4, cells := 0, slots := 0, locals := 81 } : Room) s m args below meth c H locs 0 0 (MQ below (mQ G A (fun r M' => r = none ∧ ∃ P' Q', RC G ad N F B E P' Q' M' ∧ NrP N F P' Q')) args s 0 0 A) (F0 m 2 ls []) := by
    intro n9
    induction n9 with
    | zero => intro i M P1 Q1 hi hm9 R hz; exact absurd hm9 (by omega)
    | succ n9 ih_loop1 =>
      intro i M P1 Q1 hi hm9 R hz H locs ls hM hl
      refine lv_iload_n X.1 X.2.1 dX6_countPointsAnew_2 rfl (lv_at hl 1 rfl) ?_
      refine lv_aload_n X.1 X.2.1 dX6_countPointsAnew_3 rfl (lv_at hl 0 rfl) ?_
      refine mg_get X hM (ci := 7) (k := 2) rfl kwX6 (by decide) kf_X6_23 dX6_countPointsAnew_4 (R.1 0 (0) rfl) (v := .ref (ad 12 0)) rfl ?_
      refine mg_alen X hM 5 rfl dX6_countPointsAnew_7 (R.1 12 (0) rfl) ?_
      refine b_icmp_ge (tgt := 32) X dX6_countPointsAnew_8 (by decide) (a := ((i : Nat) : Int)) (b := ((12 : Nat) : Int)) (nI_ti (by omega)) (nI_ti (by omega)) (fun c1 => ?_) (fun c1 => ?_)
      · skip
        refine lv_iconst (v := nI (0)) X.1 X.2.1 dX6_countPointsAnew_32 (by decide) ?_
        refine lv_istore_n (lv' := [(1, .int (nI (0))), (0, .ref (ad 0 0))]) X.1 X.2.1 dX6_countPointsAnew_33 rfl hl (by decide) rfl (fun ls hl => ?_)
        have loop2 : ∀ (n9 : Nat) (i : Nat) (M : Mem) (P3 : Nat → Nat → Nat) (Q3 : Nat → Nat → Nat), (i ≤ 100) → (101 ≤ i + n9) → (RC G ad N F B E P3 Q3 M) → (∀ s p, s < N 12 + 1 → p < 16 → P3 s p = pts F s p (min i (N 6))) → (∀ s p, s < N 12 + 1 → p < 16 → Q3 s p = gms F s p (min i (N 6))) → ∀ (H : Heap) (locs : List Loc) (ls : Array Slot), mW G A s.heap M H locs → lv_has ls 3 [(0, .ref (ad 0 0)), (1, .int (nI (i)))] → W p l e ({ frames := 4, cells := 0, slots := 0, locals := 81 } : Room) s m args below meth c H locs 0 0 (MQ below (mQ G A (fun r M' => r = none ∧ ∃ P' Q', RC G ad N F B E P' Q' M' ∧ NrP N F P' Q')) args s 0 0 A) (F0 m 34 ls []) := by
          intro n9
          induction n9 with
          | zero => intro i M P3 Q3 hi hm9 R hP hQ; exact absurd hm9 (by omega)
          | succ n9 ih_loop2 =>
            intro i M P3 Q3 hi hm9 R hP hQ H locs ls hM hl
            refine lv_iload_n X.1 X.2.1 dX6_countPointsAnew_34 rfl (lv_at hl 1 rfl) ?_
            refine lv_aload_n X.1 X.2.1 dX6_countPointsAnew_35 rfl (lv_at hl 0 rfl) ?_
            refine mg_get X hM (ci := 7) (k := 1) rfl kwX6 (by decide) kf_X6_17 dX6_countPointsAnew_36 (R.1 0 (0) rfl) (v := .ref (ad 11 0)) rfl ?_
            refine mg_alen X hM 4 rfl dX6_countPointsAnew_39 (R.1 11 (0) rfl) ?_
            refine b_icmp_ge (tgt := 64) X dX6_countPointsAnew_40 (by decide) (a := ((i : Nat) : Int)) (b := ((100 : Nat) : Int)) (nI_ti (by omega)) (nI_ti (by omega)) (fun c2 => ?_) (fun c2 => ?_)
            · skip
              exact m_vret X hr hlocks hM dX6_countPointsAnew_64 ⟨Nat.le_of_ble_eq_true rfl, Nat.le_of_ble_eq_true rfl⟩ (⟨rfl, _, _, R, fun s p hs hp => by rw [show min i (N 6) = N 6 by omega] at hP hQ; exact ⟨hP s p hs hp, hQ s p hs hp⟩⟩)
            · skip
              refine lv_aload_n X.1 X.2.1 dX6_countPointsAnew_43 rfl (lv_at hl 0 rfl) ?_
              refine mg_get X hM (ci := 7) (k := 1) rfl kwX6 (by decide) kf_X6_17 dX6_countPointsAnew_44 (R.1 0 (0) rfl) (v := .ref (ad 11 0)) rfl ?_
              refine lv_iload_n X.1 X.2.1 dX6_countPointsAnew_47 rfl (lv_at hl 1 rfl) ?_
              refine mx_aald X hM 4 (C := RX0) rfl dX6_countPointsAnew_48 (R.1 11 (0) rfl) (i := i) (by omega) (by decide) (r := rowA ad 2 (E 0 11) (i)) (by first | rfl | simp only [set1_at]) ?_
              refine lw_astore_n (lv' := [(2, va_rf (rowA ad 2 (E 0 11) (i))), (0, .ref (ad 0 0)), (1, .int (nI (i)))]) X.1 X.2.1 dX6_countPointsAnew_49 rfl hl (by decide) rfl (fun ls hl => ?_)
              refine lw_aload_n X.1 X.2.1 dX6_countPointsAnew_50 rfl (lv_at hl 0 rfl) ?_
              by_cases cz3 : i < E 0 11
              · skip
                refine lv_topv (y := .ref (ad 2 (i))) (by unfold rowA; rw [if_pos cz3]; rfl) ?_
                refine lv_ifnull X.1 X.2.1 dX6_countPointsAnew_51 ?_
                refine lw_aload_n X.1 X.2.1 dX6_countPointsAnew_54 rfl (lv_at hl 0 rfl) ?_
                refine lv_topv (y := .ref (ad 2 (i))) (by unfold rowA; rw [if_pos cz3]; rfl) ?_
                have g7 := hI.m (m := i) (by omega)
                have g2 := hI.p (F 7 i)
                refine m_callVN X hM ckN_X6_101 ki_X0_addPoints ks_X0_addPoints (ci := 1) rfl dX6_countPointsAnew_55 (As := []) (c_X0_addPoints l G ad N F B E P3 Q3 _ R i (show _ < E 0 2 by omega) (show _ < E 0 1 by omega) (by omega) (by omega) ⟨show _ < E 0 1 by omega, show E 0 1 ≤ 16 by omega⟩ (show _ < E 0 3 by omega)) (R.1 2 (i) (show i < E 0 2 by omega)) rfl hl rfl (Nat.le_of_ble_eq_true rfl) ⟨Nat.le_of_ble_eq_true rfl, Nat.le_of_ble_eq_true rfl⟩ ⟨Nat.le_of_ble_eq_true rfl, Nat.le_of_ble_eq_true rfl⟩ ?_
                rintro _ M H locs ⟨rfl, R⟩ hM
                refine lv_iinc (v := nI (i + 1)) (lv' := [(1, .int (nI (i + 1))), (2, va_rf (rowA ad 2 (E 0 11) (i))), (0, .ref (ad 0 0))]) X.1 X.2.1 dX6_countPointsAnew_58 hl (k := 2) rfl (nI_add (i) 1) (by decide) rfl (fun ls hl => ?_)
                refine lv_goto (tgt := 34) X.1 X.2.1 dX6_countPointsAnew_61 (by decide) ?_
                exact ih_loop2 (i + 1) _ (adP F P3 i) (adQ F Q3 i) (by omega) (by omega) R (by rw [show min (i + 1) (N 6) = i + 1 by omega]; rw [show min i (N 6) = i by omega] at hP; exact adP_step hP (by omega) (by omega) (by omega)) (by rw [show min (i + 1) (N 6) = i + 1 by omega]; rw [show min i (N 6) = i by omega] at hQ; exact adQ_step hQ (by omega) (by omega) (by omega)) _ _ _ hM (lv_sub hl [2, 0] rfl)
              · skip
                refine lv_topv (y := .null) (by unfold rowA; rw [if_neg cz3]; rfl) ?_
                refine lv_ifnullN (tgt := 58) X.1 X.2.1 dX6_countPointsAnew_51 (by decide) ?_
                refine lv_iinc (v := nI (i + 1)) (lv' := [(1, .int (nI (i + 1))), (2, va_rf (rowA ad 2 (E 0 11) (i))), (0, .ref (ad 0 0))]) X.1 X.2.1 dX6_countPointsAnew_58 hl (k := 2) rfl (nI_add (i) 1) (by decide) rfl (fun ls hl => ?_)
                refine lv_goto (tgt := 34) X.1 X.2.1 dX6_countPointsAnew_61 (by decide) ?_
                exact ih_loop2 (i + 1) _ P3 Q3 (by omega) (by omega) R (by rw [show min (i + 1) (N 6) = min i (N 6) by omega]; exact hP) (by rw [show min (i + 1) (N 6) = min i (N 6) by omega]; exact hQ) _ _ _ hM (lv_sub hl [2, 0] rfl)
        exact loop2 101 0 _ _ _ (by omega) (by omega) R (fun s p hs hp => (hz s p (by omega) hp).1.trans (by rw [Nat.zero_min]; rfl)) (fun s p hs hp => (hz s p (by omega) hp).2.trans (by rw [Nat.zero_min]; rfl)) _ _ _ hM (lv_sub hl [1, 0] rfl)
      · skip
        refine lv_aload_n X.1 X.2.1 dX6_countPointsAnew_11 rfl (lv_at hl 0 rfl) ?_
        refine mg_get X hM (ci := 7) (k := 2) rfl kwX6 (by decide) kf_X6_23 dX6_countPointsAnew_12 (R.1 0 (0) rfl) (v := .ref (ad 12 0)) rfl ?_
        refine lv_iload_n X.1 X.2.1 dX6_countPointsAnew_15 rfl (lv_at hl 1 rfl) ?_
        refine mx_aald X hM 5 (C := RX4) rfl dX6_countPointsAnew_16 (R.1 12 (0) rfl) (i := i) (by omega) (by decide) (r := rowA ad 3 (E 0 12) (i)) (by first | rfl | simp only [set1_at]) ?_
        refine lw_astore_n (lv' := [(2, va_rf (rowA ad 3 (E 0 12) (i))), (0, .ref (ad 0 0)), (1, .int (nI (i)))]) X.1 X.2.1 dX6_countPointsAnew_17 rfl hl (by decide) rfl (fun ls hl => ?_)
        refine lw_aload_n X.1 X.2.1 dX6_countPointsAnew_18 rfl (lv_at hl 0 rfl) ?_
        by_cases cz4 : i < E 0 12
        · skip
          refine lv_topv (y := .ref (ad 3 (i))) (by unfold rowA; rw [if_pos cz4]; rfl) ?_
          refine lv_ifnull X.1 X.2.1 dX6_countPointsAnew_19 ?_
          refine lw_aload_n X.1 X.2.1 dX6_countPointsAnew_22 rfl (lv_at hl 0 rfl) ?_
          refine lv_topv (y := .ref (ad 3 (i))) (by unfold rowA; rw [if_pos cz4]; rfl) ?_
          refine m_callVN X hM ckN_X6_271 ki_X4_forgetPoints ks_X4_forgetPoints (ci := 5) rfl dX6_countPointsAnew_23 (As := []) (c_X4_forgetPoints l G ad N F B E P1 Q1 _ R i (show _ < E 0 3 by omega)) (R.1 3 (i) (show i < E 0 3 by omega)) rfl hl rfl (Nat.le_of_ble_eq_true rfl) ⟨Nat.le_of_ble_eq_true rfl, Nat.le_of_ble_eq_true rfl⟩ ⟨Nat.le_of_ble_eq_true rfl, Nat.le_of_ble_eq_true rfl⟩ ?_
          rintro _ M H locs ⟨rfl, P2, Q2, R, hp3, hq3, hz3⟩ hM
          refine lv_iinc (v := nI (i + 1)) (lv' := [(1, .int (nI (i + 1))), (2, va_rf (rowA ad 3 (E 0 12) (i))), (0, .ref (ad 0 0))]) X.1 X.2.1 dX6_countPointsAnew_26 hl (k := 2) rfl (nI_add (i) 1) (by decide) rfl (fun ls hl => ?_)
          refine lv_goto (tgt := 2) X.1 X.2.1 dX6_countPointsAnew_29 (by decide) ?_
          exact ih_loop1 (i + 1) _ P2 Q2 (by omega) (by omega) R (fun s p hs hp => by
            by_cases hsi : s = i
            · subst hsi; exact hz3 p hp
            · rw [hp3 s hsi, hq3 s hsi]; exact hz s p (by omega) hp) _ _ _ hM (lv_sub hl [2, 0] rfl)
        · skip
          refine lv_topv (y := .null) (by unfold rowA; rw [if_neg cz4]; rfl) ?_
          refine lv_ifnullN (tgt := 26) X.1 X.2.1 dX6_countPointsAnew_19 (by decide) ?_
          refine lv_iinc (v := nI (i + 1)) (lv' := [(1, .int (nI (i + 1))), (2, va_rf (rowA ad 3 (E 0 12) (i))), (0, .ref (ad 0 0))]) X.1 X.2.1 dX6_countPointsAnew_26 hl (k := 2) rfl (nI_add (i) 1) (by decide) rfl (fun ls hl => ?_)
          refine lv_goto (tgt := 2) X.1 X.2.1 dX6_countPointsAnew_29 (by decide) ?_
          exact ih_loop1 (i + 1) _ P1 Q1 (by omega) (by omega) R (fun s p hs hp => hz s p (by omega) hp) _ _ _ hM (lv_sub hl [2, 0] rfl)
  exact loop1 13 0 _ P Q (by omega) (by omega) R (fun s p hs _ => absurd hs (by omega)) _ _ _ hM (lv_sub hl [1, 0] rfl)
set_option maxHeartbeats 4000000 in
set_option maxRecDepth 100000 in
theorem c_X6_countFallenMatches (l : Launch) (G : mG) (ad : Nat → Nat → Nat) (N : Nat → Nat) (F : Nat → Nat → Nat) (B : Nat → Int32) (E P Q : Nat → Nat → Nat) (M : Mem) (R : RC G ad N F B E P Q M)  (hI : Iv N F) (hE : NrE N F E) : mMet l yX6_countFallenMatches cX6_countFallenMatches 4 (some FieldType.int) ({ frames := 3, cells := 0, slots := 0, locals := 61 } : Room) G [.ref (ad 0 0)] M (fun r M' => r = some (.int (nI (badN F (N 6)))) ∧ M = M') := by
  refine mMet.of (by decide) (Nat.le_of_ble_eq_true rfl) ?_
  intro p e s m args below meth c A ls X hr hlocks hname hM hl
  have hl : lv_has ls 4 [(0, .ref (ad 0 0))] := hl
  have hn := hI.n
  obtain ⟨⟨e1, e10, e2, e11, e3, e12, e6, e13⟩, x2, x3, x4⟩ := hE
  refine lv_iconst (v := nI (0)) X.1 X.2.1 dX6_countFallenMatches_0 (by decide) ?_
  refine lv_istore_n (lv' := [(1, .int (nI (0))), (0, .ref (ad 0 0))]) X.1 X.2.1 dX6_countFallenMatches_1 rfl hl (by decide) rfl (fun ls hl => ?_)
  refine lv_iconst (v := nI (0)) X.1 X.2.1 dX6_countFallenMatches_2 (by decide) ?_
  refine lv_istore_n (lv' := [(2, .int (nI (0))), (1, .int (nI (0))), (0, .ref (ad 0 0))]) X.1 X.2.1 dX6_countFallenMatches_3 rfl hl (by decide) rfl (fun ls hl => ?_)
  have loop : ∀ (n9 : Nat) (i : Nat) (t : Nat), (i ≤ 100) → (101 ≤ i + n9) → (t = badN F (min i (N 6))) → ∀ (H : Heap) (locs : List Loc) (ls : Array Slot), mW G A s.heap M H locs → lv_has ls 4 [(0, .ref (ad 0 0)), (1, .int (nI (t))), (2, .int (nI (i)))] → W p l e ({ frames := 3, cells := 0, slots := 0, locals := 61 } : Room) s m args below meth c H locs 0 0 (MQ below (mQ G A (fun r M' => r = some (.int (nI (badN F (N 6)))) ∧ M = M')) args s 0 0 A) (F0 m 4 ls []) := by
    intro n9
    induction n9 with
    | zero => intro i t hi hm9 hb; exact absurd hm9 (by omega)
    | succ n9 ih_loop =>
      intro i t hi hm9 hb H locs ls hM hl
      have hb2 := badN_le F (min i (N 6))
      refine lv_iload_n X.1 X.2.1 dX6_countFallenMatches_4 rfl (lv_at hl 2 rfl) ?_
      refine lv_aload_n X.1 X.2.1 dX6_countFallenMatches_5 rfl (lv_at hl 0 rfl) ?_
      refine mg_get X hM (ci := 7) (k := 1) rfl kwX6 (by decide) kf_X6_17 dX6_countFallenMatches_6 (R.1 0 (0) rfl) (v := .ref (ad 11 0)) rfl ?_
      refine mg_alen X hM 4 rfl dX6_countFallenMatches_9 (R.1 11 (0) rfl) ?_
      refine b_icmp_ge (tgt := 40) X dX6_countFallenMatches_10 (by decide) (a := ((i : Nat) : Int)) (b := ((100 : Nat) : Int)) (nI_ti (by omega)) (nI_ti (by omega)) (fun c1 => ?_) (fun c1 => ?_)
      · skip
        refine lv_iload_n X.1 X.2.1 dX6_countFallenMatches_40 rfl (lv_at hl 1 rfl) ?_
        exact m_iret X hr hlocks hM dX6_countFallenMatches_41 ⟨Nat.le_of_ble_eq_true rfl, Nat.le_of_ble_eq_true rfl⟩ (⟨congrArg (fun z => some (Value.int (nI z))) (by rw [hb, show min i (N 6) = N 6 by omega]), rfl⟩)
      · skip
        refine lv_aload_n X.1 X.2.1 dX6_countFallenMatches_13 rfl (lv_at hl 0 rfl) ?_
        refine mg_get X hM (ci := 7) (k := 1) rfl kwX6 (by decide) kf_X6_17 dX6_countFallenMatches_14 (R.1 0 (0) rfl) (v := .ref (ad 11 0)) rfl ?_
        refine lv_iload_n X.1 X.2.1 dX6_countFallenMatches_17 rfl (lv_at hl 2 rfl) ?_
        refine mx_aald X hM 4 (C := RX0) rfl dX6_countFallenMatches_18 (R.1 11 (0) rfl) (i := i) (by omega) (by decide) (r := rowA ad 2 (E 0 11) (i)) (by first | rfl | simp only [set1_at]) ?_
        refine lw_astore_n (lv' := [(3, va_rf (rowA ad 2 (E 0 11) (i))), (0, .ref (ad 0 0)), (1, .int (nI (t))), (2, .int (nI (i)))]) X.1 X.2.1 dX6_countFallenMatches_19 rfl hl (by decide) rfl (fun ls hl => ?_)
        refine lw_aload_n X.1 X.2.1 dX6_countFallenMatches_20 rfl (lv_at hl 0 rfl) ?_
        by_cases cz2 : i < E 0 11
        · skip
          refine lv_topv (y := .ref (ad 2 (i))) (by unfold rowA; rw [if_pos cz2]; rfl) ?_
          refine lv_ifnull X.1 X.2.1 dX6_countFallenMatches_21 ?_
          refine lw_aload_n X.1 X.2.1 dX6_countFallenMatches_24 rfl (lv_at hl 0 rfl) ?_
          refine lv_topv (y := .ref (ad 2 (i))) (by unfold rowA; rw [if_pos cz2]; rfl) ?_
          have g7 := hI.m (m := i) (by omega)
          have g2 := hI.p (F 7 i)
          refine m_callVN X hM ckN_X6_176 ki_X0_isStanding ks_X0_isStanding (ci := 1) rfl dX6_countFallenMatches_25 (As := []) (c_X0_isStanding l G ad N F B E P Q _ R i (show _ < E 0 2 by omega) (show _ < E 0 1 by omega) (by omega) (by omega)) (R.1 2 (i) (show i < E 0 2 by omega)) rfl hl rfl (Nat.le_of_ble_eq_true rfl) ⟨Nat.le_of_ble_eq_true rfl, Nat.le_of_ble_eq_true rfl⟩ ⟨Nat.le_of_ble_eq_true rfl, Nat.le_of_ble_eq_true rfl⟩ ?_
          rintro _ _ H locs ⟨rfl, rfl⟩ hM
          refine b_bool_ne (tgt := 34) X dX6_countFallenMatches_28 (by decide) (fun c3 => ?_) (fun c3 => ?_)
          · skip
            refine lv_iinc (v := nI (i + 1)) (lv' := [(2, .int (nI (i + 1))), (3, va_rf (rowA ad 2 (E 0 11) (i))), (0, .ref (ad 0 0)), (1, .int (nI (t)))]) X.1 X.2.1 dX6_countFallenMatches_34 hl (k := 3) rfl (nI_add (i) 1) (by decide) rfl (fun ls hl => ?_)
            refine lv_goto (tgt := 4) X.1 X.2.1 dX6_countFallenMatches_37 (by decide) ?_
            exact ih_loop (i + 1) (t) (by omega) (by omega) (by first | (rw [show min (i + 1) (N 6) = i + 1 by omega]; rw [show min i (N 6) = i by omega] at hb; rw [hb]; exact badN_t (by assumption)) | (rw [show min (i + 1) (N 6) = min i (N 6) by omega]; exact hb)) _ _ _ hM (lv_sub hl [2, 3, 0] rfl)
          · skip
            refine lv_iinc (v := nI (t + 1)) (lv' := [(1, .int (nI (t + 1))), (3, va_rf (rowA ad 2 (E 0 11) (i))), (0, .ref (ad 0 0)), (2, .int (nI (i)))]) X.1 X.2.1 dX6_countFallenMatches_31 hl (k := 2) rfl (nI_add (t) 1) (by decide) rfl (fun ls hl => ?_)
            refine lv_iinc (v := nI (i + 1)) (lv' := [(2, .int (nI (i + 1))), (1, .int (nI (t + 1))), (3, va_rf (rowA ad 2 (E 0 11) (i))), (0, .ref (ad 0 0))]) X.1 X.2.1 dX6_countFallenMatches_34 hl (k := 3) rfl (nI_add (i) 1) (by decide) rfl (fun ls hl => ?_)
            refine lv_goto (tgt := 4) X.1 X.2.1 dX6_countFallenMatches_37 (by decide) ?_
            exact ih_loop (i + 1) (t + 1) (by omega) (by omega) (by rw [show min (i + 1) (N 6) = i + 1 by omega]; rw [show min i (N 6) = i by omega] at hb; rw [hb]; exact badN_f (by assumption)) _ _ _ hM (lv_sub hl [3, 1, 0] rfl)
        · skip
          refine lv_topv (y := .null) (by unfold rowA; rw [if_neg cz2]; rfl) ?_
          refine lv_ifnullN (tgt := 34) X.1 X.2.1 dX6_countFallenMatches_21 (by decide) ?_
          refine lv_iinc (v := nI (i + 1)) (lv' := [(2, .int (nI (i + 1))), (3, va_rf (rowA ad 2 (E 0 11) (i))), (0, .ref (ad 0 0)), (1, .int (nI (t)))]) X.1 X.2.1 dX6_countFallenMatches_34 hl (k := 3) rfl (nI_add (i) 1) (by decide) rfl (fun ls hl => ?_)
          refine lv_goto (tgt := 4) X.1 X.2.1 dX6_countFallenMatches_37 (by decide) ?_
          exact ih_loop (i + 1) (t) (by omega) (by omega) (by first | (rw [show min (i + 1) (N 6) = i + 1 by omega]; rw [show min i (N 6) = i by omega] at hb; rw [hb]; exact badN_t (by assumption)) | (rw [show min (i + 1) (N 6) = min i (N 6) by omega]; exact hb)) _ _ _ hM (lv_sub hl [2, 3, 0] rfl)
  exact loop 101 0 0 (by omega) (by omega) (by rw [Nat.zero_min]; rfl) _ _ _ hM (lv_sub hl [2, 1, 0] rfl)
set_option maxHeartbeats 4000000 in
set_option maxRecDepth 100000 in
theorem c_X6_findHeirsAnew (l : Launch) (G : mG) (ad : Nat → Nat → Nat) (N : Nat → Nat) (F : Nat → Nat → Nat) (B : Nat → Int32) (E P Q : Nat → Nat → Nat) (M : Mem) (R : RC G ad N F B E P Q M)  (hI : Iv N F) (hE : NrE N F E) : mMet l yX6_findHeirsAnew cX6_findHeirsAnew 3 none ({ frames := 5, cells := 0, slots := 0, locals := 103 } : Room) G [.ref (ad 0 0)] M (fun r M' => r = none ∧ ∃ E' P' Q', RC G ad N (lookS N F B (N 13)).1 (lookS N F B (N 13)).2 E' P' Q' M' ∧ NrE N (lookS N F B (N 13)).1 E' ∧ E' 1 = E 1 ∧ NrP N F P' Q') := by
  refine mMet.of (by decide) (Nat.le_of_ble_eq_true rfl) ?_
  intro p e s m args below meth c A ls X hr hlocks hname hM hl
  have hl : lv_has ls 3 [(0, .ref (ad 0 0))] := hl
  have hE0 := hE
  have hn := hI.n
  obtain ⟨⟨e1, e10, e2, e11, e3, e12, e6, e13⟩, x2, x3, x4⟩ := id hE
  refine lv_aload_n X.1 X.2.1 dX6_findHeirsAnew_0 rfl (lv_at hl 0 rfl) ?_
  refine m_callV X hM ck_X6_264 ki_X6_countPointsAnew ks_X6_countPointsAnew (ci := 7) rfl dX6_findHeirsAnew_1 (As := []) (c_X6_countPointsAnew l G ad N F B E P Q _ R hI hE) (R.1 0 (0) rfl) rfl hl rfl (Nat.le_of_ble_eq_true rfl) ⟨Nat.le_of_ble_eq_true rfl, Nat.le_of_ble_eq_true rfl⟩ ⟨Nat.le_of_ble_eq_true rfl, Nat.le_of_ble_eq_true rfl⟩ ?_
  rintro _ M H locs ⟨rfl, P2, Q2, R, hP2⟩ hM
  refine lv_iconst (v := nI (0)) X.1 X.2.1 dX6_findHeirsAnew_4 (by decide) ?_
  refine lv_istore_n (lv' := [(1, .int (nI (0))), (0, .ref (ad 0 0))]) X.1 X.2.1 dX6_findHeirsAnew_5 rfl hl (by decide) rfl (fun ls hl => ?_)
  have loop : ∀ (n9 : Nat) (i : Nat) (M : Mem) (F1 : Nat → Nat → Nat) (B1 : Nat → Int32) (E1 : Nat → Nat → Nat), (i ≤ 36) → (37 ≤ i + n9) → (RC G ad N F1 B1 E1 P2 Q2 M) → (lookS N F B (min i (N 13)) = (F1, B1)) → (Iv N F1) → (NrE N F1 E1) → (E1 1 = E 1) → ∀ (H : Heap) (locs : List Loc) (ls : Array Slot), mW G A s.heap M H locs → lv_has ls 3 [(0, .ref (ad 0 0)), (1, .int (nI (i)))] → W p l e ({ frames := 5, cells := 0, slots := 0, locals := 103 } : Room) s m args below meth c H locs 0 0 (MQ below (mQ G A (fun r M' => r = none ∧ ∃ E' P' Q', RC G ad N (lookS N F B (N 13)).1 (lookS N F B (N 13)).2 E' P' Q' M' ∧ NrE N (lookS N F B (N 13)).1 E' ∧ E' 1 = E 1 ∧ NrP N F P' Q')) args s 0 0 A) (F0 m 6 ls []) := by
    intro n9
    induction n9 with
    | zero => intro i M F1 B1 E1 hi hm9 R hF hI1 hE1 hT1; exact absurd hm9 (by omega)
    | succ n9 ih_loop =>
      intro i M F1 B1 E1 hi hm9 R hF hI1 hE1 hT1 H locs ls hM hl
      obtain ⟨⟨f1, f10, f2, f11, f3, f12, f6, f13⟩, y2, y3, y4⟩ := id hE1
      refine lv_iload_n X.1 X.2.1 dX6_findHeirsAnew_6 rfl (lv_at hl 1 rfl) ?_
      refine lv_aload_n X.1 X.2.1 dX6_findHeirsAnew_7 rfl (lv_at hl 0 rfl) ?_
      refine mg_get X hM (ci := 7) (k := 3) rfl kwX6 (by decide) kf_X6_29 dX6_findHeirsAnew_8 (R.1 0 (0) rfl) (v := .ref (ad 13 0)) rfl ?_
      refine mg_alen X hM 6 rfl dX6_findHeirsAnew_11 (R.1 13 (0) rfl) ?_
      refine b_icmp_ge (tgt := 51) X dX6_findHeirsAnew_12 (by decide) (a := ((i : Nat) : Int)) (b := ((36 : Nat) : Int)) (nI_ti (by omega)) (nI_ti (by omega)) (fun c1 => ?_) (fun c1 => ?_)
      · skip
        exact m_vret X hr hlocks hM dX6_findHeirsAnew_51 ⟨Nat.le_of_ble_eq_true rfl, Nat.le_of_ble_eq_true rfl⟩ (⟨rfl, E1, P2, Q2, by rw [show N 13 = min i (N 13) by omega, hF]; exact ⟨R, hE1, hT1, hP2⟩⟩)
      · skip
        refine lv_aload_n X.1 X.2.1 dX6_findHeirsAnew_15 rfl (lv_at hl 0 rfl) ?_
        refine mg_get X hM (ci := 7) (k := 3) rfl kwX6 (by decide) kf_X6_29 dX6_findHeirsAnew_16 (R.1 0 (0) rfl) (v := .ref (ad 13 0)) rfl ?_
        refine lv_iload_n X.1 X.2.1 dX6_findHeirsAnew_19 rfl (lv_at hl 1 rfl) ?_
        refine mx_aald X hM 6 (C := RX5) rfl dX6_findHeirsAnew_20 (R.1 13 (0) rfl) (i := i) (by omega) (by decide) (r := rowA ad 6 (E1 0 13) (i)) (by first | rfl | simp only [set1_at]) ?_
        refine lw_astore_n (lv' := [(2, va_rf (rowA ad 6 (E1 0 13) (i))), (0, .ref (ad 0 0)), (1, .int (nI (i)))]) X.1 X.2.1 dX6_findHeirsAnew_21 rfl hl (by decide) rfl (fun ls hl => ?_)
        refine lw_aload_n X.1 X.2.1 dX6_findHeirsAnew_22 rfl (lv_at hl 0 rfl) ?_
        by_cases cz2 : i < E1 0 13
        · skip
          refine lv_topv (y := .ref (ad 6 (i))) (by unfold rowA; rw [if_pos cz2]; rfl) ?_
          refine lv_ifnull X.1 X.2.1 dX6_findHeirsAnew_23 ?_
          refine lw_aload_n X.1 X.2.1 dX6_findHeirsAnew_26 rfl (lv_at hl 0 rfl) ?_
          refine lv_topv (y := .ref (ad 6 (i))) (by unfold rowA; rw [if_pos cz2]; rfl) ?_
          refine lv_aload_n X.1 X.2.1 dX6_findHeirsAnew_27 rfl (lv_at hl 1 rfl) ?_
          refine lw_aload_n X.1 X.2.1 dX6_findHeirsAnew_28 rfl (lv_at hl 0 rfl) ?_
          refine lv_topv (y := .ref (ad 6 (i))) (by unfold rowA; rw [if_pos cz2]; rfl) ?_
          refine mg_getN X hM (ci := 6) (k := 1) rfl kwX5 (by decide) kn_X6_206 dX6_findHeirsAnew_29 (R.1 6 (i) (show i < E1 0 6 by omega)) (v := .ref (ad 3 (F1 14 (i)))) rfl ?_
          refine lw_aload_n X.1 X.2.1 dX6_findHeirsAnew_32 rfl (lv_at hl 0 rfl) ?_
          refine lv_topv (y := .ref (ad 6 (i))) (by unfold rowA; rw [if_pos cz2]; rfl) ?_
          refine mg_getN X hM (ci := 6) (k := 2) rfl kwX5 (by decide) kn_X6_209 dX6_findHeirsAnew_33 (R.1 6 (i) (show i < E1 0 6 by omega)) (v := .int (nI (F1 15 (i)))) rfl ?_
          have k9 := hI1.k (k := i) (by omega)
          have k8 := heirS_le N F (F1 14 i) (F1 15 i)
          refine m_callVN X hM ckN_X6_255 ki_X4_playerOn ks_X4_playerOn (ci := 5) rfl dX6_findHeirsAnew_36 (As := [.int (nI (F1 15 (i)))]) (c_X4_playerOn l G ad N F1 B1 E1 P2 Q2 _ R (F1 14 (i)) (F1 15 (i)) (show _ < E1 0 3 by omega) (fun z hz => by have q1 := hP2 (F1 14 i) z (by omega) hz; have q2 := pts_le F (F1 14 i) z (n := N 6) (by omega); have q3 := gms_le F (F1 14 i) z (n := N 6) (by omega); omega) (by omega)) (R.1 3 (F1 14 (i)) (show F1 14 (i) < E1 0 3 by omega)) rfl hl rfl (Nat.le_of_ble_eq_true rfl) ⟨Nat.le_of_ble_eq_true rfl, Nat.le_of_ble_eq_true rfl⟩ ⟨Nat.le_of_ble_eq_true rfl, Nat.le_of_ble_eq_true rfl⟩ ?_
          rintro _ _ H locs ⟨rfl, rfl⟩ hM
          refine lv_top (y := nI (heirS N F (F1 14 i) (F1 15 i)) - 1) (by rw [pos_heir hI (fun p hp => hP2 _ p (by omega) hp) (by omega)]) ?_
          refine m_callV X hM ck_X6_242 ki_X6_findPlayer ks_X6_findPlayer (ci := 7) rfl dX6_findHeirsAnew_39 (As := [.int (nI (heirS N F (F1 14 i) (F1 15 i)) - 1)]) (c_X6_findPlayer2 l G ad N F1 B1 E1 P2 Q2 _ R (heirS N F (F1 14 i) (F1 15 i)) (show E1 0 10 ≤ 16 by omega) (show _ ≤ E1 0 10 by omega)) (R.1 0 (0) rfl) rfl hl rfl (Nat.le_of_ble_eq_true rfl) ⟨Nat.le_of_ble_eq_true rfl, Nat.le_of_ble_eq_true rfl⟩ ⟨Nat.le_of_ble_eq_true rfl, Nat.le_of_ble_eq_true rfl⟩ ?_
          rintro _ _ H locs ⟨rfl, rfl⟩ hM
          refine m_callVN X hM ckN_X6_267 ki_X5_passTo ks_X5_passTo (ci := 6) rfl dX6_findHeirsAnew_42 (As := [va_rf (opA ad (heirS N F (F1 14 i) (F1 15 i)))]) (c_X5_passTo l G ad N F1 B1 E1 P2 Q2 _ R i (heirS N F (F1 14 i) (F1 15 i)) (show _ < E1 0 6 by omega) (show _ ≤ E1 0 1 by omega) (show _ ≤ E1 0 1 by omega) (by rw [y2, y3]; omega) (by rw [y3]) (by omega) (fun j hj => by rw [y3] at hj; have q := hI1.s (k := i) (j := j) (by omega) hj; omega)) (R.1 6 (i) (show i < E1 0 6 by omega)) rfl hl rfl (Nat.le_of_ble_eq_true rfl) ⟨Nat.le_of_ble_eq_true rfl, Nat.le_of_ble_eq_true rfl⟩ ⟨Nat.le_of_ble_eq_true rfl, Nat.le_of_ble_eq_true rfl⟩ ?_
          rintro _ M H locs ⟨rfl, R⟩ hM
          by_cases hh : heirS N F (F1 14 i) (F1 15 i) = F1 16 i
          · skip
            rw [if_pos hh] at R
            refine lv_iinc (v := nI (i + 1)) (lv' := [(1, .int (nI (i + 1))), (2, va_rf (rowA ad 6 (E1 0 13) (i))), (0, .ref (ad 0 0))]) X.1 X.2.1 dX6_findHeirsAnew_45 hl (k := 2) rfl (nI_add (i) 1) (by decide) rfl (fun ls hl => ?_)
            refine lv_goto (tgt := 6) X.1 X.2.1 dX6_findHeirsAnew_48 (by decide) ?_
            exact ih_loop (i + 1) _ _ _ _ (by omega) (by omega) R (by first | (rw [show min (i + 1) (N 13) = min i (N 13) by omega]; exact hF) | (rw [show min (i + 1) (N 13) = i + 1 by omega]; rw [show min i (N 13) = i by omega] at hF; exact look1_f hF hh)) hI1 hE1 hT1 _ _ _ hM (lv_sub hl [2, 0] rfl)
          · skip
            rw [if_neg hh] at R
            refine lv_iinc (v := nI (i + 1)) (lv' := [(1, .int (nI (i + 1))), (2, va_rf (rowA ad 6 (E1 0 13) (i))), (0, .ref (ad 0 0))]) X.1 X.2.1 dX6_findHeirsAnew_45 hl (k := 2) rfl (nI_add (i) 1) (by decide) rfl (fun ls hl => ?_)
            refine lv_goto (tgt := 6) X.1 X.2.1 dX6_findHeirsAnew_48 (by decide) ?_
            exact ih_loop (i + 1) _ _ _ _ (by omega) (by omega) R (by rw [show min (i + 1) (N 13) = i + 1 by omega]; rw [show min i (N 13) = i by omega] at hF; exact look1_t hF hh) (hI1.inh (by omega) (heirS_le _ _ _ _)) (hE1.inh i _) (by split <;> exact hT1) _ _ _ hM (lv_sub hl [2, 0] rfl)
        · skip
          refine lv_topv (y := .null) (by unfold rowA; rw [if_neg cz2]; rfl) ?_
          refine lv_ifnullN (tgt := 45) X.1 X.2.1 dX6_findHeirsAnew_23 (by decide) ?_
          refine lv_iinc (v := nI (i + 1)) (lv' := [(1, .int (nI (i + 1))), (2, va_rf (rowA ad 6 (E1 0 13) (i))), (0, .ref (ad 0 0))]) X.1 X.2.1 dX6_findHeirsAnew_45 hl (k := 2) rfl (nI_add (i) 1) (by decide) rfl (fun ls hl => ?_)
          refine lv_goto (tgt := 6) X.1 X.2.1 dX6_findHeirsAnew_48 (by decide) ?_
          exact ih_loop (i + 1) _ _ _ _ (by omega) (by omega) R (by first | (rw [show min (i + 1) (N 13) = min i (N 13) by omega]; exact hF) | (rw [show min (i + 1) (N 13) = i + 1 by omega]; rw [show min i (N 13) = i by omega] at hF; exact look1_f hF hh)) hI1 hE1 hT1 _ _ _ hM (lv_sub hl [2, 0] rfl)
  exact loop 37 0 _ F B E (by omega) (by omega) R (by rw [Nat.zero_min]; rfl) hI hE0 rfl _ _ _ hM (lv_sub hl [1, 0] rfl)
