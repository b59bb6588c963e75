/-- what every state keeps beside: nobody lends what nobody holds; what isn't there yet is nought -/
def Jv (N : Nat → Nat) (F : Nat → Nat → Nat) (B : Nat → Int32) : Prop := (∀ k, k < N 13 → F 17 k = 0 → F 18 k = 0) ∧ (∀ p, N 1 ≤ p → B p = 0 ∧ F 3 p = 0) ∧ ∀ k, N 13 ≤ k → F 19 k = 0
theorem us_eq {N : Nat → Nat} {F : Nat → Nat → Nat} {k : Nat} (h : F 17 k = 0 → F 18 k = 0) : userS N F k = if ¬ F 18 k = 0 ∧ N 0 ≤ F 19 k then F 18 k else F 17 k := by
  unfold userS
  by_cases h7 : F 17 k = 0
  · rw [if_neg (fun z => z.1 h7), if_neg (fun z => z.1 (h h7))]
  · by_cases h8 : ¬ F 18 k = 0 ∧ N 0 ≤ F 19 k
    · rw [if_pos ⟨h7, h8.1, h8.2⟩, if_pos h8]
    · rw [if_neg (fun z => h8 ⟨z.2.1, z.2.2⟩), if_neg h8]
theorem NrE.sell {N : Nat → Nat} {F E : Nat → Nat → Nat} {k : Nat} (h : NrE N F E) (z its : Nat) : NrE N (fSell F k z its) (sE E k (F 21 k + 1)) := by
  obtain ⟨h0, h2, h3, h4⟩ := h
  refine ⟨h0, ?_, ?_, ?_⟩ <;> funext i <;> simp [sE, fSell, set1, va_up, h2, h3, h4]
set_option maxHeartbeats 4000000 in
set_option maxRecDepth 100000 in
theorem c_X6_sell (l : Launch) (G : mG) (x : Nat) (N : Nat → Nat) (F : Nat → Nat → Nat) (B : Nat → Int32) (M : Mem) (cs : CS G x N F B M) (m0 : Int32) (m1 : Int32) (m2 : Int32) (hst : l.stackTraces = false) (hI : Iv N F) : xMet l yX6_sell cX6_sell 6 (some FieldType.boolean) ({ frames := 7, cells := 3, slots := 18, locals := 104 } : Room) G [.ref x, .int (m0), .int (m1), .int (m2)] M (fun r M' => kSell N F m0 m1 m2 = 0 ∧ r = some (.int (bI (faithS F (ix m0) (ix m1)))) ∧ CS G x (N) (fSell F (ix m0) (ix m1) (ix m2)) (bSell F B (ix m0) (ix m1) (ix m2)) M') (fun E9 M' => CS G x N F B M' ∧ ((E9 = EIO ∧ kSell N F m0 m1 m2 = 1) ∨ (E9 = EIA ∧ kSell N F m0 m1 m2 = 2) ∨ (E9 = EIS ∧ kSell N F m0 m1 m2 = 3))) := by
  obtain ⟨ad, E, P, Q, rfl, R, hE, hT, hP⟩ := cs
  refine xMet.of (by decide) (Nat.le_of_ble_eq_true rfl) ?_
  intro p e s m args below meth c A ls X hr hlocks hname hM hl hS hZ ht
  have hl : lv_has ls 6 [(0, .ref (ad 0 0)), (1, .int (m0)), (2, .int (m1)), (3, .int (m2))] := hl
  have hn := hI.n
  obtain ⟨⟨e1, e10, e2, e11, e3, e12, e6, e13⟩, x2, x3, x4⟩ := id hE
  refine lv_aload_n X.1 X.2.1 dX6_sell_0 rfl (lv_at hl 0 rfl) ?_
  refine lv_iload_n X.1 X.2.1 dX6_sell_1 rfl (lv_at hl 1 rfl) ?_
  refine xm_callV X hM hS hZ ck_X6_113 ki_X6_skinAt ks_X6_skinAt (ci := 7) rfl dX6_sell_2 (As := [.int (m0)]) (c_X6_skinAt l G ad N F B E P Q _ R m0 hst (show E 0 13 ≤ 36 by omega)) (R.1 0 (0) rfl) rfl hl rfl (Nat.le_of_ble_eq_true rfl) ⟨Nat.le_of_ble_eq_true rfl, Nat.le_of_ble_eq_true rfl⟩ ⟨Nat.le_of_ble_eq_true rfl, Nat.le_of_ble_eq_true rfl⟩ (fun E9 ce q9 M1 H1 locs1 hp hM1 h1 h2 h3 => x_out ht hlocks hM1 h1 h2 h3 ⟨Nat.le_of_ble_eq_true rfl, Nat.le_of_ble_eq_true rfl⟩ (by obtain ⟨rfl, h9, rfl⟩ := hp; exact ⟨⟨ad, E, P, Q, rfl, R, hE, hT, hP⟩, Or.inl ⟨rfl, by unfold kSell; rw [if_pos (by rw [← e13, h9]; rfl)]⟩⟩)) ?_
  rintro _ _ H locs ⟨rfl, h9, rfl⟩ hM
  obtain ⟨jm0, hjm0, rfl⟩ := iR_t h9 (by omega)
  refine lv_topv (y := .ref (ad 6 (jm0))) (by rw [ix_nI (by omega)]) ?_
  have hjm0 : jm0 < N 13 := by omega
  have k4 : E 4 jm0 = F 21 jm0 := by rw [x4]
  have k9 := hI.k (k := jm0) (by omega)
  have kb := hI.p (F 17 jm0 - 1)
  refine lv_astore (lv' := [(4, .ref (ad 6 (jm0))), (0, .ref (ad 0 0)), (1, .int (nI (jm0))), (2, .int (m1)), (3, .int (m2))]) X.1 X.2.1 dX6_sell_5 hl (by decide) rfl (fun ls hl => ?_)
  refine lv_aload_n X.1 X.2.1 dX6_sell_7 rfl (lv_at hl 1 rfl) ?_
  refine lv_iload_n X.1 X.2.1 dX6_sell_8 rfl (lv_at hl 3 rfl) ?_
  refine xm_callV X hM hS hZ ck_X6_74 ki_X6_playerAt ks_X6_playerAt (ci := 7) rfl dX6_sell_9 (As := [.int (m1)]) (c_X6_playerAt l G ad N F B E P Q _ R m1 hst (show E 0 10 ≤ 16 by omega)) (R.1 0 (0) rfl) rfl hl rfl (Nat.le_of_ble_eq_true rfl) ⟨Nat.le_of_ble_eq_true rfl, Nat.le_of_ble_eq_true rfl⟩ ⟨Nat.le_of_ble_eq_true rfl, Nat.le_of_ble_eq_true rfl⟩ (fun E9 ce q9 M1 H1 locs1 hp hM1 h1 h2 h3 => x_out ht hlocks hM1 h1 h2 h3 ⟨Nat.le_of_ble_eq_true rfl, Nat.le_of_ble_eq_true rfl⟩ (by obtain ⟨rfl, h9, rfl⟩ := hp; exact ⟨⟨ad, E, P, Q, rfl, R, hE, hT, hP⟩, Or.inl ⟨rfl, by unfold kSell; rw [if_pos (by rw [iR_lt hjm0 (by omega), ← e10, h9]; rfl)]⟩⟩)) ?_
  rintro _ _ H locs ⟨rfl, h9, rfl⟩ hM
  obtain ⟨jm1, hjm1, rfl⟩ := iR_t h9 (by omega)
  refine lv_topv (y := .ref (ad 1 (jm1))) (by rw [ix_nI (by omega)]) ?_
  have hjm1 : jm1 < N 1 := by omega
  have pq1 := hI.p jm1
  refine lv_astore (lv' := [(5, .ref (ad 1 (jm1))), (4, .ref (ad 6 (jm0))), (0, .ref (ad 0 0)), (1, .int (nI (jm0))), (2, .int (nI (jm1))), (3, .int (m2))]) X.1 X.2.1 dX6_sell_12 hl (by decide) rfl (fun ls hl => ?_)
  refine lv_iload_n X.1 X.2.1 dX6_sell_14 rfl (lv_at hl 5 rfl) ?_
  refine b_if_lt (tgt := 25) X dX6_sell_15 (by decide) (a := (m2).toInt) (rfl) (fun c2 => ?_) (fun c2 => ?_)
  · skip
    exact x_throw (cls := EIA) (text := "no such price") X hst hS hZ ht hlocks hM hl (by decide +kernel) (by decide) xh_67 xg_67 dX6_sell_25 dX6_sell_28 dX6_sell_29 dX6_sell_31 dX6_sell_34 ⟨Nat.le_of_ble_eq_true rfl, Nat.le_of_ble_eq_true rfl⟩ ⟨Nat.le_of_ble_eq_true rfl, Nat.le_of_ble_eq_true rfl⟩ ⟨Nat.le_of_ble_eq_true rfl, Nat.le_of_ble_eq_true rfl⟩ (⟨⟨ad, E, P, Q, rfl, R, hE, hT, hP⟩, Or.inr (Or.inl ⟨rfl, by unfold kSell; rw [if_neg (by rw [iR_lt hjm0 (by omega), iR_lt hjm1 (by omega)]; decide), if_pos (by omega)]⟩)⟩)
  · skip
    refine lv_iload_n X.1 X.2.1 dX6_sell_18 rfl (lv_at hl 5 rfl) ?_
    refine lv_sipush (v := nI (10000)) X.1 X.2.1 dX6_sell_19 (by decide) ?_
    refine b_icmp_le (tgt := 35) X dX6_sell_22 (by decide) (a := (m2).toInt) (b := ((10000 : Nat) : Int)) (rfl) (nI_ti (by omega)) (fun c3 => ?_) (fun c3 => ?_)
    · skip
      obtain ⟨v2, hv2l, hv2, rfl⟩ := in_t 0 (x := m2) (n := 10000) ⟨by omega, by omega⟩ (by omega)
      refine lv_aload_n X.1 X.2.1 dX6_sell_35 rfl (lv_at hl 2 rfl) ?_
      refine lv_aload X.1 X.2.1 dX6_sell_36 (lv_at hl 1 rfl) ?_
      refine mg_getN X hM (ci := 6) (k := 7) rfl kwX5 (by decide) kn_X6_119 dX6_sell_38 (R.1 6 (jm0) (show jm0 < E 0 6 by omega)) (v := va_rf (opA ad (F 17 (jm0)))) rfl ?_
      refine lv_aload X.1 X.2.1 dX6_sell_41 (lv_at hl 0 rfl) ?_
      refine m_callV X hM ck_X6_123 ki_X6_mayDeal ks_X6_mayDeal (ci := 7) rfl dX6_sell_43 (As := [va_rf (opA ad (F 17 (jm0))), va_rf (opA ad (jm1 + 1))]) (c_X6_mayDeal l G ad N F B E P Q _ R (F 17 (jm0)) (jm1 + 1) (show _ ≤ E 0 1 by omega) (show _ ≤ E 0 1 by omega) (by omega) (by omega) (by show F 3 (jm1) < _; omega)) (R.1 0 (0) rfl) rfl hl rfl (Nat.le_of_ble_eq_true rfl) ⟨Nat.le_of_ble_eq_true rfl, Nat.le_of_ble_eq_true rfl⟩ ⟨Nat.le_of_ble_eq_true rfl, Nat.le_of_ble_eq_true rfl⟩ ?_
      rintro _ _ H locs ⟨rfl, rfl⟩ hM
      refine lv_top (y := bI (cDeal N F jm0 jm1)) (congrArg bI (cd_eq _ _ _ _).symm) ?_
      refine b_bool_eq (tgt := 57) X dX6_sell_46 (by decide) (fun c4 => ?_) (fun c4 => ?_)
      · skip
        exact x_throw (cls := EIS) (text := "the skin can't be sold so now") X hst hS hZ ht hlocks hM hl (by decide +kernel) (by decide) xh_55 xg_55 dX6_sell_57 dX6_sell_60 dX6_sell_61 dX6_sell_63 dX6_sell_66 ⟨Nat.le_of_ble_eq_true rfl, Nat.le_of_ble_eq_true rfl⟩ ⟨Nat.le_of_ble_eq_true rfl, Nat.le_of_ble_eq_true rfl⟩ ⟨Nat.le_of_ble_eq_true rfl, Nat.le_of_ble_eq_true rfl⟩ (⟨⟨ad, E, P, Q, rfl, R, hE, hT, hP⟩, Or.inr (Or.inr ⟨rfl, by unfold kSell; rw [if_neg (by rw [iR_lt hjm0 (by omega), iR_lt hjm1 (by omega)]; decide), if_neg (by rw [nI_toInt (by omega)]; omega), ix_nI (by omega), ix_nI (by omega), if_neg (fun y => by first | (rw [show cDeal N F jm0 jm1 = false by assumption] at y; cases y.1) | (rw [show cDeal N F jm0 jm1 = false by assumption] at y; cases y) | (have := y.2; omega))]⟩)⟩)
      · skip
        refine lv_aload X.1 X.2.1 dX6_sell_49 (lv_at hl 1 rfl) ?_
        refine m_callVN X hM ckN_X6_127 ki_X5_isSoldOften ks_X5_isSoldOften (ci := 6) rfl dX6_sell_51 (As := []) (c_X5_isSoldOften l G ad N F B E P Q _ R jm0 (show _ < E 0 6 by omega) (show E 4 jm0 < 2 ^ 31 by omega)) (R.1 6 (jm0) (show jm0 < E 0 6 by omega)) rfl hl rfl (Nat.le_of_ble_eq_true rfl) ⟨Nat.le_of_ble_eq_true rfl, Nat.le_of_ble_eq_true rfl⟩ ⟨Nat.le_of_ble_eq_true rfl, Nat.le_of_ble_eq_true rfl⟩ ?_
        rintro _ _ H locs ⟨rfl, rfl⟩ hM
        refine b_bool_eq (tgt := 67) X dX6_sell_54 (by decide) (fun c5 => ?_) (fun c5 => ?_)
        · skip
          have c5 := of_decide_eq_false c5
          refine lv_aload X.1 X.2.1 dX6_sell_67 (lv_at hl 1 rfl) ?_
          refine lv_aload X.1 X.2.1 dX6_sell_69 (lv_at hl 0 rfl) ?_
          refine lv_iload_n X.1 X.2.1 dX6_sell_71 rfl (lv_at hl 5 rfl) ?_
          have hcd : F 17 jm0 ≠ 0 ∧ F 17 jm0 ≠ jm1 + 1 ∧ F 3 (F 17 jm0 - 1) ≤ N 0 ∧ F 3 jm1 ≤ N 0 := of_decide_eq_true (show cDeal N F jm0 jm1 = true by assumption)
          refine m_callVN X hM ckN_X6_132 ki_X5_sellTo ks_X5_sellTo (ci := 6) rfl dX6_sell_72 (As := [.ref (ad 1 (jm1)), .int (nI (v2))]) (c_X5_sellTo l G ad N F B E P Q _ R jm0 jm1 v2 (show _ < E 0 6 by omega) (show _ < E 0 1 by omega) hcd.1 (show _ ≤ E 0 1 by omega) hcd.2.1 (by rw [x2]) (by rw [x3]) (by rw [x4]) (by omega) (fun i hi => by rw [x2, x3]; have := hI.k (k := i) (by omega); omega) (fun i => by have := hI.p i; omega)) (R.1 6 (jm0) (show jm0 < E 0 6 by omega)) rfl hl rfl (Nat.le_of_ble_eq_true rfl) ⟨Nat.le_of_ble_eq_true rfl, Nat.le_of_ble_eq_true rfl⟩ ⟨Nat.le_of_ble_eq_true rfl, Nat.le_of_ble_eq_true rfl⟩ ?_
          rintro _ M H locs ⟨rfl, ad2, h02, R⟩ hM
          exact x_zret X hr hlocks hM dX6_sell_75 ⟨Nat.le_of_ble_eq_true rfl, Nat.le_of_ble_eq_true rfl⟩ (bI_nar _) (⟨by unfold kSell; rw [if_neg (by rw [iR_lt hjm0 (by omega), iR_lt hjm1 (by omega)]; decide), if_neg (by rw [nI_toInt (by omega)]; omega), ix_nI (by omega), ix_nI (by omega), if_pos ⟨by assumption, by omega⟩], congrArg (fun z => some (Value.int z)) (by rw [ix_nI (by omega), ix_nI (by omega)]), by rw [ix_nI (by omega), ix_nI (by omega), ix_nI (by omega)]; exact ⟨ad2, sE E jm0 (F 21 jm0 + 1), P, Q, h02, R, hE.sell _ _, NrT.congr rfl rfl hT, NrP.congr rfl rfl rfl rfl rfl hP⟩⟩)
        · skip
          have c5 := of_decide_eq_true c5
          exact x_throw (cls := EIS) (text := "the skin can't be sold so now") X hst hS hZ ht hlocks hM hl (by decide +kernel) (by decide) xh_55 xg_55 dX6_sell_57 dX6_sell_60 dX6_sell_61 dX6_sell_63 dX6_sell_66 ⟨Nat.le_of_ble_eq_true rfl, Nat.le_of_ble_eq_true rfl⟩ ⟨Nat.le_of_ble_eq_true rfl, Nat.le_of_ble_eq_true rfl⟩ ⟨Nat.le_of_ble_eq_true rfl, Nat.le_of_ble_eq_true rfl⟩ (⟨⟨ad, E, P, Q, rfl, R, hE, hT, hP⟩, Or.inr (Or.inr ⟨rfl, by unfold kSell; rw [if_neg (by rw [iR_lt hjm0 (by omega), iR_lt hjm1 (by omega)]; decide), if_neg (by rw [nI_toInt (by omega)]; omega), ix_nI (by omega), ix_nI (by omega), if_neg (fun y => by first | (rw [show cDeal N F jm0 jm1 = false by assumption] at y; cases y.1) | (rw [show cDeal N F jm0 jm1 = false by assumption] at y; cases y) | (have := y.2; omega))]⟩)⟩)
    · skip
      exact x_throw (cls := EIA) (text := "no such price") X hst hS hZ ht hlocks hM hl (by decide +kernel) (by decide) xh_67 xg_67 dX6_sell_25 dX6_sell_28 dX6_sell_29 dX6_sell_31 dX6_sell_34 ⟨Nat.le_of_ble_eq_true rfl, Nat.le_of_ble_eq_true rfl⟩ ⟨Nat.le_of_ble_eq_true rfl, Nat.le_of_ble_eq_true rfl⟩ ⟨Nat.le_of_ble_eq_true rfl, Nat.le_of_ble_eq_true rfl⟩ (⟨⟨ad, E, P, Q, rfl, R, hE, hT, hP⟩, Or.inr (Or.inl ⟨rfl, by unfold kSell; rw [if_neg (by rw [iR_lt hjm0 (by omega), iR_lt hjm1 (by omega)]; decide), if_pos (by omega)]⟩)⟩)
set_option maxHeartbeats 4000000 in
set_option maxRecDepth 100000 in
theorem c_X6_ranked (l : Launch) (G : mG) (x : Nat) (N : Nat → Nat) (F : Nat → Nat → Nat) (B : Nat → Int32) (M : Mem) (cs : CS G x N F B M) (m0 : Int32) (m1 : Int32) (m2 : Int32) (hst : l.stackTraces = false) (hI : Iv N F) : xMet l yX6_ranked cX6_ranked 6 (some FieldType.int) ({ frames := 7, cells := 3, slots := 18, locals := 104 } : Room) G [.ref x, .int (m0), .int (m1), .int (m2)] M (fun r M' => kRanked N m0 m1 m2 = 0 ∧ r = some (.int (nI (vRanked N F (ix m0) (ix m1) (ix m2)))) ∧ CS G x (N) (F) (B) M') (fun E9 M' => CS G x N F B M' ∧ ((E9 = EIO ∧ kRanked N m0 m1 m2 = 1) ∨ (E9 = EIA ∧ kRanked N m0 m1 m2 = 2))) := by
  obtain ⟨ad, E, P, Q, rfl, R, hE, hT, hP⟩ := cs
  refine xMet.of (by decide) (Nat.le_of_ble_eq_true rfl) ?_
  intro p e s m args below meth c A ls X hr hlocks hname hM hl hS hZ ht
  have hl : lv_has ls 6 [(0, .ref (ad 0 0)), (1, .int (m0)), (2, .int (m1)), (3, .int (m2))] := hl
  have hn := hI.n
  obtain ⟨⟨e1, e10, e2, e11, e3, e12, e6, e13⟩, x2, x3, x4⟩ := id hE
  refine lv_aload_n X.1 X.2.1 dX6_ranked_0 rfl (lv_at hl 0 rfl) ?_
  refine lv_iload_n X.1 X.2.1 dX6_ranked_1 rfl (lv_at hl 1 rfl) ?_
  refine xm_callV X hM hS hZ ck_X6_179 ki_X6_seasonAt ks_X6_seasonAt (ci := 7) rfl dX6_ranked_2 (As := [.int (m0)]) (c_X6_seasonAt l G ad N F B E P Q _ R m0 hst (show E 0 12 ≤ 12 by omega)) (R.1 0 (0) rfl) rfl hl rfl (Nat.le_of_ble_eq_true rfl) ⟨Nat.le_of_ble_eq_true rfl, Nat.le_of_ble_eq_true rfl⟩ ⟨Nat.le_of_ble_eq_true rfl, Nat.le_of_ble_eq_true rfl⟩ (fun E9 ce q9 M1 H1 locs1 hp hM1 h1 h2 h3 => x_out ht hlocks hM1 h1 h2 h3 ⟨Nat.le_of_ble_eq_true rfl, Nat.le_of_ble_eq_true rfl⟩ (by obtain ⟨rfl, h9, rfl⟩ := hp; exact ⟨⟨ad, E, P, Q, rfl, R, hE, hT, hP⟩, Or.inl ⟨rfl, by unfold kRanked; rw [if_pos (by rw [← e12, h9]; rfl)]⟩⟩)) ?_
  rintro _ _ H locs ⟨rfl, h9, rfl⟩ hM
  obtain ⟨jm0, hjm0, rfl⟩ := iR_t h9 (by omega)
  refine lv_topv (y := .ref (ad 3 (jm0))) (by rw [ix_nI (by omega)]) ?_
  have hjm0 : jm0 < N 12 + 1 := by omega
  refine lv_astore (lv' := [(4, .ref (ad 3 (jm0))), (0, .ref (ad 0 0)), (1, .int (nI (jm0))), (2, .int (m1)), (3, .int (m2))]) X.1 X.2.1 dX6_ranked_5 hl (by decide) rfl (fun ls hl => ?_)
  refine lv_aload_n X.1 X.2.1 dX6_ranked_7 rfl (lv_at hl 1 rfl) ?_
  refine lv_iload_n X.1 X.2.1 dX6_ranked_8 rfl (lv_at hl 3 rfl) ?_
  refine xm_callV X hM hS hZ ck_X6_74 ki_X6_playerAt ks_X6_playerAt (ci := 7) rfl dX6_ranked_9 (As := [.int (m1)]) (c_X6_playerAt l G ad N F B E P Q _ R m1 hst (show E 0 10 ≤ 16 by omega)) (R.1 0 (0) rfl) rfl hl rfl (Nat.le_of_ble_eq_true rfl) ⟨Nat.le_of_ble_eq_true rfl, Nat.le_of_ble_eq_true rfl⟩ ⟨Nat.le_of_ble_eq_true rfl, Nat.le_of_ble_eq_true rfl⟩ (fun E9 ce q9 M1 H1 locs1 hp hM1 h1 h2 h3 => x_out ht hlocks hM1 h1 h2 h3 ⟨Nat.le_of_ble_eq_true rfl, Nat.le_of_ble_eq_true rfl⟩ (by obtain ⟨rfl, h9, rfl⟩ := hp; exact ⟨⟨ad, E, P, Q, rfl, R, hE, hT, hP⟩, Or.inl ⟨rfl, by unfold kRanked; rw [if_pos (by rw [iR_lt hjm0 (by omega), ← e10, h9]; rfl)]⟩⟩)) ?_
  rintro _ _ H locs ⟨rfl, h9, rfl⟩ hM
  obtain ⟨jm1, hjm1, rfl⟩ := iR_t h9 (by omega)
  refine lv_topv (y := .ref (ad 1 (jm1))) (by rw [ix_nI (by omega)]) ?_
  have hjm1 : jm1 < N 1 := by omega
  have pq1 := hI.p jm1
  refine lv_astore (lv' := [(5, .ref (ad 1 (jm1))), (4, .ref (ad 3 (jm0))), (0, .ref (ad 0 0)), (1, .int (nI (jm0))), (2, .int (nI (jm1))), (3, .int (m2))]) X.1 X.2.1 dX6_ranked_12 hl (by decide) rfl (fun ls hl => ?_)
  refine lv_iload_n X.1 X.2.1 dX6_ranked_14 rfl (lv_at hl 5 rfl) ?_
  by_cases hw : 0 ≤ (m2).toInt ∧ (m2).toInt ≤ 2
  · skip
    obtain ⟨u0, hu0l, hu0, rfl⟩ := in_t 0 (x := m2) (n := 2) ⟨by omega, by omega⟩ (by omega)
    rcases (show u0 = 0 ∨ u0 = 1 ∨ u0 = 2 by omega) with rfl | rfl | rfl
    · skip
      refine lv_tableIn (x := nI 0) (tgt := 40) X.1 X.2.1 dX6_ranked_15 (by decide) (by decide) rfl (by decide) ?_
      refine lv_aload X.1 X.2.1 dX6_ranked_40 (lv_at hl 1 rfl) ?_
      refine lv_aload X.1 X.2.1 dX6_ranked_42 (lv_at hl 0 rfl) ?_
      refine mg_getN X hM (ci := 2) (k := 0) rfl kwX1 (by decide) kn_X6_183 dX6_ranked_44 (R.1 1 (jm1) (show jm1 < E 0 1 by omega)) (v := .int (nI (jm1))) rfl ?_
      have hb : ∀ z, z < 16 → P jm0 z ≤ 1000 ∧ Q jm0 z ≤ 1000 := fun z hz => by have q1 := hP jm0 z (by omega) hz; have q2 := pts_le F jm0 z (n := N 6) (by omega); have q3 := gms_le F jm0 z (n := N 6) (by omega); omega
      refine m_callVN X hM ckN_X6_184 ki_X4_pointsOf ks_X4_pointsOf (ci := 5) rfl dX6_ranked_47 (As := [.int (nI (jm1))]) (c_X4_pointsOf l G ad N F B E P Q _ R jm0 jm1 (show _ < E 0 3 by omega) (by omega)) (R.1 3 (jm0) (show jm0 < E 0 3 by omega)) rfl hl rfl (Nat.le_of_ble_eq_true rfl) ⟨Nat.le_of_ble_eq_true rfl, Nat.le_of_ble_eq_true rfl⟩ ⟨Nat.le_of_ble_eq_true rfl, Nat.le_of_ble_eq_true rfl⟩ ?_
      rintro _ _ H locs ⟨rfl, rfl⟩ hM
      exact x_iret X hr hlocks hM dX6_ranked_50 ⟨Nat.le_of_ble_eq_true rfl, Nat.le_of_ble_eq_true rfl⟩ (⟨by unfold kRanked; rw [if_neg (by rw [iR_lt hjm0 (by omega), iR_lt hjm1 (by omega)]; decide), if_pos (by decide)], congrArg (fun z => some (Value.int z)) (by rw [ix_nI (by omega), ix_nI (by omega), ix_nI (by omega)]; unfold vRanked; rw [if_pos rfl, (hP jm0 jm1 (by omega) (by omega)).1]), by exact ⟨ad, E, P, Q, rfl, R, hE, NrT.congr rfl rfl hT, NrP.congr rfl rfl rfl rfl rfl hP⟩⟩)
    · skip
      refine lv_tableIn (x := nI 1) (tgt := 51) X.1 X.2.1 dX6_ranked_15 (by decide) (by decide) rfl (by decide) ?_
      refine lv_aload X.1 X.2.1 dX6_ranked_51 (lv_at hl 1 rfl) ?_
      refine lv_aload X.1 X.2.1 dX6_ranked_53 (lv_at hl 0 rfl) ?_
      refine mg_getN X hM (ci := 2) (k := 0) rfl kwX1 (by decide) kn_X6_183 dX6_ranked_55 (R.1 1 (jm1) (show jm1 < E 0 1 by omega)) (v := .int (nI (jm1))) rfl ?_
      have hb : ∀ z, z < 16 → P jm0 z ≤ 1000 ∧ Q jm0 z ≤ 1000 := fun z hz => by have q1 := hP jm0 z (by omega) hz; have q2 := pts_le F jm0 z (n := N 6) (by omega); have q3 := gms_le F jm0 z (n := N 6) (by omega); omega
      refine m_callVN X hM ckN_X6_188 ki_X4_gamesOf ks_X4_gamesOf (ci := 5) rfl dX6_ranked_58 (As := [.int (nI (jm1))]) (c_X4_gamesOf l G ad N F B E P Q _ R jm0 jm1 (show _ < E 0 3 by omega) (by omega)) (R.1 3 (jm0) (show jm0 < E 0 3 by omega)) rfl hl rfl (Nat.le_of_ble_eq_true rfl) ⟨Nat.le_of_ble_eq_true rfl, Nat.le_of_ble_eq_true rfl⟩ ⟨Nat.le_of_ble_eq_true rfl, Nat.le_of_ble_eq_true rfl⟩ ?_
      rintro _ _ H locs ⟨rfl, rfl⟩ hM
      exact x_iret X hr hlocks hM dX6_ranked_61 ⟨Nat.le_of_ble_eq_true rfl, Nat.le_of_ble_eq_true rfl⟩ (⟨by unfold kRanked; rw [if_neg (by rw [iR_lt hjm0 (by omega), iR_lt hjm1 (by omega)]; decide), if_pos (by decide)], congrArg (fun z => some (Value.int z)) (by rw [ix_nI (by omega), ix_nI (by omega), ix_nI (by omega)]; unfold vRanked; rw [if_neg (show ¬ (1 : Nat) = 0 by decide), if_pos rfl, (hP jm0 jm1 (by omega) (by omega)).2]), by exact ⟨ad, E, P, Q, rfl, R, hE, NrT.congr rfl rfl hT, NrP.congr rfl rfl rfl rfl rfl hP⟩⟩)
    · skip
      refine lv_tableIn (x := nI 2) (tgt := 62) X.1 X.2.1 dX6_ranked_15 (by decide) (by decide) rfl (by decide) ?_
      refine lv_aload X.1 X.2.1 dX6_ranked_62 (lv_at hl 1 rfl) ?_
      refine lv_aload X.1 X.2.1 dX6_ranked_64 (lv_at hl 0 rfl) ?_
      refine mg_getN X hM (ci := 2) (k := 0) rfl kwX1 (by decide) kn_X6_183 dX6_ranked_66 (R.1 1 (jm1) (show jm1 < E 0 1 by omega)) (v := .int (nI (jm1))) rfl ?_
      have hb : ∀ z, z < 16 → P jm0 z ≤ 1000 ∧ Q jm0 z ≤ 1000 := fun z hz => by have q1 := hP jm0 z (by omega) hz; have q2 := pts_le F jm0 z (n := N 6) (by omega); have q3 := gms_le F jm0 z (n := N 6) (by omega); omega
      refine m_callVN X hM ckN_X6_191 ki_X4_placeOf ks_X4_placeOf (ci := 5) rfl dX6_ranked_69 (As := [.int (nI (jm1))]) (c_X4_placeOf l G ad N F B E P Q _ R jm0 jm1 (show _ < E 0 3 by omega) hb (by omega)) (R.1 3 (jm0) (show jm0 < E 0 3 by omega)) rfl hl rfl (Nat.le_of_ble_eq_true rfl) ⟨Nat.le_of_ble_eq_true rfl, Nat.le_of_ble_eq_true rfl⟩ ⟨Nat.le_of_ble_eq_true rfl, Nat.le_of_ble_eq_true rfl⟩ ?_
      rintro _ _ H locs ⟨rfl, rfl⟩ hM
      exact x_iret X hr hlocks hM dX6_ranked_72 ⟨Nat.le_of_ble_eq_true rfl, Nat.le_of_ble_eq_true rfl⟩ (⟨by unfold kRanked; rw [if_neg (by rw [iR_lt hjm0 (by omega), iR_lt hjm1 (by omega)]; decide), if_pos (by decide)], congrArg (fun z => some (Value.int z)) (by rw [ix_nI (by omega), ix_nI (by omega), ix_nI (by omega)]; unfold vRanked; rw [if_neg (show ¬ (2 : Nat) = 0 by decide), if_neg (show ¬ (2 : Nat) = 1 by decide), plC_plM hI (fun p hp => hP jm0 p (by omega) hp) (by omega)]), by exact ⟨ad, E, P, Q, rfl, R, hE, NrT.congr rfl rfl hT, NrP.congr rfl rfl rfl rfl rfl hP⟩⟩)
  · skip
    refine lv_tableOut (tgt := 73) X.1 X.2.1 dX6_ranked_15 (by omega) (by decide) ?_
    exact x_throw (cls := EIA) (text := "nothing such of a ranking") X hst hS hZ ht hlocks hM hl (by decide +kernel) (by decide) xh_67 xg_67 dX6_ranked_73 dX6_ranked_76 dX6_ranked_77 dX6_ranked_79 dX6_ranked_82 ⟨Nat.le_of_ble_eq_true rfl, Nat.le_of_ble_eq_true rfl⟩ ⟨Nat.le_of_ble_eq_true rfl, Nat.le_of_ble_eq_true rfl⟩ ⟨Nat.le_of_ble_eq_true rfl, Nat.le_of_ble_eq_true rfl⟩ (⟨⟨ad, E, P, Q, rfl, R, hE, hT, hP⟩, Or.inr ⟨rfl, by unfold kRanked; rw [if_neg (by rw [iR_lt hjm0 (by omega), iR_lt hjm1 (by omega)]; decide), if_neg (by omega)]⟩⟩)
set_option maxHeartbeats 4000000 in
set_option maxRecDepth 100000 in
theorem c_X6_skinOf (l : Launch) (G : mG) (x : Nat) (N : Nat → Nat) (F : Nat → Nat → Nat) (B : Nat → Int32) (M : Mem) (cs : CS G x N F B M) (m0 : Int32) (m1 : Int32) (hst : l.stackTraces = false) (hI : Iv N F) (hJ : Jv N F B) : xMet l yX6_skinOf cX6_skinOf 4 (some FieldType.int) ({ frames := 7, cells := 2, slots := 12, locals := 104 } : Room) G [.ref x, .int (m0), .int (m1)] M (fun r M' => kSkinOf N m0 m1 = 0 ∧ r = some (.int (vSkinOf N F (ix m0) (ix m1))) ∧ CS G x (N) (F) (B) M') (fun E9 M' => CS G x N F B M' ∧ ((E9 = EIO ∧ kSkinOf N m0 m1 = 1) ∨ (E9 = EIA ∧ kSkinOf N m0 m1 = 2))) := by
  obtain ⟨ad, E, P, Q, rfl, R, hE, hT, hP⟩ := cs
  refine xMet.of (by decide) (Nat.le_of_ble_eq_true rfl) ?_
  intro p e s m args below meth c A ls X hr hlocks hname hM hl hS hZ ht
  have hl : lv_has ls 4 [(0, .ref (ad 0 0)), (1, .int (m0)), (2, .int (m1))] := hl
  have hn := hI.n
  obtain ⟨⟨e1, e10, e2, e11, e3, e12, e6, e13⟩, x2, x3, x4⟩ := id hE
  refine lv_aload_n X.1 X.2.1 dX6_skinOf_0 rfl (lv_at hl 0 rfl) ?_
  refine lv_iload_n X.1 X.2.1 dX6_skinOf_1 rfl (lv_at hl 1 rfl) ?_
  refine xm_callV X hM hS hZ ck_X6_113 ki_X6_skinAt ks_X6_skinAt (ci := 7) rfl dX6_skinOf_2 (As := [.int (m0)]) (c_X6_skinAt l G ad N F B E P Q _ R m0 hst (show E 0 13 ≤ 36 by omega)) (R.1 0 (0) rfl) rfl hl rfl (Nat.le_of_ble_eq_true rfl) ⟨Nat.le_of_ble_eq_true rfl, Nat.le_of_ble_eq_true rfl⟩ ⟨Nat.le_of_ble_eq_true rfl, Nat.le_of_ble_eq_true rfl⟩ (fun E9 ce q9 M1 H1 locs1 hp hM1 h1 h2 h3 => x_out ht hlocks hM1 h1 h2 h3 ⟨Nat.le_of_ble_eq_true rfl, Nat.le_of_ble_eq_true rfl⟩ (by obtain ⟨rfl, h9, rfl⟩ := hp; exact ⟨⟨ad, E, P, Q, rfl, R, hE, hT, hP⟩, Or.inl ⟨rfl, by unfold kSkinOf; rw [if_pos (by rw [← e13]; exact h9)]⟩⟩)) ?_
  rintro _ _ H locs ⟨rfl, h9, rfl⟩ hM
  obtain ⟨jm0, hjm0, rfl⟩ := iR_t h9 (by omega)
  refine lv_topv (y := .ref (ad 6 (jm0))) (by rw [ix_nI (by omega)]) ?_
  have hjm0 : jm0 < N 13 := by omega
  have k4 : E 4 jm0 = F 21 jm0 := by rw [x4]
  have k9 := hI.k (k := jm0) (by omega)
  have kb := hI.p (F 17 jm0 - 1)
  refine lv_astore_n (lv' := [(3, .ref (ad 6 (jm0))), (0, .ref (ad 0 0)), (1, .int (nI (jm0))), (2, .int (m1))]) X.1 X.2.1 dX6_skinOf_5 rfl hl (by decide) rfl (fun ls hl => ?_)
  refine lv_iload_n X.1 X.2.1 dX6_skinOf_6 rfl (lv_at hl 3 rfl) ?_
  by_cases hw : 0 ≤ (m1).toInt ∧ (m1).toInt ≤ 6
  · skip
    obtain ⟨u0, hu0l, hu0, rfl⟩ := in_t 0 (x := m1) (n := 6) ⟨by omega, by omega⟩ (by omega)
    rcases (show u0 = 0 ∨ u0 = 1 ∨ u0 = 2 ∨ u0 = 3 ∨ u0 = 4 ∨ u0 = 5 ∨ u0 = 6 by omega) with rfl | rfl | rfl | rfl | rfl | rfl | rfl
    · skip
      refine lv_tableIn (x := nI 0) (tgt := 48) X.1 X.2.1 dX6_skinOf_7 (by decide) (by decide) rfl (by decide) ?_
      refine lv_aload_n X.1 X.2.1 dX6_skinOf_48 rfl (lv_at hl 0 rfl) ?_
      refine mg_getN X hM (ci := 6) (k := 7) rfl kwX5 (by decide) kn_X6_119 dX6_skinOf_49 (R.1 6 (jm0) (show jm0 < E 0 6 by omega)) (v := va_rf (opA ad (F 17 (jm0)))) rfl ?_
      refine m_callS X hM ck_X6_196 kst_X6_numberOf dX6_skinOf_52 (As := [va_rf (opA ad (F 17 (jm0)))]) (c_X6_numberOf l G ad N F B E P Q _ R (F 17 (jm0)) (show _ ≤ E 0 1 by omega)) rfl hl rfl (Nat.le_of_ble_eq_true rfl) ⟨Nat.le_of_ble_eq_true rfl, Nat.le_of_ble_eq_true rfl⟩ ⟨Nat.le_of_ble_eq_true rfl, Nat.le_of_ble_eq_true rfl⟩ ?_
      rintro _ _ H locs ⟨rfl, rfl⟩ hM
      exact x_iret X hr hlocks hM dX6_skinOf_55 ⟨Nat.le_of_ble_eq_true rfl, Nat.le_of_ble_eq_true rfl⟩ (⟨by unfold kSkinOf; rw [if_neg (by rw [iR_lt hjm0 (by omega)]; decide), if_pos (by decide)], congrArg (fun z => some (Value.int z)) (by rw [ix_nI (by omega), ix_nI (by omega)]; unfold vSkinOf; rw [if_pos rfl]), by exact ⟨ad, E, P, Q, rfl, R, hE, NrT.congr rfl rfl hT, NrP.congr rfl rfl rfl rfl rfl hP⟩⟩)
    · skip
      refine lv_tableIn (x := nI 1) (tgt := 56) X.1 X.2.1 dX6_skinOf_7 (by decide) (by decide) rfl (by decide) ?_
      refine lv_aload_n X.1 X.2.1 dX6_skinOf_56 rfl (lv_at hl 0 rfl) ?_
      refine mg_getN X hM (ci := 6) (k := 6) rfl kwX5 (by decide) kn_X6_200 dX6_skinOf_57 (R.1 6 (jm0) (show jm0 < E 0 6 by omega)) (v := va_rf (opA ad (F 16 (jm0)))) rfl ?_
      refine m_callS X hM ck_X6_196 kst_X6_numberOf dX6_skinOf_60 (As := [va_rf (opA ad (F 16 (jm0)))]) (c_X6_numberOf l G ad N F B E P Q _ R (F 16 (jm0)) (show _ ≤ E 0 1 by omega)) rfl hl rfl (Nat.le_of_ble_eq_true rfl) ⟨Nat.le_of_ble_eq_true rfl, Nat.le_of_ble_eq_true rfl⟩ ⟨Nat.le_of_ble_eq_true rfl, Nat.le_of_ble_eq_true rfl⟩ ?_
      rintro _ _ H locs ⟨rfl, rfl⟩ hM
      exact x_iret X hr hlocks hM dX6_skinOf_63 ⟨Nat.le_of_ble_eq_true rfl, Nat.le_of_ble_eq_true rfl⟩ (⟨by unfold kSkinOf; rw [if_neg (by rw [iR_lt hjm0 (by omega)]; decide), if_pos (by decide)], congrArg (fun z => some (Value.int z)) (by rw [ix_nI (by omega), ix_nI (by omega)]; unfold vSkinOf; rw [if_neg (show ¬ (1 : Nat) = 0 by decide), if_pos rfl]), by exact ⟨ad, E, P, Q, rfl, R, hE, NrT.congr rfl rfl hT, NrP.congr rfl rfl rfl rfl rfl hP⟩⟩)
    · skip
      refine lv_tableIn (x := nI 2) (tgt := 64) X.1 X.2.1 dX6_skinOf_7 (by decide) (by decide) rfl (by decide) ?_
      refine lv_aload_n X.1 X.2.1 dX6_skinOf_64 rfl (lv_at hl 0 rfl) ?_
      refine lv_aload_n X.1 X.2.1 dX6_skinOf_65 rfl (lv_at hl 1 rfl) ?_
      refine mg_get X hM (ci := 7) (k := 8) rfl kwX6 (by decide) kf_X6_89 dX6_skinOf_66 (R.1 0 (0) rfl) (v := .int (nI (N 0))) rfl ?_
      refine m_callVN X hM ckN_X6_203 ki_X5_userOn ks_X5_userOn (ci := 6) rfl dX6_skinOf_69 (As := [.int (nI (N 0))]) (c_X5_userOn l G ad N F B E P Q _ R jm0 (N 0) (show _ < E 0 6 by omega) (by omega) (show F 19 jm0 < 2 ^ 31 by omega)) (R.1 6 (jm0) (show jm0 < E 0 6 by omega)) rfl hl rfl (Nat.le_of_ble_eq_true rfl) ⟨Nat.le_of_ble_eq_true rfl, Nat.le_of_ble_eq_true rfl⟩ ⟨Nat.le_of_ble_eq_true rfl, Nat.le_of_ble_eq_true rfl⟩ ?_
      rintro _ _ H locs ⟨rfl, rfl⟩ hM
      refine m_callS X hM ck_X6_196 kst_X6_numberOf dX6_skinOf_72 (As := [va_rf (opA ad (if ¬ F 18 jm0 = 0 ∧ (N 0) ≤ F 19 jm0 then F 18 jm0 else F 17 jm0))]) (c_X6_numberOf l G ad N F B E P Q _ R (if ¬ F 18 jm0 = 0 ∧ (N 0) ≤ F 19 jm0 then F 18 jm0 else F 17 jm0) (by show _ ≤ E 0 1; split <;> omega)) rfl hl rfl (Nat.le_of_ble_eq_true rfl) ⟨Nat.le_of_ble_eq_true rfl, Nat.le_of_ble_eq_true rfl⟩ ⟨Nat.le_of_ble_eq_true rfl, Nat.le_of_ble_eq_true rfl⟩ ?_
      rintro _ _ H locs ⟨rfl, rfl⟩ hM
      exact x_iret X hr hlocks hM dX6_skinOf_75 ⟨Nat.le_of_ble_eq_true rfl, Nat.le_of_ble_eq_true rfl⟩ (⟨by unfold kSkinOf; rw [if_neg (by rw [iR_lt hjm0 (by omega)]; decide), if_pos (by decide)], congrArg (fun z => some (Value.int z)) (by rw [ix_nI (by omega), ix_nI (by omega)]; unfold vSkinOf; rw [if_neg (show ¬ (2 : Nat) = 0 by decide), if_neg (show ¬ (2 : Nat) = 1 by decide), if_pos rfl]; rw [us_eq (hJ.1 jm0 hjm0)]), by exact ⟨ad, E, P, Q, rfl, R, hE, NrT.congr rfl rfl hT, NrP.congr rfl rfl rfl rfl rfl hP⟩⟩)
    · skip
      refine lv_tableIn (x := nI 3) (tgt := 76) X.1 X.2.1 dX6_skinOf_7 (by decide) (by decide) rfl (by decide) ?_
      refine lv_aload_n X.1 X.2.1 dX6_skinOf_76 rfl (lv_at hl 0 rfl) ?_
      refine mg_getN X hM (ci := 6) (k := 1) rfl kwX5 (by decide) kn_X6_206 dX6_skinOf_77 (R.1 6 (jm0) (show jm0 < E 0 6 by omega)) (v := .ref (ad 3 (F 14 (jm0)))) rfl ?_
      refine mg_getN X hM (ci := 5) (k := 0) rfl kwX4 (by decide) kn_X6_104 dX6_skinOf_80 (R.1 3 (F 14 (jm0)) (show F 14 (jm0) < E 0 3 by omega)) (v := .int (nI (F 14 (jm0)))) rfl ?_
      exact x_iret X hr hlocks hM dX6_skinOf_83 ⟨Nat.le_of_ble_eq_true rfl, Nat.le_of_ble_eq_true rfl⟩ (⟨by unfold kSkinOf; rw [if_neg (by rw [iR_lt hjm0 (by omega)]; decide), if_pos (by decide)], congrArg (fun z => some (Value.int z)) (by rw [ix_nI (by omega), ix_nI (by omega)]; unfold vSkinOf; rw [if_neg (show ¬ (3 : Nat) = 0 by decide), if_neg (show ¬ (3 : Nat) = 1 by decide), if_neg (show ¬ (3 : Nat) = 2 by decide), if_pos rfl]), by exact ⟨ad, E, P, Q, rfl, R, hE, NrT.congr rfl rfl hT, NrP.congr rfl rfl rfl rfl rfl hP⟩⟩)
    · skip
      refine lv_tableIn (x := nI 4) (tgt := 84) X.1 X.2.1 dX6_skinOf_7 (by decide) (by decide) rfl (by decide) ?_
      refine lv_aload_n X.1 X.2.1 dX6_skinOf_84 rfl (lv_at hl 0 rfl) ?_
      refine mg_getN X hM (ci := 6) (k := 2) rfl kwX5 (by decide) kn_X6_209 dX6_skinOf_85 (R.1 6 (jm0) (show jm0 < E 0 6 by omega)) (v := .int (nI (F 15 (jm0)))) rfl ?_
      exact x_iret X hr hlocks hM dX6_skinOf_88 ⟨Nat.le_of_ble_eq_true rfl, Nat.le_of_ble_eq_true rfl⟩ (⟨by unfold kSkinOf; rw [if_neg (by rw [iR_lt hjm0 (by omega)]; decide), if_pos (by decide)], congrArg (fun z => some (Value.int z)) (by rw [ix_nI (by omega), ix_nI (by omega)]; unfold vSkinOf; rw [if_neg (show ¬ (4 : Nat) = 0 by decide), if_neg (show ¬ (4 : Nat) = 1 by decide), if_neg (show ¬ (4 : Nat) = 2 by decide), if_neg (show ¬ (4 : Nat) = 3 by decide), if_pos rfl]), by exact ⟨ad, E, P, Q, rfl, R, hE, NrT.congr rfl rfl hT, NrP.congr rfl rfl rfl rfl rfl hP⟩⟩)
    · skip
      refine lv_tableIn (x := nI 5) (tgt := 89) X.1 X.2.1 dX6_skinOf_7 (by decide) (by decide) rfl (by decide) ?_
      refine lv_aload_n X.1 X.2.1 dX6_skinOf_89 rfl (lv_at hl 0 rfl) ?_
      refine mg_getN X hM (ci := 6) (k := 4) rfl kwX5 (by decide) kn_X6_212 dX6_skinOf_90 (R.1 6 (jm0) (show jm0 < E 0 6 by omega)) (v := .int (nI (E 4 (jm0)))) rfl ?_
      exact x_iret X hr hlocks hM dX6_skinOf_93 ⟨Nat.le_of_ble_eq_true rfl, Nat.le_of_ble_eq_true rfl⟩ (⟨by unfold kSkinOf; rw [if_neg (by rw [iR_lt hjm0 (by omega)]; decide), if_pos (by decide)], congrArg (fun z => some (Value.int z)) (by rw [ix_nI (by omega), ix_nI (by omega)]; unfold vSkinOf; rw [if_neg (show ¬ (5 : Nat) = 0 by decide), if_neg (show ¬ (5 : Nat) = 1 by decide), if_neg (show ¬ (5 : Nat) = 2 by decide), if_neg (show ¬ (5 : Nat) = 3 by decide), if_neg (show ¬ (5 : Nat) = 4 by decide), if_pos rfl]; rw [x4]), by exact ⟨ad, E, P, Q, rfl, R, hE, NrT.congr rfl rfl hT, NrP.congr rfl rfl rfl rfl rfl hP⟩⟩)
    · skip
      refine lv_tableIn (x := nI 6) (tgt := 94) X.1 X.2.1 dX6_skinOf_7 (by decide) (by decide) rfl (by decide) ?_
      refine lv_aload_n X.1 X.2.1 dX6_skinOf_94 rfl (lv_at hl 0 rfl) ?_
      refine m_callVN X hM ckN_X6_215 ki_X5_isGood ks_X5_isGood (ci := 6) rfl dX6_skinOf_95 (As := []) (c_X5_isGood l G ad N F B E P Q _ R jm0 (show _ < E 0 6 by omega)) (R.1 6 (jm0) (show jm0 < E 0 6 by omega)) rfl hl rfl (Nat.le_of_ble_eq_true rfl) ⟨Nat.le_of_ble_eq_true rfl, Nat.le_of_ble_eq_true rfl⟩ ⟨Nat.le_of_ble_eq_true rfl, Nat.le_of_ble_eq_true rfl⟩ ?_
      rintro _ _ H locs ⟨rfl, rfl⟩ hM
      refine b_bool_eq (tgt := 105) X dX6_skinOf_98 (by decide) (fun c1 => ?_) (fun c1 => ?_)
      · skip
        have c1 := of_decide_eq_false c1
        refine lv_iconst (v := nI (0)) X.1 X.2.1 dX6_skinOf_105 (by decide) ?_
        exact x_iret X hr hlocks hM dX6_skinOf_106 ⟨Nat.le_of_ble_eq_true rfl, Nat.le_of_ble_eq_true rfl⟩ (⟨by unfold kSkinOf; rw [if_neg (by rw [iR_lt hjm0 (by omega)]; decide), if_pos (by decide)], congrArg (fun z => some (Value.int z)) (by rw [ix_nI (by omega), ix_nI (by omega)]; unfold vSkinOf; rw [if_neg (show ¬ (6 : Nat) = 0 by decide), if_neg (show ¬ (6 : Nat) = 1 by decide), if_neg (show ¬ (6 : Nat) = 2 by decide), if_neg (show ¬ (6 : Nat) = 3 by decide), if_neg (show ¬ (6 : Nat) = 4 by decide), if_neg (show ¬ (6 : Nat) = 5 by decide)]; first | (rw [if_neg (by omega)]; rfl) | (rw [if_pos (by omega)]; rfl)), by exact ⟨ad, E, P, Q, rfl, R, hE, NrT.congr rfl rfl hT, NrP.congr rfl rfl rfl rfl rfl hP⟩⟩)
      · skip
        have c1 := of_decide_eq_true c1
        refine lv_iconst (v := nI (1)) X.1 X.2.1 dX6_skinOf_101 (by decide) ?_
        refine lv_goto (tgt := 106) X.1 X.2.1 dX6_skinOf_102 (by decide) ?_
        exact x_iret X hr hlocks hM dX6_skinOf_106 ⟨Nat.le_of_ble_eq_true rfl, Nat.le_of_ble_eq_true rfl⟩ (⟨by unfold kSkinOf; rw [if_neg (by rw [iR_lt hjm0 (by omega)]; decide), if_pos (by decide)], congrArg (fun z => some (Value.int z)) (by rw [ix_nI (by omega), ix_nI (by omega)]; unfold vSkinOf; rw [if_neg (show ¬ (6 : Nat) = 0 by decide), if_neg (show ¬ (6 : Nat) = 1 by decide), if_neg (show ¬ (6 : Nat) = 2 by decide), if_neg (show ¬ (6 : Nat) = 3 by decide), if_neg (show ¬ (6 : Nat) = 4 by decide), if_neg (show ¬ (6 : Nat) = 5 by decide)]; first | (rw [if_neg (by omega)]; rfl) | (rw [if_pos (by omega)]; rfl)), by exact ⟨ad, E, P, Q, rfl, R, hE, NrT.congr rfl rfl hT, NrP.congr rfl rfl rfl rfl rfl hP⟩⟩)
  · skip
    refine lv_tableOut (tgt := 107) X.1 X.2.1 dX6_skinOf_7 (by omega) (by decide) ?_
    exact x_throw (cls := EIA) (text := "nothing such of a skin") X hst hS hZ ht hlocks hM hl (by decide +kernel) (by decide) xh_67 xg_67 dX6_skinOf_107 dX6_skinOf_110 dX6_skinOf_111 dX6_skinOf_113 dX6_skinOf_116 ⟨Nat.le_of_ble_eq_true rfl, Nat.le_of_ble_eq_true rfl⟩ ⟨Nat.le_of_ble_eq_true rfl, Nat.le_of_ble_eq_true rfl⟩ ⟨Nat.le_of_ble_eq_true rfl, Nat.le_of_ble_eq_true rfl⟩ (⟨⟨ad, E, P, Q, rfl, R, hE, hT, hP⟩, Or.inr ⟨rfl, by unfold kSkinOf; rw [if_neg (by rw [iR_lt hjm0 (by omega)]; decide), if_neg (by omega)]⟩⟩)
