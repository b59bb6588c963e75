theorem NrE.e {N : Nat → Nat} {F E E1 : Nat → Nat → Nat} (h : NrE N F E) (he : ∀ a, a ≠ 1 → E1 a = E a) : NrE N F E1 := by
  unfold NrE
  rw [he 0 (by decide), he 2 (by decide), he 3 (by decide), he 4 (by decide)]
  exact h
theorem tdy_0 {N : Nat → Nat} {F : Nat → Nat → Nat} (hI : Iv N F) {d : Nat} (hd : N 0 < d) (r : Nat) : ∀ {m : Nat}, m ≤ N 6 → tdy F d r m = 0 := by
  intro m
  induction m with
  | zero => intro _; rfl
  | succ m ih =>
    intro hm
    have h1 := hI.m (m := m) (by omega)
    show sumN _ m + tdC F d r m = 0
    have h2 : tdC F d r m = 0 := by unfold tdC; rw [if_neg (by omega)]
    rw [h2]
    exact ih (by omega)
theorem Iv.look {N : Nat → Nat} {F : Nat → Nat → Nat} (hI : Iv N F) (B : Nat → Int32) : ∀ k, k ≤ N 13 → Iv N (lookS N F B k).1
  | 0, _ => hI
  | k + 1, hk => by
    have ih := hI.look B k (by omega)
    rw [lookS]
    by_cases h : heirS N F (F 14 k) (F 15 k) = (lookS N F B k).1 16 k
    · rw [if_pos h]; exact ih
    · rw [if_neg h]; exact ih.inh (by omega) (heirS_le _ _ _ _)
theorem NrT.look {N : Nat → Nat} {F E E2 : Nat → Nat → Nat} {B : Nat → Int32} {k : Nat} (h2 : E2 1 = E 1) (h : NrT N F E) : NrT N (lookS N F B k).1 E2 :=
  NrT.congr (lookS_off N F B (by decide) k) (lookS_off N F B (by decide) k) (fun r hr => by rw [h2]; exact h r hr)
theorem NrP.look {N : Nat → Nat} {F P Q : Nat → Nat → Nat} {B : Nat → Int32} {k : Nat} (h : NrP N F P Q) : NrP N (lookS N F B k).1 P Q :=
  NrP.congr (lookS_off N F B (by decide) k) (lookS_off N F B (by decide) k) (lookS_off N F B (by decide) k) (lookS_off N F B (by decide) k) (lookS_off N F B (by decide) k) h
theorem cd_eq (N : Nat → Nat) (F : Nat → Nat → Nat) (k p : Nat) : cDeal N F k p = decide (F 17 k ≠ 0 ∧ p + 1 ≠ 0 ∧ F 17 k ≠ p + 1 ∧ F 3 (F 17 k - 1) ≤ N 0 ∧ F 3 (p + 1 - 1) ≤ N 0) :=
  decide_eq_decide.mpr ⟨fun z => ⟨z.1, by omega, z.2.1, z.2.2.1, z.2.2.2⟩, fun z => ⟨z.1, z.2.2.1, z.2.2.2.1, z.2.2.2.2⟩⟩
set_option maxHeartbeats 4000000 in
set_option maxRecDepth 100000 in
theorem c_X6_pass (l : Launch) (G : mG) (x : Nat) (N : Nat → Nat) (F : Nat → Nat → Nat) (B : Nat → Int32) (M : Mem) (cs : CS G x N F B M) (m0 : Int32) (hst : l.stackTraces = false) (hI : Iv N F) : xMet l yX6_pass cX6_pass 4 (some FieldType.int) ({ frames := 6, cells := 1, slots := 6, locals := 82 } : Room) G [.ref x, .int (m0)] M (fun r M' => kPass m0 = 0 ∧ r = some (.int (nI (N 0 + ix m0))) ∧ CS G x (va_up N 0 (N 0 + ix m0)) (F) (B) M') (fun E9 M' => CS G x N F B M' ∧ ((E9 = EIA ∧ kPass m0 = 1))) := by
  obtain ⟨ad, E, P, Q, rfl, R, hE, hT, hP⟩ := cs
  refine xMet.of (by decide) (Nat.le_of_ble_eq_true rfl) ?_
  intro p e s m args below meth c A ls X hr hlocks hname hM hl hS hZ ht
  have hl : lv_has ls 4 [(0, .ref (ad 0 0)), (1, .int (m0))] := hl
  have hn := hI.n
  obtain ⟨⟨e1, e10, e2, e11, e3, e12, e6, e13⟩, x2, x3, x4⟩ := id hE
  refine lv_iload_n X.1 X.2.1 dX6_pass_0 rfl (lv_at hl 1 rfl) ?_
  refine lv_iconst (v := nI (1)) X.1 X.2.1 dX6_pass_1 (by decide) ?_
  refine b_icmp_lt (tgt := 12) X dX6_pass_2 (by decide) (a := (m0).toInt) (b := ((1 : Nat) : Int)) (rfl) (nI_ti (by omega)) (fun c1 => ?_) (fun c1 => ?_)
  · skip
    exact x_throw (cls := EIA) (text := "no such days to pass") X hst hS hZ ht hlocks hM hl (by decide +kernel) (by decide) xh_67 xg_67 dX6_pass_12 dX6_pass_15 dX6_pass_16 dX6_pass_18 dX6_pass_21 ⟨Nat.le_of_ble_eq_true rfl, Nat.le_of_ble_eq_true rfl⟩ ⟨Nat.le_of_ble_eq_true rfl, Nat.le_of_ble_eq_true rfl⟩ ⟨Nat.le_of_ble_eq_true rfl, Nat.le_of_ble_eq_true rfl⟩ (⟨⟨ad, E, P, Q, rfl, R, hE, hT, hP⟩, ⟨rfl, by unfold kPass; rw [if_neg (by omega)]⟩⟩)
  · skip
    refine lv_iload_n X.1 X.2.1 dX6_pass_5 rfl (lv_at hl 1 rfl) ?_
    refine lv_sipush (v := nI (400)) X.1 X.2.1 dX6_pass_6 (by decide) ?_
    refine b_icmp_le (tgt := 22) X dX6_pass_9 (by decide) (a := (m0).toInt) (b := ((400 : Nat) : Int)) (rfl) (nI_ti (by omega)) (fun c2 => ?_) (fun c2 => ?_)
    · skip
      obtain ⟨v0, hv0l, hv0, rfl⟩ := in_t 1 (x := m0) (n := 400) ⟨by omega, by omega⟩ (by omega)
      refine lv_aload_n X.1 X.2.1 dX6_pass_22 rfl (lv_at hl 0 rfl) ?_
      refine lv_dup X.1 X.2.1 dX6_pass_23 rfl ?_
      refine mg_get X hM (ci := 7) (k := 8) rfl kwX6 (by decide) kf_X6_89 dX6_pass_24 (R.1 0 (0) rfl) (v := .int (nI (N 0))) rfl ?_
      refine lv_iload_n X.1 X.2.1 dX6_pass_27 rfl (lv_at hl 1 rfl) ?_
      refine lv_iadd X.1 X.2.1 dX6_pass_28 ?_
      refine lv_top (y := nI (N 0 + v0)) (nI_add _ _) ?_
      refine mg_put X hM tyX6 tyX6_ok nmX6 (ci := 7) (k := 8) rfl kwX6 (by decide) kf_X6_89 rfl dX6_pass_29 (R.1 0 (0) rfl) rfl rfl (Nat.le_of_ble_eq_true rfl) (fun H locs hM => ?_)
      obtain ⟨M, hM, R⟩ : ∃ M2, mW G A s.heap M2 H locs ∧ RC G ad (va_up N 0 (N 0 + v0)) F B E P Q M2 := ⟨_, hM, R.nDay (N 0 + v0)⟩
      refine lv_iconst (v := nI (0)) X.1 X.2.1 dX6_pass_32 (by decide) ?_
      refine lv_istore_n (lv' := [(2, .int (nI (0))), (0, .ref (ad 0 0)), (1, .int (nI (v0)))]) X.1 X.2.1 dX6_pass_33 rfl hl (by decide) rfl (fun ls hl => ?_)
      have loop : ∀ (n9 : Nat) (i : Nat) (M : Mem) (E1 : Nat → Nat → Nat), (i ≤ 4) → (5 ≤ i + n9) → (RC G ad (va_up N 0 (N 0 + v0)) F B E1 P Q M) → ((∀ a, a ≠ 1 → E1 a = E a) ∧ ∀ r, r < i → E1 1 r = 0) → ∀ (H : Heap) (locs : List Loc) (ls : Array Slot), mW G A s.heap M H locs → lv_has ls 4 [(0, .ref (ad 0 0)), (1, .int (nI (v0))), (2, .int (nI (i)))] → W p l e ({ frames := 6, cells := 1, slots := 6, locals := 82 } : Room) s m args below meth c H locs 0 0 (vx_MQ below (mQ G A (fun r M' => kPass (nI v0) = 0 ∧ r = some (.int (nI (N 0 + ix (nI v0)))) ∧ CS G (ad 0 0) (va_up N 0 (N 0 + ix (nI v0))) (F) (B) M')) (xC G A (fun E9 M' => CS G (ad 0 0) N F B M' ∧ ((E9 = EIA ∧ kPass (nI v0) = 1)))) args s 1 6 A) (F0 m 34 ls []) := by
        intro n9
        induction n9 with
        | zero => intro i M E1 hi hm9 R hE1; exact absurd hm9 (by omega)
        | succ n9 ih_loop =>
          intro i M E1 hi hm9 R hE1 H locs ls hM hl
          refine lv_iload_n X.1 X.2.1 dX6_pass_34 rfl (lv_at hl 2 rfl) ?_
          refine lv_aload_n X.1 X.2.1 dX6_pass_35 rfl (lv_at hl 0 rfl) ?_
          refine mg_get X hM (ci := 7) (k := 4) rfl kwX6 (by decide) kf_X6_35 dX6_pass_36 (R.1 0 (0) rfl) (v := .ref (ad 14 0)) rfl ?_
          refine mg_alen X hM 7 rfl dX6_pass_39 (R.1 14 (0) rfl) ?_
          refine b_icmp_ge (tgt := 65) X dX6_pass_40 (by decide) (a := ((i : Nat) : Int)) (b := ((4 : Nat) : Int)) (nI_ti (by omega)) (nI_ti (by omega)) (fun c3 => ?_) (fun c3 => ?_)
          · skip
            refine lv_aload_n X.1 X.2.1 dX6_pass_65 rfl (lv_at hl 0 rfl) ?_
            refine mg_get X hM (ci := 7) (k := 8) rfl kwX6 (by decide) kf_X6_89 dX6_pass_66 (R.1 0 (0) rfl) (v := .int (nI ((N 0 + v0)))) rfl ?_
            exact x_iret X hr hlocks hM dX6_pass_69 ⟨Nat.le_of_ble_eq_true rfl, Nat.le_of_ble_eq_true rfl⟩ (⟨by unfold kPass; rw [if_pos ⟨by rw [nI_toInt (by omega)]; omega, by rw [nI_toInt (by omega)]; omega⟩], congrArg (fun z => some (Value.int z)) (by rw [ix_nI (by omega)]), by rw [ix_nI (by omega)]; exact ⟨ad, E1, P, Q, rfl, R, hE.e hE1.1, fun r hr => (hE1.2 r (by omega)).trans (tdy_0 hI (show N 0 < N 0 + v0 by omega) r (Nat.le_refl _)).symm, hP⟩⟩)
          · skip
            refine lv_aload_n X.1 X.2.1 dX6_pass_43 rfl (lv_at hl 0 rfl) ?_
            refine mg_get X hM (ci := 7) (k := 4) rfl kwX6 (by decide) kf_X6_35 dX6_pass_44 (R.1 0 (0) rfl) (v := .ref (ad 14 0)) rfl ?_
            refine lv_iload_n X.1 X.2.1 dX6_pass_47 rfl (lv_at hl 2 rfl) ?_
            refine mx_aald X hM 7 (C := RX2) rfl dX6_pass_48 (R.1 14 (0) rfl) (i := i) (by omega) (by decide) (r := rowA ad 9 (4) (i)) (by first | rfl | simp only [set1_at]) ?_
            refine lw_astore_n (lv' := [(3, va_rf (rowA ad 9 (4) (i))), (0, .ref (ad 0 0)), (1, .int (nI (v0))), (2, .int (nI (i)))]) X.1 X.2.1 dX6_pass_49 rfl hl (by decide) rfl (fun ls hl => ?_)
            refine lw_aload_n X.1 X.2.1 dX6_pass_50 rfl (lv_at hl 0 rfl) ?_
            by_cases cz4 : i < 4
            · skip
              refine lv_topv (y := .ref (ad 9 (i))) (by unfold rowA; rw [if_pos cz4]; rfl) ?_
              refine lv_ifnull X.1 X.2.1 dX6_pass_51 ?_
              refine lw_aload_n X.1 X.2.1 dX6_pass_54 rfl (lv_at hl 0 rfl) ?_
              refine lv_topv (y := .ref (ad 9 (i))) (by unfold rowA; rw [if_pos cz4]; rfl) ?_
              refine lv_iconst (v := nI (0)) X.1 X.2.1 dX6_pass_55 (by decide) ?_
              refine mg_putN X hM tyX2 tyX2_ok nmX2 (ci := 3) (k := 1) rfl kwX2 (by decide) kn_X6_71 rfl dX6_pass_56 (R.1 9 (i) (show i < 4 by omega)) rfl rfl (Nat.le_of_ble_eq_true rfl) (fun H locs hM => ?_)
              obtain ⟨M, hM, R⟩ : ∃ M2, mW G A s.heap M2 H locs ∧ RC G ad (va_up N 0 (N 0 + v0)) F B (set1 E1 1 (i) (0)) P Q M2 := ⟨_, hM, R.today (show i < 4 by omega) (0)⟩
              refine lv_iinc (v := nI (i + 1)) (lv' := [(2, .int (nI (i + 1))), (3, va_rf (rowA ad 9 (4) (i))), (0, .ref (ad 0 0)), (1, .int (nI (v0)))]) X.1 X.2.1 dX6_pass_59 hl (k := 3) rfl (nI_add (i) 1) (by decide) rfl (fun ls hl => ?_)
              refine lv_goto (tgt := 34) X.1 X.2.1 dX6_pass_62 (by decide) ?_
              exact ih_loop (i + 1) _ _ (by omega) (by omega) R ⟨fun a ha => (set1_row E1 ha).trans (hE1.1 a ha), set1_z hE1.2⟩ _ _ _ hM (lv_sub hl [2, 3, 0] rfl)
            · skip
              refine lv_topv (y := .null) (by unfold rowA; rw [if_neg cz4]; rfl) ?_
              refine lv_ifnullN (tgt := 59) X.1 X.2.1 dX6_pass_51 (by decide) ?_
              refine lv_iinc (v := nI (i + 1)) (lv' := [(2, .int (nI (i + 1))), (3, va_rf (rowA ad 9 (4) (i))), (0, .ref (ad 0 0)), (1, .int (nI (v0)))]) X.1 X.2.1 dX6_pass_59 hl (k := 3) rfl (nI_add (i) 1) (by decide) rfl (fun ls hl => ?_)
              refine lv_goto (tgt := 34) X.1 X.2.1 dX6_pass_62 (by decide) ?_
              exact ih_loop (i + 1) _ _ (by omega) (by omega) R (by exfalso; omega) _ _ _ hM (lv_sub hl [2, 3, 0] rfl)
      exact loop 5 0 _ E (by omega) (by omega) R ⟨fun _ _ => rfl, fun _ h => absurd h (by omega)⟩ _ _ _ hM (lv_sub hl [1, 2, 0] rfl)
    · skip
      exact x_throw (cls := EIA) (text := "no such days to pass") X hst hS hZ ht hlocks hM hl (by decide +kernel) (by decide) xh_67 xg_67 dX6_pass_12 dX6_pass_15 dX6_pass_16 dX6_pass_18 dX6_pass_21 ⟨Nat.le_of_ble_eq_true rfl, Nat.le_of_ble_eq_true rfl⟩ ⟨Nat.le_of_ble_eq_true rfl, Nat.le_of_ble_eq_true rfl⟩ ⟨Nat.le_of_ble_eq_true rfl, Nat.le_of_ble_eq_true rfl⟩ (⟨⟨ad, E, P, Q, rfl, R, hE, hT, hP⟩, ⟨rfl, by unfold kPass; rw [if_neg (by omega)]⟩⟩)
set_option maxHeartbeats 4000000 in
set_option maxRecDepth 100000 in
theorem c_X6_clear (l : Launch) (G : mG) (x : Nat) (N : Nat → Nat) (F : Nat → Nat → Nat) (B : Nat → Int32) (M : Mem) (cs : CS G x N F B M) (m0 : Int32) (hst : l.stackTraces = false) (hI : Iv N F) : xMet l yX6_clear cX6_clear 4 (some FieldType.int) ({ frames := 7, cells := 2, slots := 12, locals := 125 } : Room) G [.ref x, .int (m0)] M (fun r M' => kClear N F m0 = 0 ∧ r = some (.int (nI (F 2 (ix m0)) - 1)) ∧ CS G x (N) ((lookS N (set1 F 2 (ix m0) 0) B (N 13)).1) ((lookS N (set1 F 2 (ix m0) 0) B (N 13)).2) M') (fun E9 M' => CS G x N F B M' ∧ ((E9 = EIO ∧ kClear N F m0 = 1) ∨ (E9 = EIS ∧ kClear N F m0 = 2))) := by
  obtain ⟨ad, E, P, Q, rfl, R, hE, hT, hP⟩ := cs
  refine xMet.of (by decide) (Nat.le_of_ble_eq_true rfl) ?_
  intro p e s m args below meth c A ls X hr hlocks hname hM hl hS hZ ht
  have hl : lv_has ls 4 [(0, .ref (ad 0 0)), (1, .int (m0))] := hl
  have hn := hI.n
  obtain ⟨⟨e1, e10, e2, e11, e3, e12, e6, e13⟩, x2, x3, x4⟩ := id hE
  refine lv_aload_n X.1 X.2.1 dX6_clear_0 rfl (lv_at hl 0 rfl) ?_
  refine lv_iload_n X.1 X.2.1 dX6_clear_1 rfl (lv_at hl 1 rfl) ?_
  refine xm_callV X hM hS hZ ck_X6_74 ki_X6_playerAt ks_X6_playerAt (ci := 7) rfl dX6_clear_2 (As := [.int (m0)]) (c_X6_playerAt l G ad N F B E P Q _ R m0 hst (show E 0 10 ≤ 16 by omega)) (R.1 0 (0) rfl) rfl hl rfl (Nat.le_of_ble_eq_true rfl) ⟨Nat.le_of_ble_eq_true rfl, Nat.le_of_ble_eq_true rfl⟩ ⟨Nat.le_of_ble_eq_true rfl, Nat.le_of_ble_eq_true rfl⟩ (fun E9 ce q9 M1 H1 locs1 hp hM1 h1 h2 h3 => x_out ht hlocks hM1 h1 h2 h3 ⟨Nat.le_of_ble_eq_true rfl, Nat.le_of_ble_eq_true rfl⟩ (by obtain ⟨rfl, h9, rfl⟩ := hp; exact ⟨⟨ad, E, P, Q, rfl, R, hE, hT, hP⟩, Or.inl ⟨rfl, by unfold kClear; rw [if_pos (by rw [← e10]; exact h9)]⟩⟩)) ?_
  rintro _ _ H locs ⟨rfl, h9, rfl⟩ hM
  obtain ⟨jm0, hjm0, rfl⟩ := iR_t h9 (by omega)
  refine lv_topv (y := .ref (ad 1 (jm0))) (by rw [ix_nI (by omega)]) ?_
  have hjm0 : jm0 < N 1 := by omega
  have pq1 := hI.p jm0
  refine lv_astore_n (lv' := [(2, .ref (ad 1 (jm0))), (0, .ref (ad 0 0)), (1, .int (nI (jm0)))]) X.1 X.2.1 dX6_clear_5 rfl hl (by decide) rfl (fun ls hl => ?_)
  refine lv_aload_n X.1 X.2.1 dX6_clear_6 rfl (lv_at hl 0 rfl) ?_
  refine m_callVN X hM ckN_X6_157 ki_X1_isProven ks_X1_isProven (ci := 2) rfl dX6_clear_7 (As := []) (c_X1_isProven l G ad N F B E P Q _ R jm0 (show _ < E 0 1 by omega) (by omega)) (R.1 1 (jm0) (show jm0 < E 0 1 by omega)) rfl hl rfl (Nat.le_of_ble_eq_true rfl) ⟨Nat.le_of_ble_eq_true rfl, Nat.le_of_ble_eq_true rfl⟩ ⟨Nat.le_of_ble_eq_true rfl, Nat.le_of_ble_eq_true rfl⟩ ?_
  rintro _ _ H locs ⟨rfl, rfl⟩ hM
  refine b_bool_ne (tgt := 23) X dX6_clear_10 (by decide) (fun c2 => ?_) (fun c2 => ?_)
  · skip
    have c2 := of_decide_eq_true c2
    refine lv_aload_n X.1 X.2.1 dX6_clear_23 rfl (lv_at hl 0 rfl) ?_
    refine mg_getN X hM (ci := 2) (k := 2) rfl kwX1 (by decide) kn_X6_162 dX6_clear_24 (R.1 1 (jm0) (show jm0 < E 0 1 by omega)) (v := .int (nI (F 2 (jm0)) - 1)) rfl ?_
    refine lv_istore_n (lv' := [(3, .int (nI (F 2 (jm0)) - 1)), (2, .ref (ad 1 (jm0))), (0, .ref (ad 0 0)), (1, .int (nI (jm0)))]) X.1 X.2.1 dX6_clear_27 rfl hl (by decide) rfl (fun ls hl => ?_)
    refine lv_aload_n X.1 X.2.1 dX6_clear_28 rfl (lv_at hl 1 rfl) ?_
    refine lv_iconst (v := nI (0) - 1) X.1 X.2.1 dX6_clear_29 (by decide) ?_
    refine mg_putN X hM tyX1 tyX1_ok nmX1 (ci := 2) (k := 2) rfl kwX1 (by decide) kn_X6_162 rfl dX6_clear_30 (R.1 1 (jm0) (show jm0 < E 0 1 by omega)) rfl rfl (Nat.le_of_ble_eq_true rfl) (fun H locs hM => ?_)
    obtain ⟨M, hM, R⟩ : ∃ M2, mW G A s.heap M2 H locs ∧ RC G ad N (set1 F 2 (jm0) (0)) B E P Q M2 := ⟨_, hM, R.since (show jm0 < E 0 1 by omega) (0)⟩
    refine lv_aload_n X.1 X.2.1 dX6_clear_33 rfl (lv_at hl 2 rfl) ?_
    have hI2 : Iv N (set1 F 2 (jm0) (0)) := hI.set2 jm0 0 (by omega)
    refine m_callV X hM ck_X6_151 ki_X6_findHeirsAnew ks_X6_findHeirsAnew (ci := 7) rfl dX6_clear_34 (As := []) (c_X6_findHeirsAnew l G ad N (set1 F 2 (jm0) (0)) B E P Q _ R hI2 hE) (R.1 0 (0) rfl) rfl hl rfl (Nat.le_of_ble_eq_true rfl) ⟨Nat.le_of_ble_eq_true rfl, Nat.le_of_ble_eq_true rfl⟩ ⟨Nat.le_of_ble_eq_true rfl, Nat.le_of_ble_eq_true rfl⟩ ?_
    rintro _ M H locs ⟨rfl, E2, P2, Q2, R, hE2, hT2, hP2⟩ hM
    have hI3 := Iv.look hI2 B (N 13) (Nat.le_refl _)
    refine lv_iload_n X.1 X.2.1 dX6_clear_37 rfl (lv_at hl 0 rfl) ?_
    exact x_iret X hr hlocks hM dX6_clear_38 ⟨Nat.le_of_ble_eq_true rfl, Nat.le_of_ble_eq_true rfl⟩ (⟨by unfold kClear; rw [if_neg (by rw [iR_lt hjm0 (by omega)]; decide), if_neg (by rw [ix_nI (by omega)]; omega)], congrArg (fun z => some (Value.int z)) (by rw [ix_nI (by omega)]), by rw [ix_nI (by omega)]; exact ⟨ad, E2, P2, Q2, rfl, R, hE2, NrT.look hT2 (NrT.congr rfl rfl hT), NrP.look hP2⟩⟩)
  · skip
    have c2 := of_decide_eq_false c2
    exact x_throw (cls := EIS) (text := "nothing is proven") X hst hS hZ ht hlocks hM hl (by decide +kernel) (by decide) xh_55 xg_55 dX6_clear_13 dX6_clear_16 dX6_clear_17 dX6_clear_19 dX6_clear_22 ⟨Nat.le_of_ble_eq_true rfl, Nat.le_of_ble_eq_true rfl⟩ ⟨Nat.le_of_ble_eq_true rfl, Nat.le_of_ble_eq_true rfl⟩ ⟨Nat.le_of_ble_eq_true rfl, Nat.le_of_ble_eq_true rfl⟩ (⟨⟨ad, E, P, Q, rfl, R, hE, hT, hP⟩, Or.inr ⟨rfl, by unfold kClear; rw [if_neg (by rw [iR_lt hjm0 (by omega)]; decide), if_pos (by rw [ix_nI (by omega)]; omega)]⟩⟩)
set_option maxHeartbeats 4000000 in
set_option maxRecDepth 100000 in
theorem c_X6_proof (l : Launch) (G : mG) (x : Nat) (N : Nat → Nat) (F : Nat → Nat → Nat) (B : Nat → Int32) (M : Mem) (cs : CS G x N F B M) (m0 : Int32) (m1 : Int32) (hst : l.stackTraces = false) (hI : Iv N F) : xMet l yX6_proof cX6_proof 4 (some FieldType.int) ({ frames := 7, cells := 2, slots := 12, locals := 125 } : Room) G [.ref x, .int (m0), .int (m1)] M (fun r M' => kProof N m0 m1 = 0 ∧ r = some (.int (nI (badN (fProof F (ix m0) (ix m1)) (N 6)))) ∧ CS G x (N) ((lookS N (fProof F (ix m0) (ix m1)) B (N 13)).1) ((lookS N (fProof F (ix m0) (ix m1)) B (N 13)).2) M') (fun E9 M' => CS G x N F B M' ∧ ((E9 = EIO ∧ kProof N m0 m1 = 1) ∨ (E9 = EIA ∧ kProof N m0 m1 = 2))) := by
  obtain ⟨ad, E, P, Q, rfl, R, hE, hT, hP⟩ := cs
  refine xMet.of (by decide) (Nat.le_of_ble_eq_true rfl) ?_
  intro p e s m args below meth c A ls X hr hlocks hname hM hl hS hZ ht
  have hl : lv_has ls 4 [(0, .ref (ad 0 0)), (1, .int (m0)), (2, .int (m1))] := hl
  have hn := hI.n
  obtain ⟨⟨e1, e10, e2, e11, e3, e12, e6, e13⟩, x2, x3, x4⟩ := id hE
  refine lv_aload_n X.1 X.2.1 dX6_proof_0 rfl (lv_at hl 0 rfl) ?_
  refine lv_iload_n X.1 X.2.1 dX6_proof_1 rfl (lv_at hl 1 rfl) ?_
  refine xm_callV X hM hS hZ ck_X6_74 ki_X6_playerAt ks_X6_playerAt (ci := 7) rfl dX6_proof_2 (As := [.int (m0)]) (c_X6_playerAt l G ad N F B E P Q _ R m0 hst (show E 0 10 ≤ 16 by omega)) (R.1 0 (0) rfl) rfl hl rfl (Nat.le_of_ble_eq_true rfl) ⟨Nat.le_of_ble_eq_true rfl, Nat.le_of_ble_eq_true rfl⟩ ⟨Nat.le_of_ble_eq_true rfl, Nat.le_of_ble_eq_true rfl⟩ (fun E9 ce q9 M1 H1 locs1 hp hM1 h1 h2 h3 => x_out ht hlocks hM1 h1 h2 h3 ⟨Nat.le_of_ble_eq_true rfl, Nat.le_of_ble_eq_true rfl⟩ (by obtain ⟨rfl, h9, rfl⟩ := hp; exact ⟨⟨ad, E, P, Q, rfl, R, hE, hT, hP⟩, Or.inl ⟨rfl, by unfold kProof; rw [if_pos (by rw [← e10]; exact h9)]⟩⟩)) ?_
  rintro _ _ H locs ⟨rfl, h9, rfl⟩ hM
  obtain ⟨jm0, hjm0, rfl⟩ := iR_t h9 (by omega)
  refine lv_topv (y := .ref (ad 1 (jm0))) (by rw [ix_nI (by omega)]) ?_
  have hjm0 : jm0 < N 1 := by omega
  have pq1 := hI.p jm0
  refine lv_astore_n (lv' := [(3, .ref (ad 1 (jm0))), (0, .ref (ad 0 0)), (1, .int (nI (jm0))), (2, .int (m1))]) X.1 X.2.1 dX6_proof_5 rfl hl (by decide) rfl (fun ls hl => ?_)
  refine lv_iload_n X.1 X.2.1 dX6_proof_6 rfl (lv_at hl 3 rfl) ?_
  refine b_if_lt (tgt := 18) X dX6_proof_7 (by decide) (a := (m1).toInt) (rfl) (fun c2 => ?_) (fun c2 => ?_)
  · skip
    exact x_throw (cls := EIA) (text := "no such day of a proof") X hst hS hZ ht hlocks hM hl (by decide +kernel) (by decide) xh_67 xg_67 dX6_proof_18 dX6_proof_21 dX6_proof_22 dX6_proof_24 dX6_proof_27 ⟨Nat.le_of_ble_eq_true rfl, Nat.le_of_ble_eq_true rfl⟩ ⟨Nat.le_of_ble_eq_true rfl, Nat.le_of_ble_eq_true rfl⟩ ⟨Nat.le_of_ble_eq_true rfl, Nat.le_of_ble_eq_true rfl⟩ (⟨⟨ad, E, P, Q, rfl, R, hE, hT, hP⟩, Or.inr ⟨rfl, by unfold kProof; rw [if_neg (by rw [iR_lt hjm0 (by omega)]; decide), if_neg (by omega)]⟩⟩)
  · skip
    refine lv_iload_n X.1 X.2.1 dX6_proof_10 rfl (lv_at hl 3 rfl) ?_
    refine lv_aload_n X.1 X.2.1 dX6_proof_11 rfl (lv_at hl 1 rfl) ?_
    refine mg_get X hM (ci := 7) (k := 8) rfl kwX6 (by decide) kf_X6_89 dX6_proof_12 (R.1 0 (0) rfl) (v := .int (nI (N 0))) rfl ?_
    refine b_icmp_le (tgt := 28) X dX6_proof_15 (by decide) (a := (m1).toInt) (b := ((N 0 : Nat) : Int)) (rfl) (nI_ti (by omega)) (fun c3 => ?_) (fun c3 => ?_)
    · skip
      obtain ⟨v1, hv1l, hv1, rfl⟩ := in_t 0 (x := m1) (n := N 0) ⟨by omega, by omega⟩ (by omega)
      refine lv_aload_n X.1 X.2.1 dX6_proof_28 rfl (lv_at hl 0 rfl) ?_
      refine lv_iload_n X.1 X.2.1 dX6_proof_29 rfl (lv_at hl 3 rfl) ?_
      refine m_callVN X hM ckN_X6_148 ki_X1_prove ks_X1_prove (ci := 2) rfl dX6_proof_30 (As := [.int (nI (v1))]) (c_X1_prove l G ad N F B E P Q _ R jm0 v1 (show _ < E 0 1 by omega) (by omega) (by omega)) (R.1 1 (jm0) (show jm0 < E 0 1 by omega)) rfl hl rfl (Nat.le_of_ble_eq_true rfl) ⟨Nat.le_of_ble_eq_true rfl, Nat.le_of_ble_eq_true rfl⟩ ⟨Nat.le_of_ble_eq_true rfl, Nat.le_of_ble_eq_true rfl⟩ ?_
      rintro _ M H locs ⟨rfl, R⟩ hM
      refine lv_aload_n X.1 X.2.1 dX6_proof_33 rfl (lv_at hl 1 rfl) ?_
      have hI2 : Iv N (fProof F jm0 v1) := hI.pf jm0 v1 (by omega)
      refine m_callV X hM ck_X6_151 ki_X6_findHeirsAnew ks_X6_findHeirsAnew (ci := 7) rfl dX6_proof_34 (As := []) (c_X6_findHeirsAnew l G ad N (fProof F jm0 v1) B E P Q _ R hI2 hE) (R.1 0 (0) rfl) rfl hl rfl (Nat.le_of_ble_eq_true rfl) ⟨Nat.le_of_ble_eq_true rfl, Nat.le_of_ble_eq_true rfl⟩ ⟨Nat.le_of_ble_eq_true rfl, Nat.le_of_ble_eq_true rfl⟩ ?_
      rintro _ M H locs ⟨rfl, E2, P2, Q2, R, hE2, hT2, hP2⟩ hM
      have hI3 := Iv.look hI2 B (N 13) (Nat.le_refl _)
      refine lv_aload_n X.1 X.2.1 dX6_proof_37 rfl (lv_at hl 1 rfl) ?_
      refine m_callV X hM ck_X6_154 ki_X6_countFallenMatches ks_X6_countFallenMatches (ci := 7) rfl dX6_proof_38 (As := []) (c_X6_countFallenMatches l G ad N (lookS N (fProof F jm0 v1) B (N 13)).1 (lookS N (fProof F jm0 v1) B (N 13)).2 E2 P2 Q2 _ R hI3 hE2) (R.1 0 (0) rfl) rfl hl rfl (Nat.le_of_ble_eq_true rfl) ⟨Nat.le_of_ble_eq_true rfl, Nat.le_of_ble_eq_true rfl⟩ ⟨Nat.le_of_ble_eq_true rfl, Nat.le_of_ble_eq_true rfl⟩ ?_
      rintro _ _ H locs ⟨rfl, rfl⟩ hM
      have bn := badN_le ((lookS N (fProof F jm0 v1) B (N 13)).1) (N 6)
      exact x_iret X hr hlocks hM dX6_proof_41 ⟨Nat.le_of_ble_eq_true rfl, Nat.le_of_ble_eq_true rfl⟩ (⟨by unfold kProof; rw [if_neg (by rw [iR_lt hjm0 (by omega)]; decide), if_pos ⟨by rw [nI_toInt (by omega)]; omega, by rw [nI_toInt (by omega)]; omega⟩], congrArg (fun z => some (Value.int z)) (by rw [ix_nI (by omega), ix_nI (by omega), look_bad (SF.rf _)]), by rw [ix_nI (by omega), ix_nI (by omega)]; exact ⟨ad, E2, P2, Q2, rfl, R, hE2, NrT.look hT2 (NrT.congr rfl rfl hT), NrP.look hP2⟩⟩)
    · skip
      exact x_throw (cls := EIA) (text := "no such day of a proof") X hst hS hZ ht hlocks hM hl (by decide +kernel) (by decide) xh_67 xg_67 dX6_proof_18 dX6_proof_21 dX6_proof_22 dX6_proof_24 dX6_proof_27 ⟨Nat.le_of_ble_eq_true rfl, Nat.le_of_ble_eq_true rfl⟩ ⟨Nat.le_of_ble_eq_true rfl, Nat.le_of_ble_eq_true rfl⟩ ⟨Nat.le_of_ble_eq_true rfl, Nat.le_of_ble_eq_true rfl⟩ (⟨⟨ad, E, P, Q, rfl, R, hE, hT, hP⟩, Or.inr ⟨rfl, by unfold kProof; rw [if_neg (by rw [iR_lt hjm0 (by omega)]; decide), if_neg (by omega)]⟩⟩)
set_option maxHeartbeats 4000000 in
set_option maxRecDepth 100000 in
theorem c_X6_lend (l : Launch) (G : mG) (x : Nat) (N : Nat → Nat) (F : Nat → Nat → Nat) (B : Nat → Int32) (M : Mem) (cs : CS G x N F B M) (m0 : Int32) (m1 : Int32) (m2 : Int32) (hst : l.stackTraces = false) (hI : Iv N F) : xMet l yX6_lend cX6_lend 6 (some FieldType.int) ({ frames := 7, cells := 3, slots := 18, locals := 104 } : Room) G [.ref x, .int (m0), .int (m1), .int (m2)] M (fun r M' => kLend N F m0 m1 m2 = 0 ∧ r = some (.int (nI (N 0 + ix m2 - 1))) ∧ CS G x (N) (fLend N F (ix m0) (ix m1) (ix m2)) (B) M') (fun E9 M' => CS G x N F B M' ∧ ((E9 = EIO ∧ kLend N F m0 m1 m2 = 1) ∨ (E9 = EIA ∧ kLend N F m0 m1 m2 = 2) ∨ (E9 = EIS ∧ kLend N F m0 m1 m2 = 3))) := by
  obtain ⟨ad, E, P, Q, rfl, R, hE, hT, hP⟩ := cs
  refine xMet.of (by decide) (Nat.le_of_ble_eq_true rfl) ?_
  intro p e s m args below meth c A ls X hr hlocks hname hM hl hS hZ ht
  have hl : lv_has ls 6 [(0, .ref (ad 0 0)), (1, .int (m0)), (2, .int (m1)), (3, .int (m2))] := hl
  have hn := hI.n
  obtain ⟨⟨e1, e10, e2, e11, e3, e12, e6, e13⟩, x2, x3, x4⟩ := id hE
  refine lv_aload_n X.1 X.2.1 dX6_lend_0 rfl (lv_at hl 0 rfl) ?_
  refine lv_iload_n X.1 X.2.1 dX6_lend_1 rfl (lv_at hl 1 rfl) ?_
  refine xm_callV X hM hS hZ ck_X6_113 ki_X6_skinAt ks_X6_skinAt (ci := 7) rfl dX6_lend_2 (As := [.int (m0)]) (c_X6_skinAt l G ad N F B E P Q _ R m0 hst (show E 0 13 ≤ 36 by omega)) (R.1 0 (0) rfl) rfl hl rfl (Nat.le_of_ble_eq_true rfl) ⟨Nat.le_of_ble_eq_true rfl, Nat.le_of_ble_eq_true rfl⟩ ⟨Nat.le_of_ble_eq_true rfl, Nat.le_of_ble_eq_true rfl⟩ (fun E9 ce q9 M1 H1 locs1 hp hM1 h1 h2 h3 => x_out ht hlocks hM1 h1 h2 h3 ⟨Nat.le_of_ble_eq_true rfl, Nat.le_of_ble_eq_true rfl⟩ (by obtain ⟨rfl, h9, rfl⟩ := hp; exact ⟨⟨ad, E, P, Q, rfl, R, hE, hT, hP⟩, Or.inl ⟨rfl, by unfold kLend; rw [if_pos (by rw [← e13, h9]; rfl)]⟩⟩)) ?_
  rintro _ _ H locs ⟨rfl, h9, rfl⟩ hM
  obtain ⟨jm0, hjm0, rfl⟩ := iR_t h9 (by omega)
  refine lv_topv (y := .ref (ad 6 (jm0))) (by rw [ix_nI (by omega)]) ?_
  have hjm0 : jm0 < N 13 := by omega
  have k4 : E 4 jm0 = F 21 jm0 := by rw [x4]
  have k9 := hI.k (k := jm0) (by omega)
  have kb := hI.p (F 17 jm0 - 1)
  refine lv_astore (lv' := [(4, .ref (ad 6 (jm0))), (0, .ref (ad 0 0)), (1, .int (nI (jm0))), (2, .int (m1)), (3, .int (m2))]) X.1 X.2.1 dX6_lend_5 hl (by decide) rfl (fun ls hl => ?_)
  refine lv_aload_n X.1 X.2.1 dX6_lend_7 rfl (lv_at hl 1 rfl) ?_
  refine lv_iload_n X.1 X.2.1 dX6_lend_8 rfl (lv_at hl 3 rfl) ?_
  refine xm_callV X hM hS hZ ck_X6_74 ki_X6_playerAt ks_X6_playerAt (ci := 7) rfl dX6_lend_9 (As := [.int (m1)]) (c_X6_playerAt l G ad N F B E P Q _ R m1 hst (show E 0 10 ≤ 16 by omega)) (R.1 0 (0) rfl) rfl hl rfl (Nat.le_of_ble_eq_true rfl) ⟨Nat.le_of_ble_eq_true rfl, Nat.le_of_ble_eq_true rfl⟩ ⟨Nat.le_of_ble_eq_true rfl, Nat.le_of_ble_eq_true rfl⟩ (fun E9 ce q9 M1 H1 locs1 hp hM1 h1 h2 h3 => x_out ht hlocks hM1 h1 h2 h3 ⟨Nat.le_of_ble_eq_true rfl, Nat.le_of_ble_eq_true rfl⟩ (by obtain ⟨rfl, h9, rfl⟩ := hp; exact ⟨⟨ad, E, P, Q, rfl, R, hE, hT, hP⟩, Or.inl ⟨rfl, by unfold kLend; rw [if_pos (by rw [iR_lt hjm0 (by omega), ← e10, h9]; rfl)]⟩⟩)) ?_
  rintro _ _ H locs ⟨rfl, h9, rfl⟩ hM
  obtain ⟨jm1, hjm1, rfl⟩ := iR_t h9 (by omega)
  refine lv_topv (y := .ref (ad 1 (jm1))) (by rw [ix_nI (by omega)]) ?_
  have hjm1 : jm1 < N 1 := by omega
  have pq1 := hI.p jm1
  refine lv_astore (lv' := [(5, .ref (ad 1 (jm1))), (4, .ref (ad 6 (jm0))), (0, .ref (ad 0 0)), (1, .int (nI (jm0))), (2, .int (nI (jm1))), (3, .int (m2))]) X.1 X.2.1 dX6_lend_12 hl (by decide) rfl (fun ls hl => ?_)
  refine lv_iload_n X.1 X.2.1 dX6_lend_14 rfl (lv_at hl 5 rfl) ?_
  refine lv_iconst (v := nI (1)) X.1 X.2.1 dX6_lend_15 (by decide) ?_
  refine b_icmp_lt (tgt := 25) X dX6_lend_16 (by decide) (a := (m2).toInt) (b := ((1 : Nat) : Int)) (rfl) (nI_ti (by omega)) (fun c2 => ?_) (fun c2 => ?_)
  · skip
    exact x_throw (cls := EIA) (text := "no such days of lending") X hst hS hZ ht hlocks hM hl (by decide +kernel) (by decide) xh_67 xg_67 dX6_lend_25 dX6_lend_28 dX6_lend_29 dX6_lend_31 dX6_lend_34 ⟨Nat.le_of_ble_eq_true rfl, Nat.le_of_ble_eq_true rfl⟩ ⟨Nat.le_of_ble_eq_true rfl, Nat.le_of_ble_eq_true rfl⟩ ⟨Nat.le_of_ble_eq_true rfl, Nat.le_of_ble_eq_true rfl⟩ (⟨⟨ad, E, P, Q, rfl, R, hE, hT, hP⟩, Or.inr (Or.inl ⟨rfl, by unfold kLend; rw [if_neg (by rw [iR_lt hjm0 (by omega), iR_lt hjm1 (by omega)]; decide), if_pos (by omega)]⟩)⟩)
  · skip
    refine lv_iload_n X.1 X.2.1 dX6_lend_19 rfl (lv_at hl 5 rfl) ?_
    refine lv_bipush (v := nI (100)) X.1 X.2.1 dX6_lend_20 (by decide) ?_
    refine b_icmp_le (tgt := 35) X dX6_lend_22 (by decide) (a := (m2).toInt) (b := ((100 : Nat) : Int)) (rfl) (nI_ti (by omega)) (fun c3 => ?_) (fun c3 => ?_)
    · skip
      obtain ⟨v2, hv2l, hv2, rfl⟩ := in_t 1 (x := m2) (n := 100) ⟨by omega, by omega⟩ (by omega)
      refine lv_aload_n X.1 X.2.1 dX6_lend_35 rfl (lv_at hl 2 rfl) ?_
      refine lv_aload X.1 X.2.1 dX6_lend_36 (lv_at hl 1 rfl) ?_
      refine mg_getN X hM (ci := 6) (k := 7) rfl kwX5 (by decide) kn_X6_119 dX6_lend_38 (R.1 6 (jm0) (show jm0 < E 0 6 by omega)) (v := va_rf (opA ad (F 17 (jm0)))) rfl ?_
      refine lv_aload X.1 X.2.1 dX6_lend_41 (lv_at hl 0 rfl) ?_
      refine m_callV X hM ck_X6_123 ki_X6_mayDeal ks_X6_mayDeal (ci := 7) rfl dX6_lend_43 (As := [va_rf (opA ad (F 17 (jm0))), va_rf (opA ad (jm1 + 1))]) (c_X6_mayDeal l G ad N F B E P Q _ R (F 17 (jm0)) (jm1 + 1) (show _ ≤ E 0 1 by omega) (show _ ≤ E 0 1 by omega) (by omega) (by omega) (by show F 3 (jm1) < _; omega)) (R.1 0 (0) rfl) rfl hl rfl (Nat.le_of_ble_eq_true rfl) ⟨Nat.le_of_ble_eq_true rfl, Nat.le_of_ble_eq_true rfl⟩ ⟨Nat.le_of_ble_eq_true rfl, Nat.le_of_ble_eq_true rfl⟩ ?_
      rintro _ _ H locs ⟨rfl, rfl⟩ hM
      refine lv_top (y := bI (cDeal N F jm0 jm1)) (congrArg bI (cd_eq _ _ _ _).symm) ?_
      refine b_bool_ne (tgt := 59) X dX6_lend_46 (by decide) (fun c4 => ?_) (fun c4 => ?_)
      · skip
        refine lv_aload X.1 X.2.1 dX6_lend_59 (lv_at hl 1 rfl) ?_
        refine lv_aload X.1 X.2.1 dX6_lend_61 (lv_at hl 0 rfl) ?_
        refine lv_topv (y := va_rf (opA ad (jm1 + 1))) (by rw [opA_suc]; rfl) ?_
        refine mg_putN X hM tyX5 tyX5_ok nmX5 (ci := 6) (k := 8) rfl kwX5 (by decide) kn_X6_140 rfl dX6_lend_63 (R.1 6 (jm0) (show jm0 < E 0 6 by omega)) (nar_rf _ _) (fit_rf _ _) (Nat.le_of_ble_eq_true rfl) (fun H locs hM => ?_)
        obtain ⟨M, hM, R⟩ : ∃ M2, mW G A s.heap M2 H locs ∧ RC G ad N (set1 F 18 (jm0) (jm1 + 1)) B E P Q M2 := ⟨_, hM, R.borr (show jm0 < E 0 6 by omega) (jm1 + 1)⟩
        refine lv_aload X.1 X.2.1 dX6_lend_66 (lv_at hl 1 rfl) ?_
        refine lv_aload_n X.1 X.2.1 dX6_lend_68 rfl (lv_at hl 2 rfl) ?_
        refine mg_get X hM (ci := 7) (k := 8) rfl kwX6 (by decide) kf_X6_89 dX6_lend_69 (R.1 0 (0) rfl) (v := .int (nI (N 0))) (by first | rfl | simp [set1, va_up, upd]) ?_
        refine lv_iload_n X.1 X.2.1 dX6_lend_72 rfl (lv_at hl 5 rfl) ?_
        refine lv_iadd X.1 X.2.1 dX6_lend_73 ?_
        refine lv_top (y := nI (N 0 + v2)) (nI_add _ _) ?_
        refine lv_iconst (v := nI (1)) X.1 X.2.1 dX6_lend_74 (by decide) ?_
        refine lv_isub X.1 X.2.1 dX6_lend_75 ?_
        refine lv_top (y := nI (N 0 + v2 - 1)) (eI_pos (by omega)) ?_
        refine mg_putN X hM tyX5 tyX5_ok nmX5 (ci := 6) (k := 9) rfl kwX5 (by decide) kn_X6_143 rfl dX6_lend_76 (R.1 6 (jm0) (show jm0 < E 0 6 by omega)) rfl rfl (Nat.le_of_ble_eq_true rfl) (fun H locs hM => ?_)
        obtain ⟨M, hM, R⟩ : ∃ M2, mW G A s.heap M2 H locs ∧ RC G ad N (set1 (set1 F 18 (jm0) (jm1 + 1)) 19 (jm0) (N 0 + v2 - 1)) B E P Q M2 := ⟨_, hM, R.lent (show jm0 < E 0 6 by omega) (N 0 + v2 - 1)⟩
        refine lv_aload X.1 X.2.1 dX6_lend_79 (lv_at hl 1 rfl) ?_
        refine mg_getN X hM (ci := 6) (k := 9) rfl kwX5 (by decide) kn_X6_143 dX6_lend_81 (R.1 6 (jm0) (show jm0 < E 0 6 by omega)) (v := .int (nI (N 0 + v2 - 1))) (by first | rfl | simp [set1, va_up, upd]) ?_
        exact x_iret X hr hlocks hM dX6_lend_84 ⟨Nat.le_of_ble_eq_true rfl, Nat.le_of_ble_eq_true rfl⟩ (⟨by unfold kLend; rw [if_neg (by rw [iR_lt hjm0 (by omega), iR_lt hjm1 (by omega)]; decide), if_neg (by rw [nI_toInt (by omega)]; omega), ix_nI (by omega), ix_nI (by omega), if_pos (by assumption)], congrArg (fun z => some (Value.int z)) (by rw [ix_nI (by omega)]), by unfold fLend; rw [ix_nI (by omega), ix_nI (by omega), ix_nI (by omega)]; exact ⟨ad, E, P, Q, rfl, R, hE, NrT.congr rfl rfl hT, NrP.congr rfl rfl rfl rfl rfl hP⟩⟩)
      · skip
        exact x_throw (cls := EIS) (text := "the skin can't be lent so now") X hst hS hZ ht hlocks hM hl (by decide +kernel) (by decide) xh_55 xg_55 dX6_lend_49 dX6_lend_52 dX6_lend_53 dX6_lend_55 dX6_lend_58 ⟨Nat.le_of_ble_eq_true rfl, Nat.le_of_ble_eq_true rfl⟩ ⟨Nat.le_of_ble_eq_true rfl, Nat.le_of_ble_eq_true rfl⟩ ⟨Nat.le_of_ble_eq_true rfl, Nat.le_of_ble_eq_true rfl⟩ (⟨⟨ad, E, P, Q, rfl, R, hE, hT, hP⟩, Or.inr (Or.inr ⟨rfl, by unfold kLend; rw [if_neg (by rw [iR_lt hjm0 (by omega), iR_lt hjm1 (by omega)]; decide), if_neg (by rw [nI_toInt (by omega)]; omega), ix_nI (by omega), ix_nI (by omega), if_neg (fun y => by first | (rw [show cDeal N F jm0 jm1 = false by assumption] at y; cases y.1) | (rw [show cDeal N F jm0 jm1 = false by assumption] at y; cases y) | (have := y.2; omega))]⟩)⟩)
    · skip
      exact x_throw (cls := EIA) (text := "no such days of lending") X hst hS hZ ht hlocks hM hl (by decide +kernel) (by decide) xh_67 xg_67 dX6_lend_25 dX6_lend_28 dX6_lend_29 dX6_lend_31 dX6_lend_34 ⟨Nat.le_of_ble_eq_true rfl, Nat.le_of_ble_eq_true rfl⟩ ⟨Nat.le_of_ble_eq_true rfl, Nat.le_of_ble_eq_true rfl⟩ ⟨Nat.le_of_ble_eq_true rfl, Nat.le_of_ble_eq_true rfl⟩ (⟨⟨ad, E, P, Q, rfl, R, hE, hT, hP⟩, Or.inr (Or.inl ⟨rfl, by unfold kLend; rw [if_neg (by rw [iR_lt hjm0 (by omega), iR_lt hjm1 (by omega)]; decide), if_pos (by omega)]⟩)⟩)
