theorem aw_le (N : Nat → Nat) (F : Nat → Nat → Nat) : ∀ n, (awS N F n).1 ≤ n
  | 0 => Nat.le_refl 0
  | n + 1 => by
    have ih := aw_le N F n
    rw [awS]
    split
    · omega
    · show (awS N F n).1 + 1 ≤ n + 1
      omega
theorem pts_s {N : Nat → Nat} {F : Nat → Nat → Nat} {s : Nat} (h : ∀ m, m < N 6 → F 11 m ≠ s) (p : Nat) : pts F s p (N 6) = 0 ∧ gms F s p (N 6) = 0 := by
  have z : ∀ n, n ≤ N 6 → sumN (ptC F s p) n = 0 ∧ sumN (gmC F s p) n = 0 := by
    intro n
    induction n with
    | zero => intro _; exact ⟨rfl, rfl⟩
    | succ n ih =>
      intro hn
      obtain ⟨a, b⟩ := ih (by omega)
      have hne := h n (by omega)
      rw [sumN, sumN, a, b]
      unfold ptC gmC
      rw [if_neg (fun z => hne z.1), if_neg (fun z => hne z.1)]
      exact ⟨rfl, rfl⟩
  exact z _ (Nat.le_refl _)
theorem NrP.nd {N : Nat → Nat} {F F' P Q : Nat → Nat → Nat} {v : Nat} (hI : Iv N F) (h : NrP N F' P Q) (h11 : F' 11 = F 11) : NrP (va_up (va_up N 13 v) 12 (N 12 + 1)) F' (va_up P (N 12 + 1) (fun _ => 0)) (va_up Q (N 12 + 1) (fun _ => 0)) := fun s p hs hp => by
  have hs9 : s < N 12 + 1 + 1 := hs
  show va_up P (N 12 + 1) (fun _ => 0) s p = pts F' s p (N 6) ∧ va_up Q (N 12 + 1) (fun _ => 0) s p = gms F' s p (N 6)
  by_cases hsn : s = N 12 + 1
  · subst hsn
    obtain ⟨a, b⟩ := pts_s (N := N) (F := F') (s := N 12 + 1) (fun m hm => by rw [h11]; have := hI.m hm; omega) p
    rw [a, b]
    simp [va_up]
  · simp only [va_up, if_neg hsn]
    exact h s p (by omega) hp
set_option maxHeartbeats 4000000 in
set_option maxRecDepth 100000 in
theorem c_X6_end (l : Launch) (G : mG) (x : Nat) (N : Nat → Nat) (F : Nat → Nat → Nat) (B : Nat → Int32) (M : Mem) (cs : CS G x N F B M)  (hst : l.stackTraces = false) (hI : Iv N F) (hJ : Jv N F B) : xMet l yX6_end cX6_end 3 (some FieldType.int) ({ frames := 6, cells := 9, slots := 125, locals := 114 } : Room) G [.ref x] M (fun r M' => kEnd N = 0 ∧ r = some (.int (nI (awS N F 3).1)) ∧ CS G x (nEnd N F) ((awS N F 3).2) (B) M') (fun E9 M' => CS G x N F B M' ∧ ((E9 = EIS ∧ kEnd N = 1))) := by
  obtain ⟨ad, E, P, Q, rfl, R, hE, hT, hP⟩ := cs
  refine xMet.of (by decide) (Nat.le_of_ble_eq_true rfl) ?_
  intro p e s m args below meth c A ls X hr hlocks hname hM hl hS hZ ht
  have hl : lv_has ls 3 [(0, .ref (ad 0 0))] := hl
  have hn := hI.n
  obtain ⟨⟨e1, e10, e2, e11, e3, e12, e6, e13⟩, x2, x3, x4⟩ := id hE
  refine lv_aload_n X.1 X.2.1 dX6_end_0 rfl (lv_at hl 0 rfl) ?_
  refine mg_get X hM (ci := 7) (k := 9) rfl kwX6 (by decide) kf_X6_43 dX6_end_1 (R.1 0 (0) rfl) (v := .ref (ad 3 (N 12))) rfl ?_
  refine mg_getN X hM (ci := 5) (k := 0) rfl kwX4 (by decide) kn_X6_104 dX6_end_4 (R.1 3 (N 12) (show N 12 < E 0 3 by omega)) (v := .int (nI (N 12))) rfl ?_
  refine lv_iconst (v := nI (1)) X.1 X.2.1 dX6_end_7 (by decide) ?_
  refine lv_iadd X.1 X.2.1 dX6_end_8 ?_
  refine lv_top (y := nI (N 12 + 1)) (nI_add _ _) ?_
  refine lv_istore_n (lv' := [(1, .int (nI (N 12 + 1))), (0, .ref (ad 0 0))]) X.1 X.2.1 dX6_end_9 rfl hl (by decide) rfl (fun ls hl => ?_)
  refine lv_iload_n X.1 X.2.1 dX6_end_10 rfl (lv_at hl 0 rfl) ?_
  refine lv_aload_n X.1 X.2.1 dX6_end_11 rfl (lv_at hl 1 rfl) ?_
  refine mg_get X hM (ci := 7) (k := 2) rfl kwX6 (by decide) kf_X6_23 dX6_end_12 (R.1 0 (0) rfl) (v := .ref (ad 12 0)) rfl ?_
  refine mg_alen X hM 5 rfl dX6_end_15 (R.1 12 (0) rfl) ?_
  refine b_icmp_lt (tgt := 29) X dX6_end_16 (by decide) (a := ((N 12 + 1 : Nat) : Int)) (b := ((12 : Nat) : Int)) (nI_ti (by omega)) (nI_ti (by omega)) (fun c1 => ?_) (fun c1 => ?_)
  · skip
    refine lv_aload_n X.1 X.2.1 dX6_end_29 rfl (lv_at hl 1 rfl) ?_
    refine m_callV X hM ck_X6_109 ki_X6_awardPrizes ks_X6_awardPrizes (ci := 7) rfl dX6_end_30 (As := []) (c_X6_awardPrizes l G ad N F B E P Q _ R _ rfl hI hJ hE hP) (R.1 0 (0) rfl) rfl hl rfl (Nat.le_of_ble_eq_true rfl) ⟨Nat.le_of_ble_eq_true rfl, Nat.le_of_ble_eq_true rfl⟩ ⟨Nat.le_of_ble_eq_true rfl, Nat.le_of_ble_eq_true rfl⟩ ?_
    rintro _ M H locs ⟨rfl, ad2, E2, h02, R, hE2, hT2⟩ hM
    have hw3 := aw_le N F 3
    have hl : lv_has ls 3 [(1, .int (nI (N 12 + 1))), (0, .ref (ad2 0 0))] := by rw [← h02] at hl; exact hl
    obtain ⟨ad, h00, hl, R⟩ : ∃ ad3 : Nat → Nat → Nat, ad3 0 0 = ad 0 0 ∧ lv_has ls 3 [(1, .int (nI (N 12 + 1))), (0, .ref (ad3 0 0))] ∧ RC G ad3 (va_up N 13 (N 13 + (awS N F 3).1)) (awS N F 3).2 B E2 P Q M := ⟨ad2, h02, hl, R⟩
    obtain ⟨⟨f1, f10, f2, f11, f3, f12, f6, f13⟩, y2, y3, y4⟩ := id hE2
    have f3 : E2 0 3 = N 12 + 1 := f3
    have f12 : E2 0 12 = N 12 + 1 := f12
    have f1 : E2 0 1 = N 1 := f1
    have f2 : E2 0 2 = N 6 := f2
    have f6 : E2 0 6 = N 13 + (awS N F 3).1 := f6
    refine lv_istore_n (lv' := [(2, .int (nI ((awS N F 3).1))), (1, .int (nI (N 12 + 1))), (0, .ref (ad 0 0))]) X.1 X.2.1 dX6_end_33 rfl hl (by decide) rfl (fun ls hl => ?_)
    refine lv_aload_n X.1 X.2.1 dX6_end_34 rfl (lv_at hl 2 rfl) ?_
    refine mg_new X hM (ci := 5) tyX4 tyX4_ok rfl kwX4 kcl_X6_21 kinst_X4 kini_X4 (fs := [.int (0), .null, .null]) (by decide) dX6_end_35 (Nat.le_of_ble_eq_true rfl) (Nat.le_of_ble_eq_true rfl) (fun a2 H hn3 hM => ?_)
    have hq4 := R.new hn3
    obtain ⟨M, hc5, hM, R⟩ : ∃ M2, M2 a2 = some (.inr (5, [.int (0), .null, .null])) ∧ mW G A s.heap M2 H locs ∧ RC G ad (va_up N 13 (N 13 + (awS N F 3).1)) (awS N F 3).2 B E2 P Q M2 := ⟨_, mU_eq _ _ _, hM, R.off hq4 _⟩
    refine lv_dup X.1 X.2.1 dX6_end_38 rfl ?_
    refine lv_iload_n X.1 X.2.1 dX6_end_39 rfl (lv_at hl 1 rfl) ?_
    refine m_callIN X hM ckN_X6_40 ki_X4_init rfl dX6_end_40 (b := a2) (As := [.int (nI (N 12 + 1))]) (c_X4_init l G _ a2 (N 12 + 1) hc5) rfl hl rfl (Nat.le_of_ble_eq_true rfl) ⟨Nat.le_of_ble_eq_true rfl, Nat.le_of_ble_eq_true rfl⟩ ⟨Nat.le_of_ble_eq_true rfl, Nat.le_of_ble_eq_true rfl⟩ ?_
    rintro _ _ H locs ⟨rfl, as2, bs2, ha2, hb2, hba, rfl⟩ hM
    obtain ⟨ad, M, h0, h12, ea, hM, R⟩ : ∃ (ad2 : Nat → Nat → Nat) (M2 : Mem), ad 0 = ad2 0 ∧ ad 12 = ad2 12 ∧ a2 = ad2 3 (N 12 + 1) ∧ mW G A s.heap M2 H locs ∧ RC G ad2 (va_up N 13 (N 13 + (awS N F 3).1)) (awS N F 3).2 B (set1 E2 0 3 (N 12 + 1 + 1)) (va_up P (N 12 + 1) (fun _ => 0)) (va_up Q (N 12 + 1) (fun _ => 0)) M2 := ⟨set1 (set1 (set1 ad 3 (N 12 + 1) a2) 4 (N 12 + 1) as2) 5 (N 12 + 1) bs2, _, rfl, rfl, by simp [set1, va_up], hM, R.season (n := N 12 + 1) f3 (by omega) (show N 12 < N 12 + 1 by omega) (fun i hi => by rw [awS_off N F (by decide) 3]; have := hI.m (m := i) (by rw [f2] at hi; exact hi); omega) (fun i hi => aw_14 hI 3 i (by rw [f6] at hi; exact hi)) hq4 hc5 ha2 hb2 hba⟩
    have h00 : ad 0 0 = _ := (congrFun h0 0).symm.trans h00
    have hl : lv_has ls 3 [(2, .int (nI ((awS N F 3).1))), (1, .int (nI (N 12 + 1))), (0, .ref (ad 0 0))] := by rw [h0] at hl; exact hl
    rw [ea, h0]
    have e12 : (set1 E2 0 3 (N 12 + 1 + 1)) 0 12 = N 12 + 1 := f12
    refine mg_put X hM tyX6 tyX6_ok nmX6 (ci := 7) (k := 9) rfl kwX6 (by decide) kf_X6_43 rfl dX6_end_43 (R.1 0 (0) rfl) rfl rfl (Nat.le_of_ble_eq_true rfl) (fun H locs hM => ?_)
    obtain ⟨M, hM, R⟩ : ∃ M2, mW G A s.heap M2 H locs ∧ RC G ad (va_up (va_up N 13 (N 13 + (awS N F 3).1)) 12 (N 12 + 1)) (awS N F 3).2 B (set1 E2 0 3 (N 12 + 1 + 1)) (va_up P (N 12 + 1) (fun _ => 0)) (va_up Q (N 12 + 1) (fun _ => 0)) M2 := ⟨_, hM, R.nSe (N 12 + 1)⟩
    refine lv_aload_n X.1 X.2.1 dX6_end_46 rfl (lv_at hl 2 rfl) ?_
    refine mg_get X hM (ci := 7) (k := 2) rfl kwX6 (by decide) kf_X6_23 dX6_end_47 (R.1 0 (0) rfl) (v := .ref (ad 12 0)) rfl ?_
    refine lv_iload_n X.1 X.2.1 dX6_end_50 rfl (lv_at hl 1 rfl) ?_
    refine lv_aload_n X.1 X.2.1 dX6_end_51 rfl (lv_at hl 2 rfl) ?_
    refine mg_get X hM (ci := 7) (k := 9) rfl kwX6 (by decide) kf_X6_43 dX6_end_52 (R.1 0 (0) rfl) (v := .ref (ad 3 ((N 12 + 1)))) rfl ?_
    refine mx_aast X hM 5 (ci := 5) rfl rfl dX6_end_55 (R.1 12 (0) rfl) (R.1 3 ((N 12 + 1)) (show (N 12 + 1) < N 12 + 1 + 1 by omega)) (i := N 12 + 1) (by omega) (by decide) (fun H locs hM => ?_)
    obtain ⟨M, hM, R⟩ : ∃ M2, mW G A s.heap M2 H locs ∧ RC G ad (va_up (va_up N 13 (N 13 + (awS N F 3).1)) 12 (N 12 + 1)) (awS N F 3).2 B (set1 (set1 E2 0 3 (N 12 + 1 + 1)) 0 (12) (N 12 + 1 + 1)) (va_up P (N 12 + 1) (fun _ => 0)) (va_up Q (N 12 + 1) (fun _ => 0)) M2 := ⟨_, hM, R.rowSec (n := N 12 + 1) (by first | rfl | exact e12)⟩
    refine lv_iload_n X.1 X.2.1 dX6_end_56 rfl (lv_at hl 0 rfl) ?_
    exact x_iret X hr hlocks hM dX6_end_57 ⟨Nat.le_of_ble_eq_true rfl, Nat.le_of_ble_eq_true rfl⟩ (⟨by unfold kEnd; rw [if_neg (by omega)], congrArg (fun z => some (Value.int z)) (rfl), by unfold nEnd; exact ⟨ad, (set1 (set1 E2 0 3 (N 12 + 1 + 1)) 0 (12) (N 12 + 1 + 1)), (va_up P (N 12 + 1) (fun _ => 0)), (va_up Q (N 12 + 1) (fun _ => 0)), h00, R, ⟨⟨f1, f10, f2, f11, rfl, rfl, f6, f13⟩, y2, y3, y4⟩, fun r hr => by show E2 1 r = _; rw [hT2, hT r hr]; exact sumN_cong (fun m _ => by unfold tdC; rw [awS_off N F (by decide) 3, awS_off N F (by decide) 3]; rfl), NrP.nd hI (NrP.congr (awS_off N F (by decide) 3) (awS_off N F (by decide) 3) (awS_off N F (by decide) 3) (awS_off N F (by decide) 3) (awS_off N F (by decide) 3) hP) (awS_off N F (by decide) 3)⟩⟩)
  · skip
    exact x_throw (cls := EIS) (text := "the last season is on") X hst hS hZ ht hlocks hM hl (by decide +kernel) (by decide) xh_55 xg_55 dX6_end_19 dX6_end_22 dX6_end_23 dX6_end_25 dX6_end_28 ⟨Nat.le_of_ble_eq_true rfl, Nat.le_of_ble_eq_true rfl⟩ ⟨Nat.le_of_ble_eq_true rfl, Nat.le_of_ble_eq_true rfl⟩ ⟨Nat.le_of_ble_eq_true rfl, Nat.le_of_ble_eq_true rfl⟩ (⟨⟨ad, E, P, Q, rfl, R, hE, hT, hP⟩, ⟨rfl, by unfold kEnd; rw [if_pos (by omega)]⟩⟩)
