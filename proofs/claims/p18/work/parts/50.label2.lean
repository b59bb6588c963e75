theorem lab_out {F : Nat → Nat → Nat} {k : Nat} {m : Int32} (h : (((labL F k).length : Nat) : Int) ≤ m.toInt) : (labL F k).getD (ix m) 0 = 0 := by
  have h2 : (labL F k).length ≤ ix m := by unfold ix; omega
  rw [List.getD_eq_getElem?_getD, List.getElem?_eq_none h2]
  rfl
set_option maxHeartbeats 4000000 in
set_option maxRecDepth 100000 in
theorem c_X6_label (l : Launch) (G : mG) (x : Nat) (N : Nat → Nat) (F : Nat → Nat → Nat) (B : Nat → Int32) (M : Mem) (cs : CS G x N F B M) (m0 : Int32) (m1 : Int32) (hst : l.stackTraces = false) (hI : Iv N F) : xMet l yX6_label cX6_label 5 (some FieldType.char) ({ frames := 7, cells := 3, slots := 26, locals := 104 } : Room) G [.ref x, .int (m0), .int (m1)] M (fun r M' => kLabel N m0 m1 = 0 ∧ r = some (.int (vLabel F (ix m0) (ix m1))) ∧ CS G x (N) (F) (B) M') (fun E9 M' => CS G x N F B M' ∧ ((E9 = EIO ∧ kLabel N m0 m1 = 1))) := by
  obtain ⟨ad, E, P, Q, rfl, R, hE, hT, hP⟩ := cs
  refine xMet.of (by decide) (Nat.le_of_ble_eq_true rfl) ?_
  intro p e s m args below meth c A ls X hr hlocks hname hM hl hS hZ ht
  have hl : lv_has ls 5 [(0, .ref (ad 0 0)), (1, .int (m0)), (2, .int (m1))] := hl
  have hn := hI.n
  obtain ⟨⟨e1, e10, e2, e11, e3, e12, e6, e13⟩, x2, x3, x4⟩ := id hE
  refine lv_aload_n X.1 X.2.1 dX6_label_0 rfl (lv_at hl 0 rfl) ?_
  refine lv_iload_n X.1 X.2.1 dX6_label_1 rfl (lv_at hl 1 rfl) ?_
  refine xm_callV X hM hS hZ ck_X6_113 ki_X6_skinAt ks_X6_skinAt (ci := 7) rfl dX6_label_2 (As := [.int (m0)]) (c_X6_skinAt l G ad N F B E P Q _ R m0 hst (show E 0 13 ≤ 36 by omega)) (R.1 0 (0) rfl) rfl hl rfl (Nat.le_of_ble_eq_true rfl) ⟨Nat.le_of_ble_eq_true rfl, Nat.le_of_ble_eq_true rfl⟩ ⟨Nat.le_of_ble_eq_true rfl, Nat.le_of_ble_eq_true rfl⟩ (fun E9 ce q9 M1 H1 locs1 hp hM1 h1 h2 h3 => x_out ht hlocks hM1 h1 h2 h3 ⟨Nat.le_of_ble_eq_true rfl, Nat.le_of_ble_eq_true rfl⟩ (by obtain ⟨rfl, h9, rfl⟩ := hp; exact ⟨⟨ad, E, P, Q, rfl, R, hE, hT, hP⟩, ⟨rfl, by unfold kLabel; rw [if_neg (fun y => by rw [← e13, h9] at y; cases y.1)]⟩⟩)) ?_
  rintro _ _ H locs ⟨rfl, h9, rfl⟩ hM
  obtain ⟨jm0, hjm0, rfl⟩ := iR_t h9 (by omega)
  refine lv_topv (y := .ref (ad 6 (jm0))) (by rw [ix_nI (by omega)]) ?_
  have hjm0 : jm0 < N 13 := by omega
  have k4 : E 4 jm0 = F 21 jm0 := by rw [x4]
  have k9 := hI.k (k := jm0) (by omega)
  have kb := hI.p (F 17 jm0 - 1)
  refine lv_astore_n (lv' := [(3, .ref (ad 6 (jm0))), (0, .ref (ad 0 0)), (1, .int (nI (jm0))), (2, .int (m1))]) X.1 X.2.1 dX6_label_5 rfl hl (by decide) rfl (fun ls hl => ?_)
  refine lv_iload_n X.1 X.2.1 dX6_label_6 rfl (lv_at hl 3 rfl) ?_
  refine b_if_ge (tgt := 20) X dX6_label_7 (by decide) (a := (m1).toInt) (rfl) (fun c1 => ?_) (fun c1 => ?_)
  · skip
    refine mg_new X hM (ci := 0) tyJ4 tyJ4_ok rfl kwJ4 kcl_X6_228 kinst_J4 kini_J4 (fs := [.null, .int (0), .int (0), .int (0)]) (by decide) dX6_label_20 (Nat.le_of_ble_eq_true rfl) (Nat.le_of_ble_eq_true rfl) (fun a2 H hn3 hM => ?_)
    have hq4 := R.new hn3
    obtain ⟨M, hc5, hM, R⟩ : ∃ M2, M2 a2 = some (.inr (0, [.null, .int (0), .int (0), .int (0)])) ∧ mW G A s.heap M2 H locs ∧ RC G ad N F B E P Q M2 := ⟨_, mU_eq _ _ _, hM, R.off hq4 _⟩
    refine lv_dup X.1 X.2.1 dX6_label_23 rfl ?_
    refine jm_callI X hM hS hZ ck_X6_230 ki_J4_init_da8c8 rfl dX6_label_24 (b := a2) (As := []) (c_J4_init_da8c8 l G _ a2 hc5) rfl hl rfl (Nat.le_of_ble_eq_true rfl) ⟨Nat.le_of_ble_eq_true rfl, Nat.le_of_ble_eq_true rfl⟩ ⟨Nat.le_of_ble_eq_true rfl, Nat.le_of_ble_eq_true rfl⟩ ?_
    rintro _ _ H locs ⟨rfl, b9, hn9, rfl⟩ hM
    have hbq9 : b9 ≠ a2 := mU_nn2 hn9 hc5
    have hb9 := R.new hn9
    obtain ⟨M, hM, hs, R⟩ : ∃ M2, mW G A s.heap M2 H locs ∧ SBp G a2 b9 [] M2 ∧ RC G ad N F B E P Q M2 := ⟨_, hM, ⟨fun _ => 0, mU_eq _ _ _, by rw [mU_ne hbq9, mU_eq], fun _ h => absurd h (Nat.not_lt_zero _)⟩, (R.off hb9 _).off hq4 _⟩
    refine lv_astore (lv' := [(4, .ref a2), (3, .ref (ad 6 (jm0))), (0, .ref (ad 0 0)), (1, .int (nI (jm0))), (2, .int (m1))]) X.1 X.2.1 dX6_label_27 hl (by decide) rfl (fun ls hl => ?_)
    refine lv_aload_n X.1 X.2.1 dX6_label_29 rfl (lv_at hl 1 rfl) ?_
    refine lv_aload X.1 X.2.1 dX6_label_30 (lv_at hl 0 rfl) ?_
    refine jm_callVN X hM hS hZ ckN_X6_231 ki_X5_writeLabel ks_X5_writeLabel (ci := 6) rfl dX6_label_32 (As := [.ref a2]) (c_X5_writeLabel l G ad N F B E P Q _ R jm0 a2 b9 (show _ < E 0 6 by omega) hq4 hb9 hbq9 hs (by omega) ⟨show _ < E 0 3 by omega, by omega⟩ (by omega) ⟨show _ ≤ E 0 1 by omega, by omega⟩) (R.1 6 (jm0) (show _ < E 0 6 by omega)) rfl hl rfl (Nat.le_of_ble_eq_true rfl) ⟨Nat.le_of_ble_eq_true rfl, Nat.le_of_ble_eq_true rfl⟩ ⟨Nat.le_of_ble_eq_true rfl, Nat.le_of_ble_eq_true rfl⟩ ?_
    rintro _ M H locs ⟨rfl, R, hs⟩ hM
    obtain ⟨f9, hq8, hb8, hf8⟩ := hs
    have hl11 := labL_len F jm0
    refine lv_iload_n X.1 X.2.1 dX6_label_35 rfl (lv_at hl 4 rfl) ?_
    refine lv_aload X.1 X.2.1 dX6_label_36 (lv_at hl 0 rfl) ?_
    refine jm_callV X hM hS hZ ck_X6_235 ki_J4_length_8abf5 ks_J4_length_8abf5 (ci := 0) rfl dX6_label_38 (As := []) (c_J4_length_8abf5 l G _ a2 b9 (labL F jm0).length hq8) hq8 rfl hl rfl (Nat.le_of_ble_eq_true rfl) ⟨Nat.le_of_ble_eq_true rfl, Nat.le_of_ble_eq_true rfl⟩ ⟨Nat.le_of_ble_eq_true rfl, Nat.le_of_ble_eq_true rfl⟩ ?_
    rintro _ _ H locs ⟨rfl, rfl⟩ hM
    refine b_icmp_ge (tgt := 53) X dX6_label_41 (by decide) (a := (m1).toInt) (b := (((labL F jm0).length : Nat) : Int)) (rfl) (nI_ti (by omega)) (fun c6 => ?_) (fun c6 => ?_)
    · skip
      refine lv_iconst (v := nI (0)) X.1 X.2.1 dX6_label_53 (by decide) ?_
      exact x_zret X hr hlocks hM dX6_label_54 ⟨Nat.le_of_ble_eq_true rfl, Nat.le_of_ble_eq_true rfl⟩ (nar_chr9 (by omega)) (⟨by unfold kLabel; rw [if_pos ⟨iR_lt hjm0 (by omega), by first | omega | (rw [nI_toInt (by omega)]; omega)⟩], congrArg (fun z => some (Value.int z)) (by rw [ix_nI (by omega)]; unfold vLabel; first | (rw [ix_nI (by omega)]; done) | (rw [lab_out (by omega)]; done)), by exact ⟨ad, E, P, Q, rfl, R, hE, NrT.congr rfl rfl hT, NrP.congr rfl rfl rfl rfl rfl hP⟩⟩)
    · skip
      obtain ⟨v1, hv1l, hv1, rfl⟩ := in_t 0 (x := m1) (n := 16) ⟨by omega, by omega⟩ (by omega)
      rw [nI_toInt (by omega)] at c6
      refine lv_aload X.1 X.2.1 dX6_label_44 (lv_at hl 0 rfl) ?_
      refine lv_iload_n X.1 X.2.1 dX6_label_46 rfl (lv_at hl 4 rfl) ?_
      have hc9 := labL_lt (F := F) (k := jm0) (by omega) (by omega) (by omega) (by omega) v1
      refine jm_callV X hM hS hZ ck_X6_238 ki_J4_charAt_5068e ks_J4_charAt_5068e (ci := 0) rfl dX6_label_47 (As := [.int (nI (v1))]) (c_J4_charAt_5068e l G _ a2 b9 (labL F jm0).length f9 v1 ((labL F jm0).getD v1 0) hq8 hb8 (by omega) (by omega) (hf8 v1 (by omega)) hc9) hq8 rfl hl rfl (Nat.le_of_ble_eq_true rfl) ⟨Nat.le_of_ble_eq_true rfl, Nat.le_of_ble_eq_true rfl⟩ ⟨Nat.le_of_ble_eq_true rfl, Nat.le_of_ble_eq_true rfl⟩ ?_
      rintro _ _ H locs ⟨rfl, rfl⟩ hM
      refine lv_goto (tgt := 54) X.1 X.2.1 dX6_label_50 (by decide) ?_
      exact x_zret X hr hlocks hM dX6_label_54 ⟨Nat.le_of_ble_eq_true rfl, Nat.le_of_ble_eq_true rfl⟩ (nar_chr9 (by omega)) (⟨by unfold kLabel; rw [if_pos ⟨iR_lt hjm0 (by omega), by first | omega | (rw [nI_toInt (by omega)]; omega)⟩], congrArg (fun z => some (Value.int z)) (by rw [ix_nI (by omega)]; unfold vLabel; first | (rw [ix_nI (by omega)]; done) | (rw [lab_out (by omega)]; done)), by exact ⟨ad, E, P, Q, rfl, R, hE, NrT.congr rfl rfl hT, NrP.congr rfl rfl rfl rfl rfl hP⟩⟩)
  · skip
    exact x_throw (cls := EIO) (text := "no such place of a label") X hst hS hZ ht hlocks hM hl (by decide +kernel) (by decide) xh_227 xg_227 dX6_label_10 dX6_label_13 dX6_label_14 dX6_label_16 dX6_label_19 ⟨Nat.le_of_ble_eq_true rfl, Nat.le_of_ble_eq_true rfl⟩ ⟨Nat.le_of_ble_eq_true rfl, Nat.le_of_ble_eq_true rfl⟩ ⟨Nat.le_of_ble_eq_true rfl, Nat.le_of_ble_eq_true rfl⟩ (⟨⟨ad, E, P, Q, rfl, R, hE, hT, hP⟩, ⟨rfl, by unfold kLabel; rw [if_neg (fun y => by have := y.2; omega)]⟩⟩)
