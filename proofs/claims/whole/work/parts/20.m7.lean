set_option maxHeartbeats 4000000 in
set_option maxRecDepth 100000 in
theorem c_X7_ranked (l : Launch) (G : mG) (x : Nat) (ar N : Nat → Nat) (F : Nat → Nat → Nat) (B : Nat → Int32) (s0 : Int32) (p0 : Int32) (w0 : Int32) (hI : Iv N F) : MMet l yX7_ranked cX7_ranked 5 (some FieldType.int) ({ frames := 2, cells := 0, slots := 0, locals := 45 } : Room) G x ar [.ref x, .int (s0), .int (p0), .int (w0)] N F B (fun r N' F' B' => MA r N' F' B' (kRanked N s0 p0 w0) (nI (vRanked N F (ix s0) (ix p0) (ix w0))) (N) (F) (B) N F B) := by
  refine MMet.of (by decide) (Nat.le_of_ble_eq_true rfl) ?_
  intro p e s m args below meth c A ls X hr hlocks h hl
  have hl : lv_has ls 5 [(0, .ref x), (1, .int (s0)), (2, .int (p0)), (3, .int (w0))] := hl
  have hn := hI.n
  refine lv_iload_n X.1 X.2.1 dX7_ranked_0 rfl (lv_at hl 1 rfl) ?_
  refine lv_iconst (v := nI (0)) X.1 X.2.1 dX7_ranked_1 (by decide) ?_
  refine lv_aload_n X.1 X.2.1 dX7_ranked_2 rfl (lv_at hl 0 rfl) ?_
  refine mr_get X h kf_X7_113 (by decide) dX7_ranked_3 (v := .int (nI (N 12))) rfl ?_
  refine mr_callS X h ck_X7_86 kst_X7_isIn dX7_ranked_6 (As := [.int (s0), .int (nI (0)), .int (nI (N 12))]) (c_X7_isIn l G x ar N F B (s0) (nI (0)) (nI (N 12))) rfl hl rfl (Nat.le_of_ble_eq_true rfl) ⟨Nat.le_of_ble_eq_true rfl, Nat.le_of_ble_eq_true rfl⟩ ⟨Nat.le_of_ble_eq_true rfl, Nat.le_of_ble_eq_true rfl⟩ ?_
  rintro _ _ _ _ H locs ⟨rfl, rfl, rfl, rfl⟩ h
  refine lv_top (y := bI (decide (((0 : Nat) : Int) ≤ (s0).toInt ∧ (s0).toInt ≤ ((N 12 : Nat) : Int)))) (by rw [show (s0).toInt = (s0).toInt from rfl, show (nI (0)).toInt = ((0 : Nat) : Int) from nI_ti (by omega), show (nI (N 12)).toInt = ((N 12 : Nat) : Int) from nI_ti (by omega)]) ?_
  refine b_bool_eq (tgt := 24) X dX7_ranked_9 (by decide) (fun c1 => ?_) (fun c1 => ?_)
  · skip
    have c1 := of_decide_eq_false c1
    refine lv_iconst (v := nI (0)) X.1 X.2.1 dX7_ranked_24 (by decide) ?_
    refine lv_istore (lv' := [(4, .int (nI (0))), (0, .ref x), (1, .int (s0)), (2, .int (p0)), (3, .int (w0))]) X.1 X.2.1 dX7_ranked_25 hl (by decide) rfl (fun ls hl => ?_)
    refine lv_aload_n X.1 X.2.1 dX7_ranked_27 rfl (lv_at hl 1 rfl) ?_
    refine lv_iload X.1 X.2.1 dX7_ranked_28 (lv_at hl 0 rfl) ?_
    refine b_if_ne (tgt := 37) X dX7_ranked_30 (by decide) (a := ((0 : Nat) : Int)) (nI_ti (by omega)) (fun c2 => ?_) (fun c2 => ?_)
    · skip
      exact absurd c2 (by first | decide | omega)
    · skip
      refine lv_iconst (v := nI (1)) X.1 X.2.1 dX7_ranked_33 (by decide) ?_
      refine lv_goto (tgt := 51) X.1 X.2.1 dX7_ranked_34 (by decide) ?_
      refine mr_callV X h ck_X7_93 ki_X7_fails ks_X7_fails dX7_ranked_51 (As := [.int (nI (1))]) (c_X7_fails l G x ar N F B 1 (by omega)) rfl hl rfl (Nat.le_of_ble_eq_true rfl) ⟨Nat.le_of_ble_eq_true rfl, Nat.le_of_ble_eq_true rfl⟩ ⟨Nat.le_of_ble_eq_true rfl, Nat.le_of_ble_eq_true rfl⟩ ?_
      rintro _ _ _ _ H locs ⟨rfl, rfl, rfl, rfl⟩ h
      refine b_bool_eq (tgt := 59) X dX7_ranked_54 (by decide) (fun c3 => ?_) (fun c3 => ?_)
      · skip
        exact absurd c3 (by first | decide | omega)
      · skip
        have c3 := of_decide_eq_true c3
        refine lv_iconst (v := nI (0)) X.1 X.2.1 dX7_ranked_57 (by decide) ?_
        exact mr_iret X hr hlocks h dX7_ranked_58 ⟨Nat.le_of_ble_eq_true rfl, Nat.le_of_ble_eq_true rfl⟩ (MA.bad (if_pos (by rw [Bool.and_eq_false_iff]; exact Or.inl (by unfold iR; exact decide_eq_false (by omega)))) (by decide))
  · skip
    have c1 := of_decide_eq_true c1
    obtain ⟨i1, hi1, rfl⟩ := iR_t (p := s0) (n := N 12 + 1) (decide_eq_true (by omega)) (by omega)
    refine lv_aload_n X.1 X.2.1 dX7_ranked_12 rfl (lv_at hl 0 rfl) ?_
    refine lv_iload_n X.1 X.2.1 dX7_ranked_13 rfl (lv_at hl 2 rfl) ?_
    refine mr_callV X h ck_X7_107 ki_X7_isPlayer ks_X7_isPlayer dX7_ranked_14 (As := [.int (p0)]) (c_X7_isPlayer l G x ar N F B (p0) hI) rfl hl rfl (Nat.le_of_ble_eq_true rfl) ⟨Nat.le_of_ble_eq_true rfl, Nat.le_of_ble_eq_true rfl⟩ ⟨Nat.le_of_ble_eq_true rfl, Nat.le_of_ble_eq_true rfl⟩ ?_
    rintro _ _ _ _ H locs ⟨rfl, rfl, rfl, rfl⟩ h
    refine b_bool_eq (tgt := 24) X dX7_ranked_17 (by decide) (fun c4 => ?_) (fun c4 => ?_)
    · skip
      refine lv_iconst (v := nI (0)) X.1 X.2.1 dX7_ranked_24 (by decide) ?_
      refine lv_istore (lv' := [(4, .int (nI (0))), (0, .ref x), (1, .int (nI (i1))), (2, .int (p0)), (3, .int (w0))]) X.1 X.2.1 dX7_ranked_25 hl (by decide) rfl (fun ls hl => ?_)
      refine lv_aload_n X.1 X.2.1 dX7_ranked_27 rfl (lv_at hl 1 rfl) ?_
      refine lv_iload X.1 X.2.1 dX7_ranked_28 (lv_at hl 0 rfl) ?_
      refine b_if_ne (tgt := 37) X dX7_ranked_30 (by decide) (a := ((0 : Nat) : Int)) (nI_ti (by omega)) (fun c5 => ?_) (fun c5 => ?_)
      · skip
        exact absurd c5 (by first | decide | omega)
      · skip
        refine lv_iconst (v := nI (1)) X.1 X.2.1 dX7_ranked_33 (by decide) ?_
        refine lv_goto (tgt := 51) X.1 X.2.1 dX7_ranked_34 (by decide) ?_
        refine mr_callV X h ck_X7_93 ki_X7_fails ks_X7_fails dX7_ranked_51 (As := [.int (nI (1))]) (c_X7_fails l G x ar N F B 1 (by omega)) rfl hl rfl (Nat.le_of_ble_eq_true rfl) ⟨Nat.le_of_ble_eq_true rfl, Nat.le_of_ble_eq_true rfl⟩ ⟨Nat.le_of_ble_eq_true rfl, Nat.le_of_ble_eq_true rfl⟩ ?_
        rintro _ _ _ _ H locs ⟨rfl, rfl, rfl, rfl⟩ h
        refine b_bool_eq (tgt := 59) X dX7_ranked_54 (by decide) (fun c6 => ?_) (fun c6 => ?_)
        · skip
          exact absurd c6 (by first | decide | omega)
        · skip
          have c6 := of_decide_eq_true c6
          refine lv_iconst (v := nI (0)) X.1 X.2.1 dX7_ranked_57 (by decide) ?_
          exact mr_iret X hr hlocks h dX7_ranked_58 ⟨Nat.le_of_ble_eq_true rfl, Nat.le_of_ble_eq_true rfl⟩ (MA.bad (if_pos (by rw [iR_lt (j := i1) (n := N 12 + 1) (by omega) (by omega), Bool.and_eq_false_iff]; exact Or.inr c4)) (by decide))
    · skip
      obtain ⟨i2, hi2, rfl⟩ := iR_t c4 (by omega)
      refine lv_iconst (v := nI (1)) X.1 X.2.1 dX7_ranked_20 (by decide) ?_
      refine lv_goto (tgt := 25) X.1 X.2.1 dX7_ranked_21 (by decide) ?_
      refine lv_istore (lv' := [(4, .int (nI (1))), (0, .ref x), (1, .int (nI (i1))), (2, .int (nI (i2))), (3, .int (w0))]) X.1 X.2.1 dX7_ranked_25 hl (by decide) rfl (fun ls hl => ?_)
      refine lv_aload_n X.1 X.2.1 dX7_ranked_27 rfl (lv_at hl 1 rfl) ?_
      refine lv_iload X.1 X.2.1 dX7_ranked_28 (lv_at hl 0 rfl) ?_
      refine b_if_ne (tgt := 37) X dX7_ranked_30 (by decide) (a := ((1 : Nat) : Int)) (nI_ti (by omega)) (fun c7 => ?_) (fun c7 => ?_)
      · skip
        refine lv_iload_n X.1 X.2.1 dX7_ranked_37 rfl (lv_at hl 4 rfl) ?_
        refine lv_iconst (v := nI (0)) X.1 X.2.1 dX7_ranked_38 (by decide) ?_
        refine lv_iconst (v := nI (2)) X.1 X.2.1 dX7_ranked_39 (by decide) ?_
        refine mr_callS X h ck_X7_86 kst_X7_isIn dX7_ranked_40 (As := [.int (w0), .int (nI (0)), .int (nI (2))]) (c_X7_isIn l G x ar N F B (w0) (nI (0)) (nI (2))) rfl hl rfl (Nat.le_of_ble_eq_true rfl) ⟨Nat.le_of_ble_eq_true rfl, Nat.le_of_ble_eq_true rfl⟩ ⟨Nat.le_of_ble_eq_true rfl, Nat.le_of_ble_eq_true rfl⟩ ?_
        rintro _ _ _ _ H locs ⟨rfl, rfl, rfl, rfl⟩ h
        refine lv_top (y := bI (decide (((0 : Nat) : Int) ≤ (w0).toInt ∧ (w0).toInt ≤ ((2 : Nat) : Int)))) (by rw [show (w0).toInt = (w0).toInt from rfl, show (nI (0)).toInt = ((0 : Nat) : Int) from nI_ti (by omega), show (nI (2)).toInt = ((2 : Nat) : Int) from nI_ti (by omega)]) ?_
        refine b_bool_eq (tgt := 50) X dX7_ranked_43 (by decide) (fun c8 => ?_) (fun c8 => ?_)
        · skip
          have c8 := of_decide_eq_false c8
          refine lv_iconst (v := nI (2)) X.1 X.2.1 dX7_ranked_50 (by decide) ?_
          refine mr_callV X h ck_X7_93 ki_X7_fails ks_X7_fails dX7_ranked_51 (As := [.int (nI (2))]) (c_X7_fails l G x ar N F B 2 (by omega)) rfl hl rfl (Nat.le_of_ble_eq_true rfl) ⟨Nat.le_of_ble_eq_true rfl, Nat.le_of_ble_eq_true rfl⟩ ⟨Nat.le_of_ble_eq_true rfl, Nat.le_of_ble_eq_true rfl⟩ ?_
          rintro _ _ _ _ H locs ⟨rfl, rfl, rfl, rfl⟩ h
          refine b_bool_eq (tgt := 59) X dX7_ranked_54 (by decide) (fun c9 => ?_) (fun c9 => ?_)
          · skip
            exact absurd c9 (by first | decide | omega)
          · skip
            have c9 := of_decide_eq_true c9
            refine lv_iconst (v := nI (0)) X.1 X.2.1 dX7_ranked_57 (by decide) ?_
            exact mr_iret X hr hlocks h dX7_ranked_58 ⟨Nat.le_of_ble_eq_true rfl, Nat.le_of_ble_eq_true rfl⟩ (MA.bad ((if_neg (by rw [iR_lt (j := i1) (n := N 12 + 1) (by omega) (by omega), iR_lt (j := i2) (n := N 1) (by omega) (by omega)]; decide)).trans (if_neg (by omega))) (by decide))
        · skip
          have c8 := of_decide_eq_true c8
          obtain ⟨i3, hi3l, hi3, rfl⟩ := in_t 0 (n := 2) c8 (by omega)
          refine lv_iconst (v := nI (0)) X.1 X.2.1 dX7_ranked_46 (by decide) ?_
          refine lv_goto (tgt := 51) X.1 X.2.1 dX7_ranked_47 (by decide) ?_
          refine mr_callV X h ck_X7_93 ki_X7_fails ks_X7_fails dX7_ranked_51 (As := [.int (nI (0))]) (c_X7_fails l G x ar N F B 0 (by omega)) rfl hl rfl (Nat.le_of_ble_eq_true rfl) ⟨Nat.le_of_ble_eq_true rfl, Nat.le_of_ble_eq_true rfl⟩ ⟨Nat.le_of_ble_eq_true rfl, Nat.le_of_ble_eq_true rfl⟩ ?_
          rintro _ _ _ _ H locs ⟨rfl, rfl, rfl, rfl⟩ h
          refine b_bool_eq (tgt := 59) X dX7_ranked_54 (by decide) (fun c10 => ?_) (fun c10 => ?_)
          · skip
            have c10 := of_decide_eq_false c10
            refine lv_aload_n X.1 X.2.1 dX7_ranked_59 rfl (lv_at hl 1 rfl) ?_
            refine lv_iload_n X.1 X.2.1 dX7_ranked_60 rfl (lv_at hl 2 rfl) ?_
            refine mr_callV X h ck_X7_126 ki_X7_counts ks_X7_counts dX7_ranked_61 (As := [.int (nI (i1))]) (c_X7_counts l G x ar (va_up N 29 (0)) F B i1 hI (by omega)) rfl hl rfl (Nat.le_of_ble_eq_true rfl) ⟨Nat.le_of_ble_eq_true rfl, Nat.le_of_ble_eq_true rfl⟩ ⟨Nat.le_of_ble_eq_true rfl, Nat.le_of_ble_eq_true rfl⟩ ?_
            rintro _ _ _ _ H locs ⟨rfl, rfl, rfl, g, q, rfl, hg⟩ h
            have hb : ∀ z, z < N 1 → g z ≤ 400 ∧ q z ≤ 400 := fun z hz => by have := cnt_b hg (show N 6 ≤ 100 by omega) hz; omega
            refine lv_iload_n X.1 X.2.1 dX7_ranked_64 rfl (lv_at hl 4 rfl) ?_
            refine b_if_ne (tgt := 77) X dX7_ranked_65 (by decide) (a := ((i3 : Nat) : Int)) (nI_ti (by omega)) (fun c11 => ?_) (fun c11 => ?_)
            · skip
              refine lv_iload_n X.1 X.2.1 dX7_ranked_77 rfl (lv_at hl 4 rfl) ?_
              refine lv_iconst (v := nI (1)) X.1 X.2.1 dX7_ranked_78 (by decide) ?_
              refine b_icmp_ne (tgt := 91) X dX7_ranked_79 (by decide) (a := ((i3 : Nat) : Int)) (b := ((1 : Nat) : Int)) (nI_ti (by omega)) (nI_ti (by omega)) (fun c12 => ?_) (fun c12 => ?_)
              · skip
                refine lv_aload_n X.1 X.2.1 dX7_ranked_91 rfl (lv_at hl 1 rfl) ?_
                refine lv_iload_n X.1 X.2.1 dX7_ranked_92 rfl (lv_at hl 3 rfl) ?_
                refine mr_callV X h ck_X7_123 ki_X7_placeOf ks_X7_placeOf dX7_ranked_93 (As := [.int (nI (i2))]) (c_X7_placeOf l G x ar (va_up N 29 (0)) F B i2 g q (show N 1 ≤ 16 by omega) hb (show i2 < N 1 by omega)) rfl hl rfl (Nat.le_of_ble_eq_true rfl) ⟨Nat.le_of_ble_eq_true rfl, Nat.le_of_ble_eq_true rfl⟩ ⟨Nat.le_of_ble_eq_true rfl, Nat.le_of_ble_eq_true rfl⟩ ?_
                rintro _ _ _ _ H locs ⟨rfl, rfl, rfl, rfl⟩ h
                have b13 := plM_le g q (N 1) (i2)
                exact mr_iret X hr hlocks h dX7_ranked_96 ⟨Nat.le_of_ble_eq_true rfl, Nat.le_of_ble_eq_true rfl⟩ (MA.ok ((if_neg (by rw [iR_lt (j := i1) (n := N 12 + 1) (by omega) (by omega), iR_lt (j := i2) (n := N 1) (by omega) (by omega)]; decide)).trans (if_pos (by rw [nI_ti (by omega)]; omega))) (by rw [ix_nI (by omega), ix_nI (by omega), ix_nI (by omega)]; unfold vRanked; first | (rw [if_pos (show i3 = 0 by omega)]; exact congrArg nI (hg i2 hi2).1) | (rw [if_neg (show ¬ i3 = 0 by omega), if_pos (show i3 = 1 by omega)]; exact congrArg nI (hg i2 hi2).2) | (rw [if_neg (show ¬ i3 = 0 by omega), if_neg (show ¬ i3 = 1 by omega)]; exact congrArg nI (plM_congr (hg i2 hi2) hg))) rfl (fun k h1 h2 => by simp [va_up, h1, h2]) (sc2_SF _ _ _) rfl)
              · skip
                refine lv_aload_n X.1 X.2.1 dX7_ranked_82 rfl (lv_at hl 1 rfl) ?_
                refine mr_get X h kf_X7_73 (by decide) dX7_ranked_83 rfl ?_
                refine lv_iload_n X.1 X.2.1 dX7_ranked_86 rfl (lv_at hl 3 rfl) ?_
                refine mr_ald X h 26 rfl dX7_ranked_87 (i := i2) (v := nI (q (i2))) rfl (by show _ < 16; omega) rfl ?_
                have b14 := hb i2 (by omega)
                refine lv_goto (tgt := 96) X.1 X.2.1 dX7_ranked_88 (by decide) ?_
                exact mr_iret X hr hlocks h dX7_ranked_96 ⟨Nat.le_of_ble_eq_true rfl, Nat.le_of_ble_eq_true rfl⟩ (MA.ok ((if_neg (by rw [iR_lt (j := i1) (n := N 12 + 1) (by omega) (by omega), iR_lt (j := i2) (n := N 1) (by omega) (by omega)]; decide)).trans (if_pos (by rw [nI_ti (by omega)]; omega))) (by rw [ix_nI (by omega), ix_nI (by omega), ix_nI (by omega)]; unfold vRanked; first | (rw [if_pos (show i3 = 0 by omega)]; exact congrArg nI (hg i2 hi2).1) | (rw [if_neg (show ¬ i3 = 0 by omega), if_pos (show i3 = 1 by omega)]; exact congrArg nI (hg i2 hi2).2) | (rw [if_neg (show ¬ i3 = 0 by omega), if_neg (show ¬ i3 = 1 by omega)]; exact congrArg nI (plM_congr (hg i2 hi2) hg))) rfl (fun k h1 h2 => by simp [va_up, h1, h2]) (sc2_SF _ _ _) rfl)
            · skip
              refine lv_aload_n X.1 X.2.1 dX7_ranked_68 rfl (lv_at hl 1 rfl) ?_
              refine mr_get X h kf_X7_70 (by decide) dX7_ranked_69 rfl ?_
              refine lv_iload_n X.1 X.2.1 dX7_ranked_72 rfl (lv_at hl 3 rfl) ?_
              refine mr_ald X h 25 rfl dX7_ranked_73 (i := i2) (v := nI (g (i2))) rfl (by show _ < 16; omega) rfl ?_
              have b15 := hb i2 (by omega)
              refine lv_goto (tgt := 96) X.1 X.2.1 dX7_ranked_74 (by decide) ?_
              exact mr_iret X hr hlocks h dX7_ranked_96 ⟨Nat.le_of_ble_eq_true rfl, Nat.le_of_ble_eq_true rfl⟩ (MA.ok ((if_neg (by rw [iR_lt (j := i1) (n := N 12 + 1) (by omega) (by omega), iR_lt (j := i2) (n := N 1) (by omega) (by omega)]; decide)).trans (if_pos (by rw [nI_ti (by omega)]; omega))) (by rw [ix_nI (by omega), ix_nI (by omega), ix_nI (by omega)]; unfold vRanked; first | (rw [if_pos (show i3 = 0 by omega)]; exact congrArg nI (hg i2 hi2).1) | (rw [if_neg (show ¬ i3 = 0 by omega), if_pos (show i3 = 1 by omega)]; exact congrArg nI (hg i2 hi2).2) | (rw [if_neg (show ¬ i3 = 0 by omega), if_neg (show ¬ i3 = 1 by omega)]; exact congrArg nI (plM_congr (hg i2 hi2) hg))) rfl (fun k h1 h2 => by simp [va_up, h1, h2]) (sc2_SF _ _ _) rfl)
          · skip
            exact absurd c10 (by first | decide | omega)
      · skip
        exact absurd c7 (by first | decide | omega)
set_option maxHeartbeats 4000000 in
set_option maxRecDepth 100000 in
theorem c_X7_skinOf (l : Launch) (G : mG) (x : Nat) (ar N : Nat → Nat) (F : Nat → Nat → Nat) (B : Nat → Int32) (k0 : Int32) (w0 : Int32) (hI : Iv N F) : MMet l yX7_skinOf cX7_skinOf 3 (some FieldType.int) ({ frames := 2, cells := 0, slots := 0, locals := 43 } : Room) G x ar [.ref x, .int (k0), .int (w0)] N F B (fun r N' F' B' => MA r N' F' B' (kSkinOf N k0 w0) (vSkinOf N F (ix k0) (ix w0)) (N) (F) (B) N F B) := by
  refine MMet.of (by decide) (Nat.le_of_ble_eq_true rfl) ?_
  intro p e s m args below meth c A ls X hr hlocks h hl
  have hl : lv_has ls 3 [(0, .ref x), (1, .int (k0)), (2, .int (w0))] := hl
  have hn := hI.n
  refine lv_aload_n X.1 X.2.1 dX7_skinOf_0 rfl (lv_at hl 0 rfl) ?_
  refine lv_aload_n X.1 X.2.1 dX7_skinOf_1 rfl (lv_at hl 0 rfl) ?_
  refine lv_iload_n X.1 X.2.1 dX7_skinOf_2 rfl (lv_at hl 1 rfl) ?_
  refine mr_callV X h ck_X7_136 ki_X7_isSkin ks_X7_isSkin dX7_skinOf_3 (As := [.int (k0)]) (c_X7_isSkin l G x ar N F B (k0) hI) rfl hl rfl (Nat.le_of_ble_eq_true rfl) ⟨Nat.le_of_ble_eq_true rfl, Nat.le_of_ble_eq_true rfl⟩ ⟨Nat.le_of_ble_eq_true rfl, Nat.le_of_ble_eq_true rfl⟩ ?_
  rintro _ _ _ _ H locs ⟨rfl, rfl, rfl, rfl⟩ h
  refine b_bool_ne (tgt := 13) X dX7_skinOf_6 (by decide) (fun c1 => ?_) (fun c1 => ?_)
  · skip
    obtain ⟨i1, hi1, rfl⟩ := iR_t c1 (by omega)
    refine lv_iload_n X.1 X.2.1 dX7_skinOf_13 rfl (lv_at hl 2 rfl) ?_
    refine lv_iconst (v := nI (0)) X.1 X.2.1 dX7_skinOf_14 (by decide) ?_
    refine lv_bipush (v := nI (6)) X.1 X.2.1 dX7_skinOf_15 (by decide) ?_
    refine mr_callS X h ck_X7_86 kst_X7_isIn dX7_skinOf_17 (As := [.int (w0), .int (nI (0)), .int (nI (6))]) (c_X7_isIn l G x ar N F B (w0) (nI (0)) (nI (6))) rfl hl rfl (Nat.le_of_ble_eq_true rfl) ⟨Nat.le_of_ble_eq_true rfl, Nat.le_of_ble_eq_true rfl⟩ ⟨Nat.le_of_ble_eq_true rfl, Nat.le_of_ble_eq_true rfl⟩ ?_
    rintro _ _ _ _ H locs ⟨rfl, rfl, rfl, rfl⟩ h
    refine lv_top (y := bI (decide (((0 : Nat) : Int) ≤ (w0).toInt ∧ (w0).toInt ≤ ((6 : Nat) : Int)))) (by rw [show (w0).toInt = (w0).toInt from rfl, show (nI (0)).toInt = ((0 : Nat) : Int) from nI_ti (by omega), show (nI (6)).toInt = ((6 : Nat) : Int) from nI_ti (by omega)]) ?_
    refine b_bool_eq (tgt := 27) X dX7_skinOf_20 (by decide) (fun c2 => ?_) (fun c2 => ?_)
    · skip
      have c2 := of_decide_eq_false c2
      refine lv_iconst (v := nI (2)) X.1 X.2.1 dX7_skinOf_27 (by decide) ?_
      refine mr_callV X h ck_X7_93 ki_X7_fails ks_X7_fails dX7_skinOf_28 (As := [.int (nI (2))]) (c_X7_fails l G x ar N F B 2 (by omega)) rfl hl rfl (Nat.le_of_ble_eq_true rfl) ⟨Nat.le_of_ble_eq_true rfl, Nat.le_of_ble_eq_true rfl⟩ ⟨Nat.le_of_ble_eq_true rfl, Nat.le_of_ble_eq_true rfl⟩ ?_
      rintro _ _ _ _ H locs ⟨rfl, rfl, rfl, rfl⟩ h
      refine b_bool_eq (tgt := 36) X dX7_skinOf_31 (by decide) (fun c3 => ?_) (fun c3 => ?_)
      · skip
        exact absurd c3 (by first | decide | omega)
      · skip
        have c3 := of_decide_eq_true c3
        refine lv_iconst (v := nI (0)) X.1 X.2.1 dX7_skinOf_34 (by decide) ?_
        exact mr_iret X hr hlocks h dX7_skinOf_35 ⟨Nat.le_of_ble_eq_true rfl, Nat.le_of_ble_eq_true rfl⟩ (MA.bad ((if_neg (by rw [iR_lt hi1 (by omega)]; decide)).trans (if_neg (by omega))) (by decide))
    · skip
      have c2 := of_decide_eq_true c2
      obtain ⟨i2, hi2l, hi2, rfl⟩ := in_t 0 (n := 6) c2 (by omega)
      refine lv_iconst (v := nI (0)) X.1 X.2.1 dX7_skinOf_23 (by decide) ?_
      refine lv_goto (tgt := 28) X.1 X.2.1 dX7_skinOf_24 (by decide) ?_
      refine mr_callV X h ck_X7_93 ki_X7_fails ks_X7_fails dX7_skinOf_28 (As := [.int (nI (0))]) (c_X7_fails l G x ar N F B 0 (by omega)) rfl hl rfl (Nat.le_of_ble_eq_true rfl) ⟨Nat.le_of_ble_eq_true rfl, Nat.le_of_ble_eq_true rfl⟩ ⟨Nat.le_of_ble_eq_true rfl, Nat.le_of_ble_eq_true rfl⟩ ?_
      rintro _ _ _ _ H locs ⟨rfl, rfl, rfl, rfl⟩ h
      refine b_bool_eq (tgt := 36) X dX7_skinOf_31 (by decide) (fun c4 => ?_) (fun c4 => ?_)
      · skip
        have c4 := of_decide_eq_false c4
        refine lv_iload_n X.1 X.2.1 dX7_skinOf_36 rfl (lv_at hl 2 rfl) ?_
        rcases (show i2 = 0 ∨ i2 = 1 ∨ i2 = 2 ∨ i2 = 3 ∨ i2 = 4 ∨ i2 = 5 ∨ 5 < i2 by omega) with rfl | rfl | rfl | rfl | rfl | rfl | hout
        · skip
          refine lv_tableIn (x := nI 0) (tgt := 76) X.1 X.2.1 dX7_skinOf_37 (by decide) (by decide) rfl (by decide) ?_
          refine lv_aload_n X.1 X.2.1 dX7_skinOf_76 rfl (lv_at hl 0 rfl) ?_
          refine mr_get X h kf_X7_46 (by decide) dX7_skinOf_77 rfl ?_
          refine lv_iload_n X.1 X.2.1 dX7_skinOf_80 rfl (lv_at hl 1 rfl) ?_
          refine mr_ald X h 17 rfl dX7_skinOf_81 (i := i1) (v := nI (F 17 (i1)) - 1) rfl (by show _ < 36; omega) rfl ?_
          have b5 := hI.k (k := i1) (by omega)
          exact mr_iret X hr hlocks h dX7_skinOf_82 ⟨Nat.le_of_ble_eq_true rfl, Nat.le_of_ble_eq_true rfl⟩ (MA.ok ((if_neg (by rw [iR_lt hi1 (by omega)]; decide)).trans (if_pos (by rw [nI_ti (by omega)]; omega))) (by rw [ix_nI (by omega), ix_nI (by omega)]; rfl) rfl (fun k h1 h2 => by simp [va_up, h1, h2]) (SF.rf _) rfl)
        · skip
          refine lv_tableIn (x := nI 1) (tgt := 83) X.1 X.2.1 dX7_skinOf_37 (by decide) (by decide) rfl (by decide) ?_
          refine lv_aload_n X.1 X.2.1 dX7_skinOf_83 rfl (lv_at hl 0 rfl) ?_
          refine mr_get X h kf_X7_43 (by decide) dX7_skinOf_84 rfl ?_
          refine lv_iload_n X.1 X.2.1 dX7_skinOf_87 rfl (lv_at hl 1 rfl) ?_
          refine mr_ald X h 16 rfl dX7_skinOf_88 (i := i1) (v := nI (F 16 (i1)) - 1) rfl (by show _ < 36; omega) rfl ?_
          have b6 := hI.k (k := i1) (by omega)
          exact mr_iret X hr hlocks h dX7_skinOf_89 ⟨Nat.le_of_ble_eq_true rfl, Nat.le_of_ble_eq_true rfl⟩ (MA.ok ((if_neg (by rw [iR_lt hi1 (by omega)]; decide)).trans (if_pos (by rw [nI_ti (by omega)]; omega))) (by rw [ix_nI (by omega), ix_nI (by omega)]; rfl) rfl (fun k h1 h2 => by simp [va_up, h1, h2]) (SF.rf _) rfl)
        · skip
          refine lv_tableIn (x := nI 2) (tgt := 90) X.1 X.2.1 dX7_skinOf_37 (by decide) (by decide) rfl (by decide) ?_
          refine lv_aload_n X.1 X.2.1 dX7_skinOf_90 rfl (lv_at hl 0 rfl) ?_
          refine lv_iload_n X.1 X.2.1 dX7_skinOf_91 rfl (lv_at hl 1 rfl) ?_
          refine mr_callV X h ck_X7_150 ki_X7_user ks_X7_user dX7_skinOf_92 (As := [.int (nI (i1))]) (c_X7_user l G x ar (va_up N 29 (0)) F B i1 hI (show i1 < N 13 by omega)) rfl hl rfl (Nat.le_of_ble_eq_true rfl) ⟨Nat.le_of_ble_eq_true rfl, Nat.le_of_ble_eq_true rfl⟩ ⟨Nat.le_of_ble_eq_true rfl, Nat.le_of_ble_eq_true rfl⟩ ?_
          rintro _ _ _ _ H locs ⟨rfl, rfl, rfl, rfl⟩ h
          exact mr_iret X hr hlocks h dX7_skinOf_95 ⟨Nat.le_of_ble_eq_true rfl, Nat.le_of_ble_eq_true rfl⟩ (MA.ok ((if_neg (by rw [iR_lt hi1 (by omega)]; decide)).trans (if_pos (by rw [nI_ti (by omega)]; omega))) (by rw [ix_nI (by omega), ix_nI (by omega)]; rfl) rfl (fun k h1 h2 => by simp [va_up, h1, h2]) (SF.rf _) rfl)
        · skip
          refine lv_tableIn (x := nI 3) (tgt := 96) X.1 X.2.1 dX7_skinOf_37 (by decide) (by decide) rfl (by decide) ?_
          refine lv_aload_n X.1 X.2.1 dX7_skinOf_96 rfl (lv_at hl 0 rfl) ?_
          refine mr_get X h kf_X7_37 (by decide) dX7_skinOf_97 rfl ?_
          refine lv_iload_n X.1 X.2.1 dX7_skinOf_100 rfl (lv_at hl 1 rfl) ?_
          refine mr_ald X h 14 rfl dX7_skinOf_101 (i := i1) (v := nI (F 14 (i1))) rfl (by show _ < 36; omega) rfl ?_
          have b7 := hI.k (k := i1) (by omega)
          exact mr_iret X hr hlocks h dX7_skinOf_102 ⟨Nat.le_of_ble_eq_true rfl, Nat.le_of_ble_eq_true rfl⟩ (MA.ok ((if_neg (by rw [iR_lt hi1 (by omega)]; decide)).trans (if_pos (by rw [nI_ti (by omega)]; omega))) (by rw [ix_nI (by omega), ix_nI (by omega)]; rfl) rfl (fun k h1 h2 => by simp [va_up, h1, h2]) (SF.rf _) rfl)
        · skip
          refine lv_tableIn (x := nI 4) (tgt := 103) X.1 X.2.1 dX7_skinOf_37 (by decide) (by decide) rfl (by decide) ?_
          refine lv_aload_n X.1 X.2.1 dX7_skinOf_103 rfl (lv_at hl 0 rfl) ?_
          refine mr_get X h kf_X7_40 (by decide) dX7_skinOf_104 rfl ?_
          refine lv_iload_n X.1 X.2.1 dX7_skinOf_107 rfl (lv_at hl 1 rfl) ?_
          refine mr_ald X h 15 rfl dX7_skinOf_108 (i := i1) (v := nI (F 15 (i1))) rfl (by show _ < 36; omega) rfl ?_
          have b8 := hI.k (k := i1) (by omega)
          exact mr_iret X hr hlocks h dX7_skinOf_109 ⟨Nat.le_of_ble_eq_true rfl, Nat.le_of_ble_eq_true rfl⟩ (MA.ok ((if_neg (by rw [iR_lt hi1 (by omega)]; decide)).trans (if_pos (by rw [nI_ti (by omega)]; omega))) (by rw [ix_nI (by omega), ix_nI (by omega)]; rfl) rfl (fun k h1 h2 => by simp [va_up, h1, h2]) (SF.rf _) rfl)
        · skip
          refine lv_tableIn (x := nI 5) (tgt := 110) X.1 X.2.1 dX7_skinOf_37 (by decide) (by decide) rfl (by decide) ?_
          refine lv_aload_n X.1 X.2.1 dX7_skinOf_110 rfl (lv_at hl 0 rfl) ?_
          refine mr_get X h kf_X7_58 (by decide) dX7_skinOf_111 rfl ?_
          refine lv_iload_n X.1 X.2.1 dX7_skinOf_114 rfl (lv_at hl 1 rfl) ?_
          refine mr_ald X h 21 rfl dX7_skinOf_115 (i := i1) (v := nI (F 21 (i1))) rfl (by show _ < 36; omega) rfl ?_
          have b9 := hI.k (k := i1) (by omega)
          exact mr_iret X hr hlocks h dX7_skinOf_116 ⟨Nat.le_of_ble_eq_true rfl, Nat.le_of_ble_eq_true rfl⟩ (MA.ok ((if_neg (by rw [iR_lt hi1 (by omega)]; decide)).trans (if_pos (by rw [nI_ti (by omega)]; omega))) (by rw [ix_nI (by omega), ix_nI (by omega)]; rfl) rfl (fun k h1 h2 => by simp [va_up, h1, h2]) (SF.rf _) rfl)
        · skip
          refine lv_tableOut (tgt := 117) X.1 X.2.1 dX7_skinOf_37 (Or.inr (by rw [nI_ti (by omega)]; omega)) (by decide) ?_
          refine lv_aload_n X.1 X.2.1 dX7_skinOf_117 rfl (lv_at hl 0 rfl) ?_
          refine mr_get X h kf_X7_55 (by decide) dX7_skinOf_118 rfl ?_
          refine lv_iload_n X.1 X.2.1 dX7_skinOf_121 rfl (lv_at hl 1 rfl) ?_
          refine mr_ald X h 20 rfl dX7_skinOf_122 (i := i1) (v := nI (F 20 (i1)) - 1) rfl (by show _ < 36; omega) rfl ?_
          have b10 := hI.k (k := i1) (by omega)
          refine lv_iconst (v := nI (0) - 1) X.1 X.2.1 dX7_skinOf_123 (by decide) ?_
          refine b_icmp_ne (tgt := 131) X dX7_skinOf_124 (by decide) (a := ((F 20 (i1) : Nat) : Int) - 1) (b := ((0 : Nat) : Int) - 1) (eI_ti (by omega)) (eI_ti (by omega)) (fun c11 => ?_) (fun c11 => ?_)
          · skip
            refine lv_iconst (v := nI (1)) X.1 X.2.1 dX7_skinOf_131 (by decide) ?_
            exact mr_iret X hr hlocks h dX7_skinOf_132 ⟨Nat.le_of_ble_eq_true rfl, Nat.le_of_ble_eq_true rfl⟩ (MA.ok ((if_neg (by rw [iR_lt hi1 (by omega)]; decide)).trans (if_pos (by rw [nI_ti (by omega)]; omega))) (by rw [ix_nI (by omega), ix_nI (by omega)]; unfold vSkinOf; rw [if_neg (by omega), if_neg (by omega), if_neg (by omega), if_neg (by omega), if_neg (by omega), if_neg (by omega)]; first | (rw [if_pos (by omega)]; rfl) | (rw [if_neg (by omega)]; rfl)) rfl (fun k h1 h2 => by simp [va_up, h1, h2]) (SF.rf _) rfl)
          · skip
            refine lv_iconst (v := nI (0)) X.1 X.2.1 dX7_skinOf_127 (by decide) ?_
            refine lv_goto (tgt := 132) X.1 X.2.1 dX7_skinOf_128 (by decide) ?_
            exact mr_iret X hr hlocks h dX7_skinOf_132 ⟨Nat.le_of_ble_eq_true rfl, Nat.le_of_ble_eq_true rfl⟩ (MA.ok ((if_neg (by rw [iR_lt hi1 (by omega)]; decide)).trans (if_pos (by rw [nI_ti (by omega)]; omega))) (by rw [ix_nI (by omega), ix_nI (by omega)]; unfold vSkinOf; rw [if_neg (by omega), if_neg (by omega), if_neg (by omega), if_neg (by omega), if_neg (by omega), if_neg (by omega)]; first | (rw [if_pos (by omega)]; rfl) | (rw [if_neg (by omega)]; rfl)) rfl (fun k h1 h2 => by simp [va_up, h1, h2]) (SF.rf _) rfl)
      · skip
        exact absurd c4 (by first | decide | omega)
  · skip
    refine lv_iconst (v := nI (1)) X.1 X.2.1 dX7_skinOf_9 (by decide) ?_
    refine lv_goto (tgt := 28) X.1 X.2.1 dX7_skinOf_10 (by decide) ?_
    refine mr_callV X h ck_X7_93 ki_X7_fails ks_X7_fails dX7_skinOf_28 (As := [.int (nI (1))]) (c_X7_fails l G x ar N F B 1 (by omega)) rfl hl rfl (Nat.le_of_ble_eq_true rfl) ⟨Nat.le_of_ble_eq_true rfl, Nat.le_of_ble_eq_true rfl⟩ ⟨Nat.le_of_ble_eq_true rfl, Nat.le_of_ble_eq_true rfl⟩ ?_
    rintro _ _ _ _ H locs ⟨rfl, rfl, rfl, rfl⟩ h
    refine b_bool_eq (tgt := 36) X dX7_skinOf_31 (by decide) (fun c12 => ?_) (fun c12 => ?_)
    · skip
      exact absurd c12 (by first | decide | omega)
    · skip
      have c12 := of_decide_eq_true c12
      refine lv_iconst (v := nI (0)) X.1 X.2.1 dX7_skinOf_34 (by decide) ?_
      exact mr_iret X hr hlocks h dX7_skinOf_35 ⟨Nat.le_of_ble_eq_true rfl, Nat.le_of_ble_eq_true rfl⟩ (MA.bad (if_pos c1) (by decide))
set_option maxHeartbeats 4000000 in
set_option maxRecDepth 100000 in
theorem c_X7_puts (l : Launch) (G : mG) (x : Nat) (ar N : Nat → Nat) (F : Nat → Nat → Nat) (B : Nat → Int32) (c0 : Nat) (L : List Nat) (hT : TX N F L) (hL : L.length < 15) : MMet l yX7_puts cX7_puts 2 none ({ frames := 0, cells := 0, slots := 0, locals := 0 } : Room) G x ar [.ref x, .int (nI (c0))] N F B (fun r N' F' B' => r = none ∧ B = B' ∧ TXp N F N' F' (L ++ [c0])) := by
  refine MMet.of (by decide) (Nat.le_of_ble_eq_true rfl) ?_
  intro p e s m args below meth c A ls X hr hlocks h hl
  have hl : lv_has ls 2 [(0, .ref x), (1, .int (nI (c0)))] := hl
  have hT1 := hT.1
  refine lv_aload_n X.1 X.2.1 dX7_puts_0 rfl (lv_at hl 0 rfl) ?_
  refine mr_get X h kf_X7_76 (by decide) dX7_puts_1 rfl ?_
  refine lv_aload_n X.1 X.2.1 dX7_puts_4 rfl (lv_at hl 0 rfl) ?_
  refine mr_get X h kf_X7_153 (by decide) dX7_puts_5 (v := .int (nI (N 28))) rfl ?_
  refine lv_iload_n X.1 X.2.1 dX7_puts_8 rfl (lv_at hl 1 rfl) ?_
  refine mr_ast X h 27 rfl (by decide) dX7_puts_9 (i := N 28) (v := c0) rfl (by show _ < 16; omega) rfl (fun H locs h => ?_)
  refine lv_aload_n X.1 X.2.1 dX7_puts_10 rfl (lv_at hl 0 rfl) ?_
  refine lv_dup X.1 X.2.1 dX7_puts_11 rfl ?_
  refine mr_get X h kf_X7_153 (by decide) dX7_puts_12 (v := .int (nI (N 28))) rfl ?_
  refine lv_iconst (v := nI (1)) X.1 X.2.1 dX7_puts_15 (by decide) ?_
  refine lv_iadd X.1 X.2.1 dX7_puts_16 ?_
  refine lv_top (y := nI (N 28 + 1)) (nI_add _ _) ?_
  refine mr_put X h kf_X7_153 (by decide) rfl rfl dX7_puts_17 rfl (fun H locs h => ?_)
  exact mr_vret X hr hlocks h dX7_puts_20 ⟨Nat.le_of_ble_eq_true rfl, Nat.le_of_ble_eq_true rfl⟩ (⟨rfl, rfl, TXp.put hT c0⟩)
set_option maxHeartbeats 4000000 in
set_option maxRecDepth 100000 in
theorem c_X7_putsNumber (l : Launch) (G : mG) (x : Nat) (ar N : Nat → Nat) (F : Nat → Nat → Nat) (B : Nat → Int32) (v0 : Nat) (L : List Nat) (hT : TX N F L) (hL : L.length < 14) (hv : v0 ≤ 99) : MMet l yX7_putsNumber cX7_putsNumber 2 none ({ frames := 1, cells := 0, slots := 0, locals := 21 } : Room) G x ar [.ref x, .int (nI (v0))] N F B (fun r N' F' B' => r = none ∧ B = B' ∧ TXp N F N' F' (L ++ dgs v0)) := by
  refine MMet.of (by decide) (Nat.le_of_ble_eq_true rfl) ?_
  intro p e s m args below meth c A ls X hr hlocks h hl
  have hl : lv_has ls 2 [(0, .ref x), (1, .int (nI (v0)))] := hl
  refine lv_iload_n X.1 X.2.1 dX7_putsNumber_0 rfl (lv_at hl 1 rfl) ?_
  refine lv_bipush (v := nI (9)) X.1 X.2.1 dX7_putsNumber_1 (by decide) ?_
  refine b_icmp_le (tgt := 17) X dX7_putsNumber_3 (by decide) (a := ((v0 : Nat) : Int)) (b := ((9 : Nat) : Int)) (nI_ti (by omega)) (nI_ti (by omega)) (fun c1 => ?_) (fun c1 => ?_)
  · skip
    refine lv_aload_n X.1 X.2.1 dX7_putsNumber_17 rfl (lv_at hl 0 rfl) ?_
    refine lv_bipush (v := nI (48)) X.1 X.2.1 dX7_putsNumber_18 (by decide) ?_
    refine lv_iload_n X.1 X.2.1 dX7_putsNumber_20 rfl (lv_at hl 1 rfl) ?_
    refine lv_bipush (v := nI (10)) X.1 X.2.1 dX7_putsNumber_21 (by decide) ?_
    refine lv_irem X.1 X.2.1 dX7_putsNumber_23 (by decide) ?_
    refine lv_top (y := nI (v0 % 10)) (pk_rem (by omega) (by omega) (by omega)) ?_
    refine lv_iadd X.1 X.2.1 dX7_putsNumber_24 ?_
    refine lv_top (y := nI (48 + (v0 % 10))) (nI_add _ _) ?_
    refine mr_callV X h ck_X7_156 ki_X7_puts ks_X7_puts dX7_putsNumber_25 (As := [.int (nI (48 + (v0 % 10)))]) (c_X7_puts l G x ar N F B (48 + (v0 % 10)) (L) hT (by (try simp only [List.length_append, List.length_singleton]); omega)) rfl hl rfl (Nat.le_of_ble_eq_true rfl) ⟨Nat.le_of_ble_eq_true rfl, Nat.le_of_ble_eq_true rfl⟩ ⟨Nat.le_of_ble_eq_true rfl, Nat.le_of_ble_eq_true rfl⟩ ?_
    rintro _ N1 F1 _ H locs ⟨rfl, rfl, hT1⟩ h
    have hC1 := hT1
    have hS1 := hC1.2.2.1
    exact mr_vret X hr hlocks h dX7_putsNumber_28 ⟨Nat.le_of_ble_eq_true rfl, Nat.le_of_ble_eq_true rfl⟩ (⟨rfl, rfl, by rw [show dgs v0 = [48 + v0 % 10] from if_neg (by omega)]; exact hC1⟩)
  · skip
    refine lv_aload_n X.1 X.2.1 dX7_putsNumber_6 rfl (lv_at hl 0 rfl) ?_
    refine lv_bipush (v := nI (48)) X.1 X.2.1 dX7_putsNumber_7 (by decide) ?_
    refine lv_iload_n X.1 X.2.1 dX7_putsNumber_9 rfl (lv_at hl 1 rfl) ?_
    refine lv_bipush (v := nI (10)) X.1 X.2.1 dX7_putsNumber_10 (by decide) ?_
    refine lv_idiv X.1 X.2.1 dX7_putsNumber_12 (by decide) ?_
    refine lv_top (y := nI (v0 / 10)) (pk_div (by omega) (by omega) (by omega)) ?_
    refine lv_iadd X.1 X.2.1 dX7_putsNumber_13 ?_
    refine lv_top (y := nI (48 + (v0 / 10))) (nI_add _ _) ?_
    refine mr_callV X h ck_X7_156 ki_X7_puts ks_X7_puts dX7_putsNumber_14 (As := [.int (nI (48 + (v0 / 10)))]) (c_X7_puts l G x ar N F B (48 + (v0 / 10)) (L) hT (by (try simp only [List.length_append, List.length_singleton]); omega)) rfl hl rfl (Nat.le_of_ble_eq_true rfl) ⟨Nat.le_of_ble_eq_true rfl, Nat.le_of_ble_eq_true rfl⟩ ⟨Nat.le_of_ble_eq_true rfl, Nat.le_of_ble_eq_true rfl⟩ ?_
    rintro _ N2 F2 _ H locs ⟨rfl, rfl, hT2⟩ h
    have hC2 := hT2
    have hS2 := hC2.2.2.1
    refine lv_aload_n X.1 X.2.1 dX7_putsNumber_17 rfl (lv_at hl 0 rfl) ?_
    refine lv_bipush (v := nI (48)) X.1 X.2.1 dX7_putsNumber_18 (by decide) ?_
    refine lv_iload_n X.1 X.2.1 dX7_putsNumber_20 rfl (lv_at hl 1 rfl) ?_
    refine lv_bipush (v := nI (10)) X.1 X.2.1 dX7_putsNumber_21 (by decide) ?_
    refine lv_irem X.1 X.2.1 dX7_putsNumber_23 (by decide) ?_
    refine lv_top (y := nI (v0 % 10)) (pk_rem (by omega) (by omega) (by omega)) ?_
    refine lv_iadd X.1 X.2.1 dX7_putsNumber_24 ?_
    refine lv_top (y := nI (48 + (v0 % 10))) (nI_add _ _) ?_
    refine mr_callV X h ck_X7_156 ki_X7_puts ks_X7_puts dX7_putsNumber_25 (As := [.int (nI (48 + (v0 % 10)))]) (c_X7_puts l G x ar N2 F2 B (48 + (v0 % 10)) (L ++ [48 + (v0 / 10)]) hT2.2.2.2 (by (try simp only [List.length_append, List.length_singleton]); omega)) rfl hl rfl (Nat.le_of_ble_eq_true rfl) ⟨Nat.le_of_ble_eq_true rfl, Nat.le_of_ble_eq_true rfl⟩ ⟨Nat.le_of_ble_eq_true rfl, Nat.le_of_ble_eq_true rfl⟩ ?_
    rintro _ N3 F3 _ H locs ⟨rfl, rfl, hT3⟩ h
    have hC3 := TXp.trans hC2 hT3
    have hS3 := hC3.2.2.1
    exact mr_vret X hr hlocks h dX7_putsNumber_28 ⟨Nat.le_of_ble_eq_true rfl, Nat.le_of_ble_eq_true rfl⟩ (⟨rfl, rfl, by rw [show dgs v0 = [48 + v0 / 10] ++ [48 + v0 % 10] from if_pos (by omega), ← List.append_assoc]; exact hC3⟩)
set_option maxHeartbeats 4000000 in
set_option maxRecDepth 100000 in
theorem c_X7_label (l : Launch) (G : mG) (x : Nat) (ar N : Nat → Nat) (F : Nat → Nat → Nat) (B : Nat → Int32) (k0 : Int32) (p0 : Int32) (hI : Iv N F) : MMet l yX7_label cX7_label 3 (some FieldType.char) ({ frames := 2, cells := 0, slots := 0, locals := 43 } : Room) G x ar [.ref x, .int (k0), .int (p0)] N F B (fun r N' F' B' => MA r N' F' B' (kLabel N k0 p0) (vLabel F (ix k0) (ix p0)) (N) (F) (B) N F B) := by
  refine MMet.of (by decide) (Nat.le_of_ble_eq_true rfl) ?_
  intro p e s m args below meth c A ls X hr hlocks h hl
  have hl : lv_has ls 3 [(0, .ref x), (1, .int (k0)), (2, .int (p0))] := hl
  have hn := hI.n
  refine lv_aload_n X.1 X.2.1 dX7_label_0 rfl (lv_at hl 0 rfl) ?_
  refine lv_aload_n X.1 X.2.1 dX7_label_1 rfl (lv_at hl 0 rfl) ?_
  refine lv_iload_n X.1 X.2.1 dX7_label_2 rfl (lv_at hl 1 rfl) ?_
  refine mr_callV X h ck_X7_136 ki_X7_isSkin ks_X7_isSkin dX7_label_3 (As := [.int (k0)]) (c_X7_isSkin l G x ar N F B (k0) hI) rfl hl rfl (Nat.le_of_ble_eq_true rfl) ⟨Nat.le_of_ble_eq_true rfl, Nat.le_of_ble_eq_true rfl⟩ ⟨Nat.le_of_ble_eq_true rfl, Nat.le_of_ble_eq_true rfl⟩ ?_
  rintro _ _ _ _ H locs ⟨rfl, rfl, rfl, rfl⟩ h
  refine b_bool_eq (tgt := 17) X dX7_label_6 (by decide) (fun c1 => ?_) (fun c1 => ?_)
  · skip
    refine lv_iconst (v := nI (1)) X.1 X.2.1 dX7_label_17 (by decide) ?_
    refine mr_callV X h ck_X7_93 ki_X7_fails ks_X7_fails dX7_label_18 (As := [.int (nI (1))]) (c_X7_fails l G x ar N F B 1 (by omega)) rfl hl rfl (Nat.le_of_ble_eq_true rfl) ⟨Nat.le_of_ble_eq_true rfl, Nat.le_of_ble_eq_true rfl⟩ ⟨Nat.le_of_ble_eq_true rfl, Nat.le_of_ble_eq_true rfl⟩ ?_
    rintro _ _ _ _ H locs ⟨rfl, rfl, rfl, rfl⟩ h
    refine b_bool_eq (tgt := 26) X dX7_label_21 (by decide) (fun c2 => ?_) (fun c2 => ?_)
    · skip
      exact absurd c2 (by first | decide | omega)
    · skip
      have c2 := of_decide_eq_true c2
      refine lv_iconst (v := nI (0)) X.1 X.2.1 dX7_label_24 (by decide) ?_
      exact mr_zret X hr hlocks h dX7_label_25 ⟨Nat.le_of_ble_eq_true rfl, Nat.le_of_ble_eq_true rfl⟩ ((pk_charN (by omega)).1) (MA.bad (if_neg (fun z => by rw [c1] at z; exact absurd z.1 (by decide))) (by decide))
  · skip
    obtain ⟨i1, hi1, rfl⟩ := iR_t c1 (by omega)
    refine lv_iload_n X.1 X.2.1 dX7_label_9 rfl (lv_at hl 2 rfl) ?_
    refine b_if_lt (tgt := 17) X dX7_label_10 (by decide) (a := (p0).toInt) (rfl) (fun c3 => ?_) (fun c3 => ?_)
    · skip
      refine lv_iconst (v := nI (1)) X.1 X.2.1 dX7_label_17 (by decide) ?_
      refine mr_callV X h ck_X7_93 ki_X7_fails ks_X7_fails dX7_label_18 (As := [.int (nI (1))]) (c_X7_fails l G x ar N F B 1 (by omega)) rfl hl rfl (Nat.le_of_ble_eq_true rfl) ⟨Nat.le_of_ble_eq_true rfl, Nat.le_of_ble_eq_true rfl⟩ ⟨Nat.le_of_ble_eq_true rfl, Nat.le_of_ble_eq_true rfl⟩ ?_
      rintro _ _ _ _ H locs ⟨rfl, rfl, rfl, rfl⟩ h
      refine b_bool_eq (tgt := 26) X dX7_label_21 (by decide) (fun c4 => ?_) (fun c4 => ?_)
      · skip
        exact absurd c4 (by first | decide | omega)
      · skip
        have c4 := of_decide_eq_true c4
        refine lv_iconst (v := nI (0)) X.1 X.2.1 dX7_label_24 (by decide) ?_
        exact mr_zret X hr hlocks h dX7_label_25 ⟨Nat.le_of_ble_eq_true rfl, Nat.le_of_ble_eq_true rfl⟩ ((pk_charN (by omega)).1) (MA.bad (if_neg (fun z => by have := z.2; omega)) (by decide))
    · skip
      obtain ⟨i2, hi2, rfl⟩ : ∃ j : Nat, j < 2 ^ 31 ∧ p0 = nI j := nI_of (fun q => by have := Int32.lt_iff_toInt_lt.mp q; rw [Int32.toInt_zero] at this; omega)
      refine lv_iconst (v := nI (0)) X.1 X.2.1 dX7_label_13 (by decide) ?_
      refine lv_goto (tgt := 18) X.1 X.2.1 dX7_label_14 (by decide) ?_
      refine mr_callV X h ck_X7_93 ki_X7_fails ks_X7_fails dX7_label_18 (As := [.int (nI (0))]) (c_X7_fails l G x ar N F B 0 (by omega)) rfl hl rfl (Nat.le_of_ble_eq_true rfl) ⟨Nat.le_of_ble_eq_true rfl, Nat.le_of_ble_eq_true rfl⟩ ⟨Nat.le_of_ble_eq_true rfl, Nat.le_of_ble_eq_true rfl⟩ ?_
      rintro _ _ _ _ H locs ⟨rfl, rfl, rfl, rfl⟩ h
      refine b_bool_eq (tgt := 26) X dX7_label_21 (by decide) (fun c5 => ?_) (fun c5 => ?_)
      · skip
        have c5 := of_decide_eq_false c5
        refine lv_aload_n X.1 X.2.1 dX7_label_26 rfl (lv_at hl 0 rfl) ?_
        refine lv_iconst (v := nI (0)) X.1 X.2.1 dX7_label_27 (by decide) ?_
        refine mr_put X h kf_X7_153 (by decide) rfl rfl dX7_label_28 rfl (fun H locs h => ?_)
        refine lv_aload_n X.1 X.2.1 dX7_label_31 rfl (lv_at hl 0 rfl) ?_
        refine lv_iload_n X.1 X.2.1 dX7_label_32 rfl (lv_at hl 1 rfl) ?_
        have hT0 : TX (va_up (va_up N 29 (0)) 28 (0)) F [] := ⟨rfl, fun j hj => absurd hj (by simp)⟩
        have g6 := dgs_len i1
        have g7 := dgs_len (F 14 i1)
        have g8 := dgs_len (F 15 i1)
        have g9 := dgs_len (F 17 i1 - 1)
        refine mr_callV X h ck_X7_159 ki_X7_putsNumber ks_X7_putsNumber dX7_label_33 (As := [.int (nI (i1))]) (c_X7_putsNumber l G x ar (va_up (va_up N 29 (0)) 28 (0)) F B i1 ([]) hT0 (by simp only [List.length_append, List.length_singleton, List.length_nil]; omega) (by omega)) rfl hl rfl (Nat.le_of_ble_eq_true rfl) ⟨Nat.le_of_ble_eq_true rfl, Nat.le_of_ble_eq_true rfl⟩ ⟨Nat.le_of_ble_eq_true rfl, Nat.le_of_ble_eq_true rfl⟩ ?_
        rintro _ N4 F4 _ H locs ⟨rfl, rfl, hT4⟩ h
        have hC4 := hT4
        have hS4 := hC4.2.2.1
        refine lv_aload_n X.1 X.2.1 dX7_label_36 rfl (lv_at hl 0 rfl) ?_
        refine lv_bipush (v := nI (58)) X.1 X.2.1 dX7_label_37 (by decide) ?_
        refine mr_callV X h ck_X7_156 ki_X7_puts ks_X7_puts dX7_label_39 (As := [.int (nI (58))]) (c_X7_puts l G x ar N4 F4 B 58 ([] ++ dgs i1) hT4.2.2.2 (by simp only [List.length_append, List.length_singleton, List.length_nil]; omega)) rfl hl rfl (Nat.le_of_ble_eq_true rfl) ⟨Nat.le_of_ble_eq_true rfl, Nat.le_of_ble_eq_true rfl⟩ ⟨Nat.le_of_ble_eq_true rfl, Nat.le_of_ble_eq_true rfl⟩ ?_
        rintro _ N5 F5 _ H locs ⟨rfl, rfl, hT5⟩ h
        have hC5 := TXp.trans hC4 hT5
        have hS5 := hC5.2.2.1
        refine lv_aload_n X.1 X.2.1 dX7_label_42 rfl (lv_at hl 0 rfl) ?_
        refine lv_aload_n X.1 X.2.1 dX7_label_43 rfl (lv_at hl 0 rfl) ?_
        refine mr_get X h kf_X7_37 (by decide) dX7_label_44 rfl ?_
        refine lv_iload_n X.1 X.2.1 dX7_label_47 rfl (lv_at hl 1 rfl) ?_
        refine mr_ald X h 14 rfl dX7_label_48 (i := i1) (v := nI (F 14 (i1))) rfl (by show _ < 36; omega) (by simp [rowM, shN, hS5.at 14 _ (by decide)]) ?_
        have b10 := hI.k (k := i1) (by omega)
        refine mr_callV X h ck_X7_159 ki_X7_putsNumber ks_X7_putsNumber dX7_label_49 (As := [.int (nI (F 14 (i1)))]) (c_X7_putsNumber l G x ar N5 F5 B (F 14 (i1)) (([] ++ dgs i1) ++ [58]) hT5.2.2.2 (by simp only [List.length_append, List.length_singleton, List.length_nil]; omega) (by omega)) rfl hl rfl (Nat.le_of_ble_eq_true rfl) ⟨Nat.le_of_ble_eq_true rfl, Nat.le_of_ble_eq_true rfl⟩ ⟨Nat.le_of_ble_eq_true rfl, Nat.le_of_ble_eq_true rfl⟩ ?_
        rintro _ N6 F6 _ H locs ⟨rfl, rfl, hT6⟩ h
        have hC6 := TXp.trans hC5 hT6
        have hS6 := hC6.2.2.1
        refine lv_aload_n X.1 X.2.1 dX7_label_52 rfl (lv_at hl 0 rfl) ?_
        refine lv_bipush (v := nI (47)) X.1 X.2.1 dX7_label_53 (by decide) ?_
        refine mr_callV X h ck_X7_156 ki_X7_puts ks_X7_puts dX7_label_55 (As := [.int (nI (47))]) (c_X7_puts l G x ar N6 F6 B 47 ((([] ++ dgs i1) ++ [58]) ++ dgs (F 14 (i1))) hT6.2.2.2 (by simp only [List.length_append, List.length_singleton, List.length_nil]; omega)) rfl hl rfl (Nat.le_of_ble_eq_true rfl) ⟨Nat.le_of_ble_eq_true rfl, Nat.le_of_ble_eq_true rfl⟩ ⟨Nat.le_of_ble_eq_true rfl, Nat.le_of_ble_eq_true rfl⟩ ?_
        rintro _ N7 F7 _ H locs ⟨rfl, rfl, hT7⟩ h
        have hC7 := TXp.trans hC6 hT7
        have hS7 := hC7.2.2.1
        refine lv_aload_n X.1 X.2.1 dX7_label_58 rfl (lv_at hl 0 rfl) ?_
        refine lv_aload_n X.1 X.2.1 dX7_label_59 rfl (lv_at hl 0 rfl) ?_
        refine mr_get X h kf_X7_40 (by decide) dX7_label_60 rfl ?_
        refine lv_iload_n X.1 X.2.1 dX7_label_63 rfl (lv_at hl 1 rfl) ?_
        refine mr_ald X h 15 rfl dX7_label_64 (i := i1) (v := nI (F 15 (i1))) rfl (by show _ < 36; omega) (by simp [rowM, shN, hS7.at 15 _ (by decide)]) ?_
        have b11 := hI.k (k := i1) (by omega)
        refine mr_callV X h ck_X7_159 ki_X7_putsNumber ks_X7_putsNumber dX7_label_65 (As := [.int (nI (F 15 (i1)))]) (c_X7_putsNumber l G x ar N7 F7 B (F 15 (i1)) (((([] ++ dgs i1) ++ [58]) ++ dgs (F 14 (i1))) ++ [47]) hT7.2.2.2 (by simp only [List.length_append, List.length_singleton, List.length_nil]; omega) (by omega)) rfl hl rfl (Nat.le_of_ble_eq_true rfl) ⟨Nat.le_of_ble_eq_true rfl, Nat.le_of_ble_eq_true rfl⟩ ⟨Nat.le_of_ble_eq_true rfl, Nat.le_of_ble_eq_true rfl⟩ ?_
        rintro _ N8 F8 _ H locs ⟨rfl, rfl, hT8⟩ h
        have hC8 := TXp.trans hC7 hT8
        have hS8 := hC8.2.2.1
        refine lv_aload_n X.1 X.2.1 dX7_label_68 rfl (lv_at hl 0 rfl) ?_
        refine mr_get X h kf_X7_46 (by decide) dX7_label_69 rfl ?_
        refine lv_iload_n X.1 X.2.1 dX7_label_72 rfl (lv_at hl 1 rfl) ?_
        refine mr_ald X h 17 rfl dX7_label_73 (i := i1) (v := nI (F 17 (i1)) - 1) rfl (by show _ < 36; omega) (by simp [rowM, shN, hS8.at 17 _ (by decide)]) ?_
        have b12 := hI.k (k := i1) (by omega)
        refine lv_iconst (v := nI (0) - 1) X.1 X.2.1 dX7_label_74 (by decide) ?_
        refine b_icmp_eq (tgt := 94) X dX7_label_75 (by decide) (a := ((F 17 (i1) : Nat) : Int) - 1) (b := ((0 : Nat) : Int) - 1) (eI_ti (by omega)) (eI_ti (by omega)) (fun c13 => ?_) (fun c13 => ?_)
        · skip
          have hLab : labL F i1 = (((([] ++ dgs i1) ++ [58]) ++ dgs (F 14 (i1))) ++ [47]) ++ dgs (F 15 (i1)) := by unfold labL; rw [if_pos (by omega)]; simp only [List.append_assoc, List.append_nil, List.nil_append]
          have hT1 := hT8.2.2.2
          rw [← hLab] at hT1
          have hlen := labL_len F i1
          have hN28 := hT1.1
          have hlt := labL_lt (F := F) (k := i1) (by omega) (by omega) (by omega) (by omega) i2
          refine lv_iload_n X.1 X.2.1 dX7_label_94 rfl (lv_at hl 2 rfl) ?_
          refine lv_aload_n X.1 X.2.1 dX7_label_95 rfl (lv_at hl 0 rfl) ?_
          refine mr_get X h kf_X7_153 (by decide) dX7_label_96 (v := .int (nI (N8 28))) rfl ?_
          refine b_icmp_ge (tgt := 112) X dX7_label_99 (by decide) (a := ((i2 : Nat) : Int)) (b := ((N8 28 : Nat) : Int)) (nI_ti (by omega)) (nI_ti (by omega)) (fun c14 => ?_) (fun c14 => ?_)
          · skip
            refine lv_iconst (v := nI (0)) X.1 X.2.1 dX7_label_112 (by decide) ?_
            exact mr_zret X hr hlocks h dX7_label_113 ⟨Nat.le_of_ble_eq_true rfl, Nat.le_of_ble_eq_true rfl⟩ ((pk_charN (by omega)).1) (MA.ok (if_pos ⟨iR_lt hi1 (by omega), by rw [nI_ti (by omega)]; omega⟩) (by rw [ix_nI (by omega), ix_nI (by omega), vLabel, List.getD_eq_getElem?_getD, List.getElem?_eq_none (by omega)]; rfl) (hC8.2.1) (SN.trans (SN29 N 0) (SN.trans ((SN.rf (va_up N 29 0)).up (Or.inl rfl)) hC8.1)) hC8.2.2.1 rfl)
          · skip
            refine lv_aload_n X.1 X.2.1 dX7_label_102 rfl (lv_at hl 0 rfl) ?_
            refine mr_get X h kf_X7_76 (by decide) dX7_label_103 rfl ?_
            refine lv_iload_n X.1 X.2.1 dX7_label_106 rfl (lv_at hl 2 rfl) ?_
            refine mr_ald X h 27 rfl dX7_label_107 (i := i2) (v := nI (F8 27 (i2))) rfl (by show _ < 16; omega) rfl ?_
            have hch := hT1.2 i2 (by omega)
            refine lv_i2c (v := nI (F8 27 (i2))) X.1 X.2.1 dX7_label_108 (sb_byte _ (by omega)).2.1 ?_
            refine lv_goto (tgt := 113) X.1 X.2.1 dX7_label_109 (by decide) ?_
            exact mr_zret X hr hlocks h dX7_label_113 ⟨Nat.le_of_ble_eq_true rfl, Nat.le_of_ble_eq_true rfl⟩ ((pk_charN (by omega)).1) (MA.ok (if_pos ⟨iR_lt hi1 (by omega), by rw [nI_ti (by omega)]; omega⟩) (by rw [ix_nI (by omega), ix_nI (by omega), vLabel, hch]) (hC8.2.1) (SN.trans (SN29 N 0) (SN.trans ((SN.rf (va_up N 29 0)).up (Or.inl rfl)) hC8.1)) hC8.2.2.1 rfl)
        · skip
          refine lv_aload_n X.1 X.2.1 dX7_label_78 rfl (lv_at hl 0 rfl) ?_
          refine lv_bipush (v := nI (64)) X.1 X.2.1 dX7_label_79 (by decide) ?_
          refine mr_callV X h ck_X7_156 ki_X7_puts ks_X7_puts dX7_label_81 (As := [.int (nI (64))]) (c_X7_puts l G x ar N8 F8 B 64 ((((([] ++ dgs i1) ++ [58]) ++ dgs (F 14 (i1))) ++ [47]) ++ dgs (F 15 (i1))) hT8.2.2.2 (by simp only [List.length_append, List.length_singleton, List.length_nil]; omega)) rfl hl rfl (Nat.le_of_ble_eq_true rfl) ⟨Nat.le_of_ble_eq_true rfl, Nat.le_of_ble_eq_true rfl⟩ ⟨Nat.le_of_ble_eq_true rfl, Nat.le_of_ble_eq_true rfl⟩ ?_
          rintro _ N9 F9 _ H locs ⟨rfl, rfl, hT9⟩ h
          have hC9 := TXp.trans hC8 hT9
          have hS9 := hC9.2.2.1
          refine lv_aload_n X.1 X.2.1 dX7_label_84 rfl (lv_at hl 0 rfl) ?_
          refine lv_aload_n X.1 X.2.1 dX7_label_85 rfl (lv_at hl 0 rfl) ?_
          refine mr_get X h kf_X7_46 (by decide) dX7_label_86 rfl ?_
          refine lv_iload_n X.1 X.2.1 dX7_label_89 rfl (lv_at hl 1 rfl) ?_
          refine mr_ald X h 17 rfl dX7_label_90 (i := i1) (v := nI (F 17 (i1)) - 1) rfl (by show _ < 36; omega) (by simp [rowM, shN, hS9.at 17 _ (by decide)]) ?_
          have b15 := hI.k (k := i1) (by omega)
          refine lv_top (y := nI (F 17 (i1) - 1)) (eI_pos (by omega)) ?_
          refine mr_callV X h ck_X7_159 ki_X7_putsNumber ks_X7_putsNumber dX7_label_91 (As := [.int (nI (F 17 (i1) - 1))]) (c_X7_putsNumber l G x ar N9 F9 B (F 17 (i1) - 1) (((((([] ++ dgs i1) ++ [58]) ++ dgs (F 14 (i1))) ++ [47]) ++ dgs (F 15 (i1))) ++ [64]) hT9.2.2.2 (by simp only [List.length_append, List.length_singleton, List.length_nil]; omega) (by omega)) rfl hl rfl (Nat.le_of_ble_eq_true rfl) ⟨Nat.le_of_ble_eq_true rfl, Nat.le_of_ble_eq_true rfl⟩ ⟨Nat.le_of_ble_eq_true rfl, Nat.le_of_ble_eq_true rfl⟩ ?_
          rintro _ N10 F10 _ H locs ⟨rfl, rfl, hT10⟩ h
          have hC10 := TXp.trans hC9 hT10
          have hS10 := hC10.2.2.1
          have hLab : labL F i1 = (((((([] ++ dgs i1) ++ [58]) ++ dgs (F 14 (i1))) ++ [47]) ++ dgs (F 15 (i1))) ++ [64]) ++ dgs (F 17 (i1) - 1) := by unfold labL; rw [if_neg (by omega)]; simp only [List.append_assoc, List.append_nil, List.nil_append]
          have hT1 := hT10.2.2.2
          rw [← hLab] at hT1
          have hlen := labL_len F i1
          have hN28 := hT1.1
          have hlt := labL_lt (F := F) (k := i1) (by omega) (by omega) (by omega) (by omega) i2
          refine lv_iload_n X.1 X.2.1 dX7_label_94 rfl (lv_at hl 2 rfl) ?_
          refine lv_aload_n X.1 X.2.1 dX7_label_95 rfl (lv_at hl 0 rfl) ?_
          refine mr_get X h kf_X7_153 (by decide) dX7_label_96 (v := .int (nI (N10 28))) rfl ?_
          refine b_icmp_ge (tgt := 112) X dX7_label_99 (by decide) (a := ((i2 : Nat) : Int)) (b := ((N10 28 : Nat) : Int)) (nI_ti (by omega)) (nI_ti (by omega)) (fun c16 => ?_) (fun c16 => ?_)
          · skip
            refine lv_iconst (v := nI (0)) X.1 X.2.1 dX7_label_112 (by decide) ?_
            exact mr_zret X hr hlocks h dX7_label_113 ⟨Nat.le_of_ble_eq_true rfl, Nat.le_of_ble_eq_true rfl⟩ ((pk_charN (by omega)).1) (MA.ok (if_pos ⟨iR_lt hi1 (by omega), by rw [nI_ti (by omega)]; omega⟩) (by rw [ix_nI (by omega), ix_nI (by omega), vLabel, List.getD_eq_getElem?_getD, List.getElem?_eq_none (by omega)]; rfl) (hC10.2.1) (SN.trans (SN29 N 0) (SN.trans ((SN.rf (va_up N 29 0)).up (Or.inl rfl)) hC10.1)) hC10.2.2.1 rfl)
          · skip
            refine lv_aload_n X.1 X.2.1 dX7_label_102 rfl (lv_at hl 0 rfl) ?_
            refine mr_get X h kf_X7_76 (by decide) dX7_label_103 rfl ?_
            refine lv_iload_n X.1 X.2.1 dX7_label_106 rfl (lv_at hl 2 rfl) ?_
            refine mr_ald X h 27 rfl dX7_label_107 (i := i2) (v := nI (F10 27 (i2))) rfl (by show _ < 16; omega) rfl ?_
            have hch := hT1.2 i2 (by omega)
            refine lv_i2c (v := nI (F10 27 (i2))) X.1 X.2.1 dX7_label_108 (sb_byte _ (by omega)).2.1 ?_
            refine lv_goto (tgt := 113) X.1 X.2.1 dX7_label_109 (by decide) ?_
            exact mr_zret X hr hlocks h dX7_label_113 ⟨Nat.le_of_ble_eq_true rfl, Nat.le_of_ble_eq_true rfl⟩ ((pk_charN (by omega)).1) (MA.ok (if_pos ⟨iR_lt hi1 (by omega), by rw [nI_ti (by omega)]; omega⟩) (by rw [ix_nI (by omega), ix_nI (by omega), vLabel, hch]) (hC10.2.1) (SN.trans (SN29 N 0) (SN.trans ((SN.rf (va_up N 29 0)).up (Or.inl rfl)) hC10.1)) hC10.2.2.1 rfl)
      · skip
        exact absurd c5 (by first | decide | omega)
