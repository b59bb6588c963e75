set_option maxHeartbeats 4000000 in
set_option maxRecDepth 100000 in
theorem c_X7_stands (l : Launch) (G : mG) (x : Nat) (ar N : Nat → Nat) (F : Nat → Nat → Nat) (B : Nat → Int32) (m0 : Int32) (hI : Iv N F) : MMet l yX7_stands cX7_stands 2 (some FieldType.boolean) ({ frames := 1, cells := 0, slots := 0, locals := 22 } : Room) G x ar [.ref x, .int (m0)] N F B (fun r N' F' B' => MA r N' F' B' (kOne (iR m0 (N 6))) (bI (goodS F (ix m0))) (N) (F) (B) N F B) := by
  refine MMet.of (by decide) (Nat.le_of_ble_eq_true rfl) ?_
  intro p e s m args below meth c A ls X hr hlocks h hl
  have hl : lv_has ls 2 [(0, .ref x), (1, .int (m0))] := hl
  have hn := hI.n
  refine lv_aload_n X.1 X.2.1 dX7_stands_0 rfl (lv_at hl 0 rfl) ?_
  refine lv_iload_n X.1 X.2.1 dX7_stands_1 rfl (lv_at hl 1 rfl) ?_
  refine lv_iconst (v := nI (0)) X.1 X.2.1 dX7_stands_2 (by decide) ?_
  refine lv_aload_n X.1 X.2.1 dX7_stands_3 rfl (lv_at hl 0 rfl) ?_
  refine mr_get X h kf_X7_97 (by decide) dX7_stands_4 (v := .int (nI (N 6))) rfl ?_
  refine lv_iconst (v := nI (1)) X.1 X.2.1 dX7_stands_7 (by decide) ?_
  refine lv_isub X.1 X.2.1 dX7_stands_8 ?_
  refine lv_top (y := nI (N 6) - 1) rfl ?_
  refine mr_callS X h ck_X7_86 kst_X7_isIn dX7_stands_9 (As := [.int (m0), .int (nI (0)), .int (nI (N 6) - 1)]) (c_X7_isIn l G x ar N F B (m0) (nI (0)) (nI (N 6) - 1)) rfl hl rfl (Nat.le_of_ble_eq_true rfl) ⟨Nat.le_of_ble_eq_true rfl, Nat.le_of_ble_eq_true rfl⟩ ⟨Nat.le_of_ble_eq_true rfl, Nat.le_of_ble_eq_true rfl⟩ ?_
  rintro _ _ _ _ H locs ⟨rfl, rfl, rfl, rfl⟩ h
  refine lv_top (y := bI (decide (((0 : Nat) : Int) ≤ (m0).toInt ∧ (m0).toInt ≤ ((N 6 : Nat) : Int) - 1))) (by rw [show (m0).toInt = (m0).toInt from rfl, show (nI (0)).toInt = ((0 : Nat) : Int) from nI_ti (by omega), show (nI (N 6) - 1).toInt = ((N 6 : Nat) : Int) - 1 from eI_ti (by omega)]) ?_
  refine b_bool_eq (tgt := 19) X dX7_stands_12 (by decide) (fun c1 => ?_) (fun c1 => ?_)
  · skip
    have c1 := of_decide_eq_false c1
    refine lv_iconst (v := nI (1)) X.1 X.2.1 dX7_stands_19 (by decide) ?_
    refine mr_callV X h ck_X7_93 ki_X7_fails ks_X7_fails dX7_stands_20 (As := [.int (nI (1))]) (c_X7_fails l G x ar N F B 1 (by omega)) rfl hl rfl (Nat.le_of_ble_eq_true rfl) ⟨Nat.le_of_ble_eq_true rfl, Nat.le_of_ble_eq_true rfl⟩ ⟨Nat.le_of_ble_eq_true rfl, Nat.le_of_ble_eq_true rfl⟩ ?_
    rintro _ _ _ _ H locs ⟨rfl, rfl, rfl, rfl⟩ h
    refine b_bool_ne (tgt := 38) X dX7_stands_23 (by decide) (fun c2 => ?_) (fun c2 => ?_)
    · skip
      have c2 := of_decide_eq_true c2
      refine lv_iconst (v := nI (0)) X.1 X.2.1 dX7_stands_38 (by decide) ?_
      exact mr_zret X hr hlocks h dX7_stands_39 ⟨Nat.le_of_ble_eq_true rfl, Nat.le_of_ble_eq_true rfl⟩ (rfl) (MA.bad (if_neg (fun z => by rw [iR] at z; have := of_decide_eq_true z; omega)) (by decide))
    · skip
      exact absurd c2 (by first | decide | omega)
  · skip
    have c1 := of_decide_eq_true c1
    obtain ⟨j0, hj0, rfl⟩ := iR_t (p := m0) (n := N 6) (decide_eq_true (by omega)) (by omega)
    refine lv_iconst (v := nI (0)) X.1 X.2.1 dX7_stands_15 (by decide) ?_
    refine lv_goto (tgt := 20) X.1 X.2.1 dX7_stands_16 (by decide) ?_
    refine mr_callV X h ck_X7_93 ki_X7_fails ks_X7_fails dX7_stands_20 (As := [.int (nI (0))]) (c_X7_fails l G x ar N F B 0 (by omega)) rfl hl rfl (Nat.le_of_ble_eq_true rfl) ⟨Nat.le_of_ble_eq_true rfl, Nat.le_of_ble_eq_true rfl⟩ ⟨Nat.le_of_ble_eq_true rfl, Nat.le_of_ble_eq_true rfl⟩ ?_
    rintro _ _ _ _ H locs ⟨rfl, rfl, rfl, rfl⟩ h
    refine b_bool_ne (tgt := 38) X dX7_stands_23 (by decide) (fun c3 => ?_) (fun c3 => ?_)
    · skip
      exact absurd c3 (by first | decide | omega)
    · skip
      have c3 := of_decide_eq_false c3
      refine lv_aload_n X.1 X.2.1 dX7_stands_26 rfl (lv_at hl 0 rfl) ?_
      refine lv_iload_n X.1 X.2.1 dX7_stands_27 rfl (lv_at hl 1 rfl) ?_
      refine mr_callV X h ck_X7_116 ki_X7_isGood ks_X7_isGood dX7_stands_28 (As := [.int (nI (j0))]) (c_X7_isGood l G x ar (va_up N 29 (0)) F B j0 hI (show j0 < N 6 by omega)) rfl hl rfl (Nat.le_of_ble_eq_true rfl) ⟨Nat.le_of_ble_eq_true rfl, Nat.le_of_ble_eq_true rfl⟩ ⟨Nat.le_of_ble_eq_true rfl, Nat.le_of_ble_eq_true rfl⟩ ?_
      rintro _ _ _ _ H locs ⟨rfl, rfl, rfl, rfl⟩ h
      refine b_bool_eq (tgt := 38) X dX7_stands_31 (by decide) (fun c4 => ?_) (fun c4 => ?_)
      · skip
        refine lv_iconst (v := nI (0)) X.1 X.2.1 dX7_stands_38 (by decide) ?_
        exact mr_zret X hr hlocks h dX7_stands_39 ⟨Nat.le_of_ble_eq_true rfl, Nat.le_of_ble_eq_true rfl⟩ (rfl) (MA.ok (if_pos (iR_lt hj0 (by omega))) (by rw [ix_nI (by omega)]; first | exact bI_t (by assumption) | exact bI_f (by assumption)) rfl (fun k h1 h2 => by simp [va_up, h1, h2]) (SF.rf _) rfl)
      · skip
        refine lv_iconst (v := nI (1)) X.1 X.2.1 dX7_stands_34 (by decide) ?_
        refine lv_goto (tgt := 39) X.1 X.2.1 dX7_stands_35 (by decide) ?_
        exact mr_zret X hr hlocks h dX7_stands_39 ⟨Nat.le_of_ble_eq_true rfl, Nat.le_of_ble_eq_true rfl⟩ (rfl) (MA.ok (if_pos (iR_lt hj0 (by omega))) (by rw [ix_nI (by omega)]; first | exact bI_t (by assumption) | exact bI_f (by assumption)) rfl (fun k h1 h2 => by simp [va_up, h1, h2]) (SF.rf _) rfl)
set_option maxHeartbeats 4000000 in
set_option maxRecDepth 100000 in
theorem c_X7_inherits (l : Launch) (G : mG) (x : Nat) (ar N : Nat → Nat) (F : Nat → Nat → Nat) (B : Nat → Int32) (k0 : Nat) (h0 : Nat) (hI : Iv N F) (hk : k0 < N 13) (hh : h0 ≤ N 1) : MMet l yX7_inherits cX7_inherits 4 none ({ frames := 1, cells := 0, slots := 0, locals := 23 } : Room) G x ar [.ref x, .int (nI (k0)), .int (nI (h0) - 1)] N F B (fun r N' F' B' => r = none ∧ N = N' ∧ inhF F k0 h0 = F' ∧ inhB F B k0 h0 = B') := by
  refine MMet.of (by decide) (Nat.le_of_ble_eq_true rfl) ?_
  intro p e s m args below meth c A ls X hr hlocks h hl
  have hl : lv_has ls 4 [(0, .ref x), (1, .int (nI (k0))), (2, .int (nI (h0) - 1))] := hl
  have hn := hI.n
  refine lv_aload_n X.1 X.2.1 dX7_inherits_0 rfl (lv_at hl 0 rfl) ?_
  refine mr_get X h kf_X7_55 (by decide) dX7_inherits_1 rfl ?_
  refine lv_iload_n X.1 X.2.1 dX7_inherits_4 rfl (lv_at hl 1 rfl) ?_
  refine mr_ald X h 20 rfl dX7_inherits_5 (i := k0) (v := nI (F 20 (k0)) - 1) rfl (by show _ < 36; omega) rfl ?_
  have b1 := hI.k (k := k0) (by omega)
  refine lv_iconst (v := nI (0) - 1) X.1 X.2.1 dX7_inherits_6 (by decide) ?_
  refine b_icmp_eq (tgt := 40) X dX7_inherits_7 (by decide) (a := ((F 20 (k0) : Nat) : Int) - 1) (b := ((0 : Nat) : Int) - 1) (eI_ti (by omega)) (eI_ti (by omega)) (fun c2 => ?_) (fun c2 => ?_)
  · skip
    refine lv_bipush (v := nI (20)) X.1 X.2.1 dX7_inherits_40 (by decide) ?_
    refine lv_iload_n X.1 X.2.1 dX7_inherits_42 rfl (lv_at hl 1 rfl) ?_
    refine lv_imul X.1 X.2.1 dX7_inherits_43 ?_
    refine lv_top (y := nI (20 * k0)) (pk_mul _ _) ?_
    refine lv_aload_n X.1 X.2.1 dX7_inherits_44 rfl (lv_at hl 0 rfl) ?_
    refine mr_get X h kf_X7_58 (by decide) dX7_inherits_45 rfl ?_
    refine lv_iload_n X.1 X.2.1 dX7_inherits_48 rfl (lv_at hl 1 rfl) ?_
    refine mr_ald X h 21 rfl dX7_inherits_49 (i := k0) (v := nI (F 21 (k0))) rfl (by show _ < 36; omega) rfl ?_
    have b3 := hI.k (k := k0) (by omega)
    refine lv_iadd X.1 X.2.1 dX7_inherits_50 ?_
    refine lv_top (y := nI (20 * k0 + (F 21 (k0)))) (nI_add _ _) ?_
    refine lv_iconst (v := nI (1)) X.1 X.2.1 dX7_inherits_51 (by decide) ?_
    refine lv_isub X.1 X.2.1 dX7_inherits_52 ?_
    refine lv_top (y := nI (20 * k0 + (F 21 (k0))) - 1) rfl ?_
    refine lv_istore_n (lv' := [(3, .int (nI (20 * k0 + (F 21 (k0))) - 1)), (0, .ref x), (1, .int (nI (k0))), (2, .int (nI (h0) - 1))]) X.1 X.2.1 dX7_inherits_53 rfl hl (by decide) rfl (fun ls hl => ?_)
    have loop : ∀ (n9 : Nat) (t : Nat) (B1 : Nat → Int32), (t < n9) → (t ≤ F 21 k0) → (undoS F k0 B1 t = undoS F k0 B (F 21 k0)) → ∀ (H : Heap) (locs : List Loc) (ls : Array Slot), mM G A s.heap x ar N F B1 H locs → lv_has ls 4 [(0, .ref x), (1, .int (nI (k0))), (2, .int (nI (h0) - 1)), (3, .int (nI (20 * k0 + t) - 1))] → W p l e ({ frames := 1, cells := 0, slots := 0, locals := 23 } : Room) s m args below meth c H locs 0 0 (MZ G A x ar (fun r N' F' B' => r = none ∧ N = N' ∧ inhF F k0 h0 = F' ∧ inhB F B k0 h0 = B') below args s 0 0) (F0 m 54 ls []) := by
      intro n9
      induction n9 with
      | zero => intro t B1 hm9 ht hB; exact absurd hm9 (by omega)
      | succ n9 ih_loop =>
        intro t B1 hm9 ht hB H locs ls h hl
        refine lv_iload_n X.1 X.2.1 dX7_inherits_54 rfl (lv_at hl 3 rfl) ?_
        refine lv_bipush (v := nI (20)) X.1 X.2.1 dX7_inherits_55 (by decide) ?_
        refine lv_iload_n X.1 X.2.1 dX7_inherits_57 rfl (lv_at hl 1 rfl) ?_
        refine lv_imul X.1 X.2.1 dX7_inherits_58 ?_
        refine lv_top (y := nI (20 * k0)) (pk_mul _ _) ?_
        refine b_icmp_lt (tgt := 90) X dX7_inherits_59 (by decide) (a := ((20 * k0 + t : Nat) : Int) - 1) (b := ((20 * k0 : Nat) : Int)) (eI_ti (by omega)) (nI_ti (by omega)) (fun c4 => ?_) (fun c4 => ?_)
        · skip
          refine lv_aload_n X.1 X.2.1 dX7_inherits_90 rfl (lv_at hl 0 rfl) ?_
          refine mr_get X h kf_X7_58 (by decide) dX7_inherits_91 rfl ?_
          refine lv_iload_n X.1 X.2.1 dX7_inherits_94 rfl (lv_at hl 1 rfl) ?_
          refine lv_iconst (v := nI (0)) X.1 X.2.1 dX7_inherits_95 (by decide) ?_
          refine mr_ast X h 21 rfl (by decide) dX7_inherits_96 (i := k0) (v := 0) rfl (by show _ < 36; omega) rfl (fun H locs h => ?_)
          refine lv_aload_n X.1 X.2.1 dX7_inherits_97 rfl (lv_at hl 0 rfl) ?_
          refine mr_get X h kf_X7_46 (by decide) dX7_inherits_98 rfl ?_
          refine lv_iload_n X.1 X.2.1 dX7_inherits_101 rfl (lv_at hl 1 rfl) ?_
          refine lv_iload_n X.1 X.2.1 dX7_inherits_102 rfl (lv_at hl 2 rfl) ?_
          refine mr_ast X h 17 rfl (by decide) dX7_inherits_103 (i := k0) (v := h0) rfl (by show _ < 36; omega) rfl (fun H locs h => ?_)
          refine lv_aload_n X.1 X.2.1 dX7_inherits_104 rfl (lv_at hl 0 rfl) ?_
          refine mr_get X h kf_X7_49 (by decide) dX7_inherits_105 rfl ?_
          refine lv_iload_n X.1 X.2.1 dX7_inherits_108 rfl (lv_at hl 1 rfl) ?_
          refine lv_iconst (v := nI (0) - 1) X.1 X.2.1 dX7_inherits_109 (by decide) ?_
          refine mr_ast X h 18 rfl (by decide) dX7_inherits_110 (i := k0) (v := 0) rfl (by show _ < 36; omega) rfl (fun H locs h => ?_)
          refine lv_aload_n X.1 X.2.1 dX7_inherits_111 rfl (lv_at hl 0 rfl) ?_
          refine mr_get X h kf_X7_43 (by decide) dX7_inherits_112 rfl ?_
          refine lv_iload_n X.1 X.2.1 dX7_inherits_115 rfl (lv_at hl 1 rfl) ?_
          refine lv_iload_n X.1 X.2.1 dX7_inherits_116 rfl (lv_at hl 2 rfl) ?_
          refine mr_ast X h 16 rfl (by decide) dX7_inherits_117 (i := k0) (v := h0) rfl (by show _ < 36; omega) rfl (fun H locs h => ?_)
          exact mr_vret X hr hlocks h dX7_inherits_118 ⟨Nat.le_of_ble_eq_true rfl, Nat.le_of_ble_eq_true rfl⟩ (⟨rfl, rfl, by unfold inhF; rw [if_pos (by omega)]; rfl, by unfold inhB; rw [if_pos (by omega)]; obtain rfl : t = 0 := (by omega); exact hB.symm⟩)
        · skip
          obtain ⟨u, rfl⟩ : ∃ u, t = u + 1 := ⟨t - 1, by omega⟩
          have hl : lv_has ls 4 [(0, .ref x), (1, .int (nI (k0))), (2, .int (nI (h0) - 1)), (3, .int (nI (20 * k0 + u)))] := by rw [show nI (20 * k0 + u) = nI (20 * k0 + (u + 1)) - 1 from (nI_pred _).symm]; exact hl
          refine lv_aload_n X.1 X.2.1 dX7_inherits_62 rfl (lv_at hl 0 rfl) ?_
          refine lv_aload_n X.1 X.2.1 dX7_inherits_63 rfl (lv_at hl 0 rfl) ?_
          refine mr_get X h kf_X7_61 (by decide) dX7_inherits_64 rfl ?_
          refine lv_iload_n X.1 X.2.1 dX7_inherits_67 rfl (lv_at hl 3 rfl) ?_
          refine mr_ald X h 22 rfl dX7_inherits_68 (i := 20 * k0 + u) (v := nI (F 22 (20 * k0 + u))) rfl (by show _ < 720; omega) rfl ?_
          have b5 := hI.s (k := k0) (j := u) (by omega) (by omega)
          refine lv_aload_n X.1 X.2.1 dX7_inherits_69 rfl (lv_at hl 0 rfl) ?_
          refine mr_get X h kf_X7_64 (by decide) dX7_inherits_70 rfl ?_
          refine lv_iload_n X.1 X.2.1 dX7_inherits_73 rfl (lv_at hl 3 rfl) ?_
          refine mr_ald X h 23 rfl dX7_inherits_74 (i := 20 * k0 + u) (v := nI (F 23 (20 * k0 + u))) rfl (by show _ < 720; omega) rfl ?_
          refine lv_aload_n X.1 X.2.1 dX7_inherits_75 rfl (lv_at hl 0 rfl) ?_
          refine mr_get X h kf_X7_67 (by decide) dX7_inherits_76 rfl ?_
          refine lv_iload_n X.1 X.2.1 dX7_inherits_79 rfl (lv_at hl 3 rfl) ?_
          refine mr_ald X h 24 rfl dX7_inherits_80 (i := 20 * k0 + u) (v := nI (F 24 (20 * k0 + u))) rfl (by show _ < 720; omega) rfl ?_
          refine mr_callV X h ck_X7_139 ki_X7_pays ks_X7_pays dX7_inherits_81 (As := [.int (nI (F 22 (20 * k0 + u))), .int (nI (F 23 (20 * k0 + u))), .int (nI (F 24 (20 * k0 + u)))]) (c_X7_pays l G x ar N F B1 (nI (F 22 (20 * k0 + u))) (nI (F 23 (20 * k0 + u))) (nI (F 24 (20 * k0 + u))) ((F 22 (20 * k0 + u) + 1)) ((F 23 (20 * k0 + u) + 1)) (F 24 (20 * k0 + u)) (show N 1 ≤ 16 by omega) (show (F 22 (20 * k0 + u) + 1) ≤ N 1 by omega) (show (F 23 (20 * k0 + u) + 1) ≤ N 1 by omega) (eI_suc _) (eI_suc _) rfl) rfl hl rfl (Nat.le_of_ble_eq_true rfl) ⟨Nat.le_of_ble_eq_true rfl, Nat.le_of_ble_eq_true rfl⟩ ⟨Nat.le_of_ble_eq_true rfl, Nat.le_of_ble_eq_true rfl⟩ ?_
          rintro _ _ _ _ H locs ⟨rfl, rfl, rfl, rfl⟩ h
          refine lv_iinc (v := nI (20 * k0 + u) - 1) (lv' := [(3, .int (nI (20 * k0 + u) - 1)), (0, .ref x), (1, .int (nI (k0))), (2, .int (nI (h0) - 1))]) X.1 X.2.1 dX7_inherits_84 hl (k := 3) rfl (dec_sh _) (by decide) rfl (fun ls hl => ?_)
          refine lv_goto (tgt := 54) X.1 X.2.1 dX7_inherits_87 (by decide) ?_
          exact ih_loop u (payS B1 ((F 22 (20 * k0 + u) + 1)) ((F 23 (20 * k0 + u) + 1)) (F 24 (20 * k0 + u))) (by omega) (by omega) hB _ _ _ h (lv_sub hl [1, 2, 3, 0] rfl)
    exact loop (F 21 k0 + 1) (F 21 k0) B (by omega) (Nat.le_refl _) rfl _ _ _ h (lv_sub hl [1, 2, 3, 0] rfl)
  · skip
    refine lv_aload_n X.1 X.2.1 dX7_inherits_10 rfl (lv_at hl 0 rfl) ?_
    refine lv_aload_n X.1 X.2.1 dX7_inherits_11 rfl (lv_at hl 0 rfl) ?_
    refine mr_get X h kf_X7_43 (by decide) dX7_inherits_12 rfl ?_
    refine lv_iload_n X.1 X.2.1 dX7_inherits_15 rfl (lv_at hl 1 rfl) ?_
    refine mr_ald X h 16 rfl dX7_inherits_16 (i := k0) (v := nI (F 16 (k0)) - 1) rfl (by show _ < 36; omega) rfl ?_
    have b6 := hI.k (k := k0) (by omega)
    refine lv_iload_n X.1 X.2.1 dX7_inherits_17 rfl (lv_at hl 2 rfl) ?_
    refine lv_aload_n X.1 X.2.1 dX7_inherits_18 rfl (lv_at hl 0 rfl) ?_
    refine mr_get X h kf_X7_67 (by decide) dX7_inherits_19 rfl ?_
    refine lv_bipush (v := nI (20)) X.1 X.2.1 dX7_inherits_22 (by decide) ?_
    refine lv_iload_n X.1 X.2.1 dX7_inherits_24 rfl (lv_at hl 1 rfl) ?_
    refine lv_imul X.1 X.2.1 dX7_inherits_25 ?_
    refine lv_top (y := nI (20 * k0)) (pk_mul _ _) ?_
    refine lv_aload_n X.1 X.2.1 dX7_inherits_26 rfl (lv_at hl 0 rfl) ?_
    refine mr_get X h kf_X7_55 (by decide) dX7_inherits_27 rfl ?_
    refine lv_iload_n X.1 X.2.1 dX7_inherits_30 rfl (lv_at hl 1 rfl) ?_
    refine mr_ald X h 20 rfl dX7_inherits_31 (i := k0) (v := nI (F 20 (k0)) - 1) rfl (by show _ < 36; omega) rfl ?_
    have b7 := hI.k (k := k0) (by omega)
    refine lv_iadd X.1 X.2.1 dX7_inherits_32 ?_
    refine lv_top (y := nI (20 * k0 + ((F 20 (k0)) - 1))) (add_sh (by omega)) ?_
    refine mr_ald X h 24 rfl dX7_inherits_33 (i := 20 * k0 + ((F 20 (k0)) - 1)) (v := nI (F 24 (20 * k0 + ((F 20 (k0)) - 1)))) rfl (by show _ < 720; omega) rfl ?_
    refine mr_callV X h ck_X7_139 ki_X7_pays ks_X7_pays dX7_inherits_34 (As := [.int (nI (F 16 (k0)) - 1), .int (nI (h0) - 1), .int (nI (F 24 (20 * k0 + ((F 20 (k0)) - 1))))]) (c_X7_pays l G x ar N F B (nI (F 16 (k0)) - 1) (nI (h0) - 1) (nI (F 24 (20 * k0 + ((F 20 (k0)) - 1)))) (F 16 (k0)) h0 (F 24 (20 * k0 + ((F 20 (k0)) - 1))) (show N 1 ≤ 16 by omega) (show F 16 (k0) ≤ N 1 by omega) (show h0 ≤ N 1 by omega) rfl rfl rfl) rfl hl rfl (Nat.le_of_ble_eq_true rfl) ⟨Nat.le_of_ble_eq_true rfl, Nat.le_of_ble_eq_true rfl⟩ ⟨Nat.le_of_ble_eq_true rfl, Nat.le_of_ble_eq_true rfl⟩ ?_
    rintro _ _ _ _ H locs ⟨rfl, rfl, rfl, rfl⟩ h
    refine lv_goto (tgt := 111) X.1 X.2.1 dX7_inherits_37 (by decide) ?_
    refine lv_aload_n X.1 X.2.1 dX7_inherits_111 rfl (lv_at hl 0 rfl) ?_
    refine mr_get X h kf_X7_43 (by decide) dX7_inherits_112 rfl ?_
    refine lv_iload_n X.1 X.2.1 dX7_inherits_115 rfl (lv_at hl 1 rfl) ?_
    refine lv_iload_n X.1 X.2.1 dX7_inherits_116 rfl (lv_at hl 2 rfl) ?_
    refine mr_ast X h 16 rfl (by decide) dX7_inherits_117 (i := k0) (v := h0) rfl (by show _ < 36; omega) rfl (fun H locs h => ?_)
    exact mr_vret X hr hlocks h dX7_inherits_118 ⟨Nat.le_of_ble_eq_true rfl, Nat.le_of_ble_eq_true rfl⟩ (⟨rfl, rfl, by unfold inhF; rw [if_neg (by omega)]; rfl, by unfold inhB; rw [if_neg (by omega)]⟩)
set_option maxHeartbeats 4000000 in
set_option maxRecDepth 100000 in
theorem c_X7_looks (l : Launch) (G : mG) (x : Nat) (ar N : Nat → Nat) (F : Nat → Nat → Nat) (B : Nat → Int32)  (hI : Iv N F) : MMet l yX7_looks cX7_looks 3 none ({ frames := 3, cells := 0, slots := 0, locals := 68 } : Room) G x ar [.ref x] N F B (fun r N' F' B' => r = none ∧ N = N' ∧ SF (lookS N F B (N 13)).1 F' ∧ (lookS N F B (N 13)).2 = B' ∧ Iv N F') := by
  refine MMet.of (by decide) (Nat.le_of_ble_eq_true rfl) ?_
  intro p e s m args below meth c A ls X hr hlocks h hl
  have hl : lv_has ls 3 [(0, .ref x)] := hl
  have hn := hI.n
  refine lv_iconst (v := nI (0)) X.1 X.2.1 dX7_looks_0 (by decide) ?_
  refine lv_istore_n (lv' := [(1, .int (nI (0))), (0, .ref x)]) X.1 X.2.1 dX7_looks_1 rfl hl (by decide) rfl (fun ls hl => ?_)
  have loop : ∀ (n9 : Nat) (k : Nat) (F1 : Nat → Nat → Nat) (B1 : Nat → Int32), (k ≤ N 13) → (N 13 + 1 ≤ k + n9) → (SF (lookS N F B k).1 F1) → ((lookS N F B k).2 = B1) → (Iv N F1) → ∀ (H : Heap) (locs : List Loc) (ls : Array Slot), mM G A s.heap x ar N F1 B1 H locs → lv_has ls 3 [(0, .ref x), (1, .int (nI (k)))] → W p l e ({ frames := 3, cells := 0, slots := 0, locals := 68 } : Room) s m args below meth c H locs 0 0 (MZ G A x ar (fun r N' F' B' => r = none ∧ N = N' ∧ SF (lookS N F B (N 13)).1 F' ∧ (lookS N F B (N 13)).2 = B' ∧ Iv N F') below args s 0 0) (F0 m 2 ls []) := by
    intro n9
    induction n9 with
    | zero => intro k F1 B1 hk hm9 hS hB hI1; exact absurd hm9 (by omega)
    | succ n9 ih_loop =>
      intro k F1 B1 hk hm9 hS hB hI1 H locs ls h hl
      refine lv_iload_n X.1 X.2.1 dX7_looks_2 rfl (lv_at hl 1 rfl) ?_
      refine lv_aload_n X.1 X.2.1 dX7_looks_3 rfl (lv_at hl 0 rfl) ?_
      refine mr_get X h kf_X7_133 (by decide) dX7_looks_4 (v := .int (nI (N 13))) rfl ?_
      refine b_icmp_ge (tgt := 53) X dX7_looks_7 (by decide) (a := ((k : Nat) : Int)) (b := ((N 13 : Nat) : Int)) (nI_ti (by omega)) (nI_ti (by omega)) (fun c1 => ?_) (fun c1 => ?_)
      · skip
        exact mr_vret X hr hlocks h dX7_looks_53 ⟨Nat.le_of_ble_eq_true rfl, Nat.le_of_ble_eq_true rfl⟩ (⟨rfl, rfl, by rw [show k = N 13 by omega] at hS; exact hS, by rw [show k = N 13 by omega] at hB; exact hB, hI1⟩)
      · skip
        refine lv_aload_n X.1 X.2.1 dX7_looks_10 rfl (lv_at hl 0 rfl) ?_
        refine lv_aload_n X.1 X.2.1 dX7_looks_11 rfl (lv_at hl 0 rfl) ?_
        refine mr_get X h kf_X7_37 (by decide) dX7_looks_12 rfl ?_
        refine lv_iload_n X.1 X.2.1 dX7_looks_15 rfl (lv_at hl 1 rfl) ?_
        refine mr_ald X h 14 rfl dX7_looks_16 (i := k) (v := nI (F1 14 (k))) rfl (by show _ < 36; omega) rfl ?_
        have b2 := hI1.k (k := k) (by omega)
        refine mr_callV X h ck_X7_126 ki_X7_counts ks_X7_counts dX7_looks_17 (As := [.int (nI (F1 14 (k)))]) (c_X7_counts l G x ar N F1 B1 (F1 14 (k)) hI1 (by omega)) rfl hl rfl (Nat.le_of_ble_eq_true rfl) ⟨Nat.le_of_ble_eq_true rfl, Nat.le_of_ble_eq_true rfl⟩ ⟨Nat.le_of_ble_eq_true rfl, Nat.le_of_ble_eq_true rfl⟩ ?_
        rintro _ _ _ _ H locs ⟨rfl, rfl, rfl, g, q, rfl, hg⟩ h
        have hb : ∀ z, z < N 1 → g z ≤ 400 ∧ q z ≤ 400 := fun z hz => by have := cnt_b hg (show N 6 ≤ 100 by omega) hz; omega
        refine lv_aload_n X.1 X.2.1 dX7_looks_20 rfl (lv_at hl 0 rfl) ?_
        refine lv_aload_n X.1 X.2.1 dX7_looks_21 rfl (lv_at hl 0 rfl) ?_
        refine mr_get X h kf_X7_40 (by decide) dX7_looks_22 rfl ?_
        refine lv_iload_n X.1 X.2.1 dX7_looks_25 rfl (lv_at hl 1 rfl) ?_
        refine mr_ald X h 15 rfl dX7_looks_26 (i := k) (v := nI (F1 15 (k))) rfl (by show _ < 36; omega) rfl ?_
        refine mr_callV X h ck_X7_130 ki_X7_who ks_X7_who dX7_looks_27 (As := [.int (nI (F1 15 (k)))]) (c_X7_who l G x ar N F1 B1 (F1 15 (k)) g q (show N 1 ≤ 16 by omega) (fun z hz => by first | exact hb z hz | exact hb z (by omega)) (by omega)) rfl hl rfl (Nat.le_of_ble_eq_true rfl) ⟨Nat.le_of_ble_eq_true rfl, Nat.le_of_ble_eq_true rfl⟩ ⟨Nat.le_of_ble_eq_true rfl, Nat.le_of_ble_eq_true rfl⟩ ?_
        rintro _ _ _ _ H locs ⟨rfl, rfl, rfl, rfl⟩ h
        have b3 : who g q (N 1) (F1 15 (k)) ≤ N 1 := whoN_le _ _ _ _ _
        refine lv_istore_n (lv' := [(2, .int (nI (who g q (N 1) (F1 15 (k))) - 1)), (0, .ref x), (1, .int (nI (k)))]) X.1 X.2.1 dX7_looks_30 rfl hl (by decide) rfl (fun ls hl => ?_)
        refine lv_iload_n X.1 X.2.1 dX7_looks_31 rfl (lv_at hl 0 rfl) ?_
        refine lv_aload_n X.1 X.2.1 dX7_looks_32 rfl (lv_at hl 1 rfl) ?_
        refine mr_get X h kf_X7_43 (by decide) dX7_looks_33 rfl ?_
        refine lv_iload_n X.1 X.2.1 dX7_looks_36 rfl (lv_at hl 2 rfl) ?_
        refine mr_ald X h 16 rfl dX7_looks_37 (i := k) (v := nI (F1 16 (k)) - 1) rfl (by show _ < 36; omega) rfl ?_
        refine b_icmp_eq (tgt := 47) X dX7_looks_38 (by decide) (a := ((who g q (N 1) (F1 15 (k)) : Nat) : Int) - 1) (b := ((F1 16 (k) : Nat) : Int) - 1) (eI_ti (by omega)) (eI_ti (by omega)) (fun c4 => ?_) (fun c4 => ?_)
        · skip
          refine lv_iinc (v := nI (k + 1)) (lv' := [(1, .int (nI (k + 1))), (2, .int (nI (who g q (N 1) (F1 15 (k))) - 1)), (0, .ref x)]) X.1 X.2.1 dX7_looks_47 hl (k := 2) rfl (nI_add (k) 1) (by decide) rfl (fun ls hl => ?_)
          refine lv_goto (tgt := 2) X.1 X.2.1 dX7_looks_50 (by decide) ?_
          have hlk := look_f (N := N) (F := F) (B := B) (F1 := sc2 F1 g q) (hS.sc g q) hB (who_heir (F := sc2 F1 g q) hg).symm (show who g q (N 1) (F1 15 k) = F1 16 k by omega)
          exact ih_loop (k + 1) ((sc2 F1 g q)) (B1) (by omega) (by omega) hlk.1 hlk.2 hI1 _ _ _ h (lv_sub hl [2, 0] rfl)
        · skip
          refine lv_aload_n X.1 X.2.1 dX7_looks_41 rfl (lv_at hl 1 rfl) ?_
          refine lv_iload_n X.1 X.2.1 dX7_looks_42 rfl (lv_at hl 2 rfl) ?_
          refine lv_iload_n X.1 X.2.1 dX7_looks_43 rfl (lv_at hl 0 rfl) ?_
          refine mr_callV X h ck_X7_143 ki_X7_inherits ks_X7_inherits dX7_looks_44 (As := [.int (nI (k)), .int (nI (who g q (N 1) (F1 15 (k))) - 1)]) (c_X7_inherits l G x ar N (sc2 F1 g q) B1 k (who g q (N 1) (F1 15 (k))) hI1 (show k < N 13 by omega) (show who g q (N 1) (F1 15 (k)) ≤ N 1 by omega)) rfl hl rfl (Nat.le_of_ble_eq_true rfl) ⟨Nat.le_of_ble_eq_true rfl, Nat.le_of_ble_eq_true rfl⟩ ⟨Nat.le_of_ble_eq_true rfl, Nat.le_of_ble_eq_true rfl⟩ ?_
          rintro _ _ _ _ H locs ⟨rfl, rfl, rfl, rfl⟩ h
          refine lv_iinc (v := nI (k + 1)) (lv' := [(1, .int (nI (k + 1))), (2, .int (nI (who g q (N 1) (F1 15 (k))) - 1)), (0, .ref x)]) X.1 X.2.1 dX7_looks_47 hl (k := 2) rfl (nI_add (k) 1) (by decide) rfl (fun ls hl => ?_)
          refine lv_goto (tgt := 2) X.1 X.2.1 dX7_looks_50 (by decide) ?_
          have hlk := look_t (N := N) (F := F) (B := B) (F1 := sc2 F1 g q) (hS.sc g q) hB (who_heir (F := sc2 F1 g q) hg).symm (show ¬ who g q (N 1) (F1 15 k) = F1 16 k by omega)
          exact ih_loop (k + 1) ((inhF (sc2 F1 g q) k (who g q (N 1) (F1 15 (k))))) ((inhB (sc2 F1 g q) B1 k (who g q (N 1) (F1 15 (k))))) (by omega) (by omega) hlk.1 hlk.2 (Iv.inh (F := sc2 F1 g q) hI1 (by omega) (by rw [who_heir hg]; exact heirS_le _ _ _ _)) _ _ _ h (lv_sub hl [2, 0] rfl)
  exact loop (N 13 + 1) 0 F B (by omega) (by omega) (SF.rf F) rfl hI _ _ _ h (lv_sub hl [1, 0] rfl)
