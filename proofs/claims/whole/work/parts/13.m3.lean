set_option maxHeartbeats 4000000 in
set_option maxRecDepth 100000 in
theorem c_X7_player (l : Launch) (G : mG) (x : Nat) (ar N : Nat → Nat) (F : Nat → Nat → Nat) (B : Nat → Int32)  (hI : Iv N F) : MMet l yX7_player cX7_player 1 (some FieldType.int) ({ frames := 1, cells := 0, slots := 0, locals := 21 } : Room) G x ar [.ref x] N F B (fun r N' F' B' => MA r N' F' B' (kPlayer N) (nI (N 1)) (va_up N 1 (N 1 + 1)) (set1 F 2 (N 1) 0) (B) N F B) := by
  refine MMet.of (by decide) (Nat.le_of_ble_eq_true rfl) ?_
  intro p e s m args below meth c A ls X hr hlocks h hl
  have hl : lv_has ls 1 [(0, .ref x)] := hl
  have hn := hI.n
  refine lv_aload_n X.1 X.2.1 dX7_player_0 rfl (lv_at hl 0 rfl) ?_
  refine lv_aload_n X.1 X.2.1 dX7_player_1 rfl (lv_at hl 0 rfl) ?_
  refine mr_get X h kf_X7_83 (by decide) dX7_player_2 (v := .int (nI (N 1))) rfl ?_
  refine lv_bipush (v := nI (16)) X.1 X.2.1 dX7_player_5 (by decide) ?_
  refine b_icmp_ne (tgt := 14) X dX7_player_7 (by decide) (a := ((N 1 : Nat) : Int)) (b := ((16 : Nat) : Int)) (nI_ti (by omega)) (nI_ti (by omega)) (fun c1 => ?_) (fun c1 => ?_)
  · skip
    refine lv_iconst (v := nI (0)) X.1 X.2.1 dX7_player_14 (by decide) ?_
    refine mr_callV X h ck_X7_93 ki_X7_fails ks_X7_fails dX7_player_15 (As := [.int (nI (0))]) (c_X7_fails l G x ar N F B 0 (by omega)) rfl hl rfl (Nat.le_of_ble_eq_true rfl) ⟨Nat.le_of_ble_eq_true rfl, Nat.le_of_ble_eq_true rfl⟩ ⟨Nat.le_of_ble_eq_true rfl, Nat.le_of_ble_eq_true rfl⟩ ?_
    rintro _ _ _ _ H locs ⟨rfl, rfl, rfl, rfl⟩ h
    refine b_bool_eq (tgt := 23) X dX7_player_18 (by decide) (fun c2 => ?_) (fun c2 => ?_)
    · skip
      have c2 := of_decide_eq_false c2
      refine lv_aload_n X.1 X.2.1 dX7_player_23 rfl (lv_at hl 0 rfl) ?_
      refine mr_get X h kf_X7_7 (by decide) dX7_player_24 rfl ?_
      refine lv_aload_n X.1 X.2.1 dX7_player_27 rfl (lv_at hl 0 rfl) ?_
      refine mr_get X h kf_X7_83 (by decide) dX7_player_28 (v := .int (nI (N 1))) rfl ?_
      refine lv_iconst (v := nI (0) - 1) X.1 X.2.1 dX7_player_31 (by decide) ?_
      refine mr_ast X h 2 rfl (by decide) dX7_player_32 (i := N 1) (v := 0) rfl (by show _ < 16; omega) rfl (fun H locs h => ?_)
      refine lv_aload_n X.1 X.2.1 dX7_player_33 rfl (lv_at hl 0 rfl) ?_
      refine lv_dup X.1 X.2.1 dX7_player_34 rfl ?_
      refine mr_get X h kf_X7_83 (by decide) dX7_player_35 (v := .int (nI (N 1))) rfl ?_
      refine lv_iconst (v := nI (1)) X.1 X.2.1 dX7_player_38 (by decide) ?_
      refine lv_iadd X.1 X.2.1 dX7_player_39 ?_
      refine lv_top (y := nI (N 1 + 1)) (nI_add _ _) ?_
      refine mr_put X h kf_X7_83 (by decide) rfl rfl dX7_player_40 rfl (fun H locs h => ?_)
      refine lv_aload_n X.1 X.2.1 dX7_player_43 rfl (lv_at hl 0 rfl) ?_
      refine mr_get X h kf_X7_83 (by decide) dX7_player_44 (v := .int (nI ((N 1 + 1)))) rfl ?_
      refine lv_iconst (v := nI (1)) X.1 X.2.1 dX7_player_47 (by decide) ?_
      refine lv_isub X.1 X.2.1 dX7_player_48 ?_
      refine lv_top (y := nI ((N 1 + 1)) - 1) rfl ?_
      exact mr_iret X hr hlocks h dX7_player_49 ⟨Nat.le_of_ble_eq_true rfl, Nat.le_of_ble_eq_true rfl⟩ (MA.ok (if_neg (by omega)) (nI_pred _) rfl (fun k h1 h2 => by simp [va_up, h1, h2]) (SF.rf _) (rfl))
    · skip
      exact absurd c2 (by first | decide | omega)
  · skip
    refine lv_iconst (v := nI (1)) X.1 X.2.1 dX7_player_10 (by decide) ?_
    refine lv_goto (tgt := 15) X.1 X.2.1 dX7_player_11 (by decide) ?_
    refine mr_callV X h ck_X7_93 ki_X7_fails ks_X7_fails dX7_player_15 (As := [.int (nI (1))]) (c_X7_fails l G x ar N F B 1 (by omega)) rfl hl rfl (Nat.le_of_ble_eq_true rfl) ⟨Nat.le_of_ble_eq_true rfl, Nat.le_of_ble_eq_true rfl⟩ ⟨Nat.le_of_ble_eq_true rfl, Nat.le_of_ble_eq_true rfl⟩ ?_
    rintro _ _ _ _ H locs ⟨rfl, rfl, rfl, rfl⟩ h
    refine b_bool_eq (tgt := 23) X dX7_player_18 (by decide) (fun c3 => ?_) (fun c3 => ?_)
    · skip
      exact absurd c3 (by first | decide | omega)
    · skip
      have c3 := of_decide_eq_true c3
      refine lv_iconst (v := nI (0)) X.1 X.2.1 dX7_player_21 (by decide) ?_
      exact mr_iret X hr hlocks h dX7_player_22 ⟨Nat.le_of_ble_eq_true rfl, Nat.le_of_ble_eq_true rfl⟩ (MA.bad (if_pos (by omega)) (by decide))
set_option maxHeartbeats 4000000 in
set_option maxRecDepth 100000 in
theorem c_X7_room (l : Launch) (G : mG) (x : Nat) (ar N : Nat → Nat) (F : Nat → Nat → Nat) (B : Nat → Int32) (r0 : Int32) (its : Int32) (hI : Iv N F) : MMet l yX7_room cX7_room 3 (some FieldType.int) ({ frames := 2, cells := 0, slots := 0, locals := 42 } : Room) G x ar [.ref x, .int (r0), .int (its)] N F B (fun r N' F' B' => MA r N' F' B' (kRoom r0 its) (nI (tdy F (N 0) (ix r0) (N 6))) (N) (fRoom F r0 its) (B) N F B) := by
  refine MMet.of (by decide) (Nat.le_of_ble_eq_true rfl) ?_
  intro p e s m args below meth c A ls X hr hlocks h hl
  have hl : lv_has ls 3 [(0, .ref x), (1, .int (r0)), (2, .int (its))] := hl
  have hn := hI.n
  refine lv_aload_n X.1 X.2.1 dX7_room_0 rfl (lv_at hl 0 rfl) ?_
  refine lv_iload_n X.1 X.2.1 dX7_room_1 rfl (lv_at hl 1 rfl) ?_
  refine mr_callS X h ck_X7_100 kst_X7_isRegion dX7_room_2 (As := [.int (r0)]) (c_X7_isRegion l G x ar N F B (r0)) rfl hl rfl (Nat.le_of_ble_eq_true rfl) ⟨Nat.le_of_ble_eq_true rfl, Nat.le_of_ble_eq_true rfl⟩ ⟨Nat.le_of_ble_eq_true rfl, Nat.le_of_ble_eq_true rfl⟩ ?_
  rintro _ _ _ _ H locs ⟨rfl, rfl, rfl, rfl⟩ h
  refine b_bool_ne (tgt := 12) X dX7_room_5 (by decide) (fun c1 => ?_) (fun c1 => ?_)
  · skip
    obtain ⟨j0, hj0, rfl⟩ := iR_t c1 (by omega)
    refine lv_iload_n X.1 X.2.1 dX7_room_12 rfl (lv_at hl 2 rfl) ?_
    refine lv_iconst (v := nI (0)) X.1 X.2.1 dX7_room_13 (by decide) ?_
    refine lv_bipush (v := nI (50)) X.1 X.2.1 dX7_room_14 (by decide) ?_
    refine mr_callS X h ck_X7_86 kst_X7_isIn dX7_room_16 (As := [.int (its), .int (nI (0)), .int (nI (50))]) (c_X7_isIn l G x ar N F B (its) (nI (0)) (nI (50))) rfl hl rfl (Nat.le_of_ble_eq_true rfl) ⟨Nat.le_of_ble_eq_true rfl, Nat.le_of_ble_eq_true rfl⟩ ⟨Nat.le_of_ble_eq_true rfl, Nat.le_of_ble_eq_true rfl⟩ ?_
    rintro _ _ _ _ H locs ⟨rfl, rfl, rfl, rfl⟩ h
    refine lv_top (y := bI (decide (((0 : Nat) : Int) ≤ (its).toInt ∧ (its).toInt ≤ ((50 : Nat) : Int)))) (by rw [show (its).toInt = (its).toInt from rfl, show (nI (0)).toInt = ((0 : Nat) : Int) from nI_ti (by omega), show (nI (50)).toInt = ((50 : Nat) : Int) from nI_ti (by omega)]) ?_
    refine b_bool_eq (tgt := 26) X dX7_room_19 (by decide) (fun c2 => ?_) (fun c2 => ?_)
    · skip
      have c2 := of_decide_eq_false c2
      refine lv_iconst (v := nI (2)) X.1 X.2.1 dX7_room_26 (by decide) ?_
      refine mr_callV X h ck_X7_93 ki_X7_fails ks_X7_fails dX7_room_27 (As := [.int (nI (2))]) (c_X7_fails l G x ar N F B 2 (by omega)) rfl hl rfl (Nat.le_of_ble_eq_true rfl) ⟨Nat.le_of_ble_eq_true rfl, Nat.le_of_ble_eq_true rfl⟩ ⟨Nat.le_of_ble_eq_true rfl, Nat.le_of_ble_eq_true rfl⟩ ?_
      rintro _ _ _ _ H locs ⟨rfl, rfl, rfl, rfl⟩ h
      refine b_bool_eq (tgt := 35) X dX7_room_30 (by decide) (fun c3 => ?_) (fun c3 => ?_)
      · skip
        exact absurd c3 (by first | decide | omega)
      · skip
        have c3 := of_decide_eq_true c3
        refine lv_iconst (v := nI (0)) X.1 X.2.1 dX7_room_33 (by decide) ?_
        exact mr_iret X hr hlocks h dX7_room_34 ⟨Nat.le_of_ble_eq_true rfl, Nat.le_of_ble_eq_true rfl⟩ (MA.bad ((if_neg (by rw [iR_lt hj0 (by omega)]; decide)).trans (if_neg (by omega))) (by decide))
    · skip
      have c2 := of_decide_eq_true c2
      obtain ⟨j1, hj1l, hj1, rfl⟩ := in_t 0 (n := 50) c2 (by omega)
      refine lv_iconst (v := nI (0)) X.1 X.2.1 dX7_room_22 (by decide) ?_
      refine lv_goto (tgt := 27) X.1 X.2.1 dX7_room_23 (by decide) ?_
      refine mr_callV X h ck_X7_93 ki_X7_fails ks_X7_fails dX7_room_27 (As := [.int (nI (0))]) (c_X7_fails l G x ar N F B 0 (by omega)) rfl hl rfl (Nat.le_of_ble_eq_true rfl) ⟨Nat.le_of_ble_eq_true rfl, Nat.le_of_ble_eq_true rfl⟩ ⟨Nat.le_of_ble_eq_true rfl, Nat.le_of_ble_eq_true rfl⟩ ?_
      rintro _ _ _ _ H locs ⟨rfl, rfl, rfl, rfl⟩ h
      refine b_bool_eq (tgt := 35) X dX7_room_30 (by decide) (fun c4 => ?_) (fun c4 => ?_)
      · skip
        have c4 := of_decide_eq_false c4
        refine lv_aload_n X.1 X.2.1 dX7_room_35 rfl (lv_at hl 0 rfl) ?_
        refine mr_get X h kf_X7_19 (by decide) dX7_room_36 rfl ?_
        refine lv_iload_n X.1 X.2.1 dX7_room_39 rfl (lv_at hl 1 rfl) ?_
        refine lv_iload_n X.1 X.2.1 dX7_room_40 rfl (lv_at hl 2 rfl) ?_
        refine mr_ast X h 5 rfl (by decide) dX7_room_41 (i := j0) (v := j1) rfl (by show _ < 4; omega) rfl (fun H locs h => ?_)
        refine lv_aload_n X.1 X.2.1 dX7_room_42 rfl (lv_at hl 0 rfl) ?_
        refine lv_iload_n X.1 X.2.1 dX7_room_43 rfl (lv_at hl 1 rfl) ?_
        refine mr_callV X h ck_X7_103 ki_X7_today ks_X7_today dX7_room_44 (As := [.int (nI (j0))]) (c_X7_today l G x ar (va_up N 29 (0)) (set1 F 5 (j0) (j1)) B j0 (hI.set5 j0 j1 (by omega)) (by omega)) rfl hl rfl (Nat.le_of_ble_eq_true rfl) ⟨Nat.le_of_ble_eq_true rfl, Nat.le_of_ble_eq_true rfl⟩ ⟨Nat.le_of_ble_eq_true rfl, Nat.le_of_ble_eq_true rfl⟩ ?_
        rintro _ _ _ _ H locs ⟨rfl, rfl, rfl, rfl⟩ h
        have b5 := tdy_le F (N 0) (j0) (N 6)
        exact mr_iret X hr hlocks h dX7_room_47 ⟨Nat.le_of_ble_eq_true rfl, Nat.le_of_ble_eq_true rfl⟩ (MA.ok ((if_neg (by rw [iR_lt hj0 (by omega)]; decide)).trans (if_pos (by rw [nI_ti (by omega)]; omega))) (by rw [ix_nI (by omega)]; rfl) rfl (fun k h1 h2 => by simp [va_up, h1, h2]) (by rw [fRoom, ix_nI (by omega), ix_nI (by omega)]; exact SF.rf _) (rfl))
      · skip
        exact absurd c4 (by first | decide | omega)
  · skip
    refine lv_iconst (v := nI (1)) X.1 X.2.1 dX7_room_8 (by decide) ?_
    refine lv_goto (tgt := 27) X.1 X.2.1 dX7_room_9 (by decide) ?_
    refine mr_callV X h ck_X7_93 ki_X7_fails ks_X7_fails dX7_room_27 (As := [.int (nI (1))]) (c_X7_fails l G x ar N F B 1 (by omega)) rfl hl rfl (Nat.le_of_ble_eq_true rfl) ⟨Nat.le_of_ble_eq_true rfl, Nat.le_of_ble_eq_true rfl⟩ ⟨Nat.le_of_ble_eq_true rfl, Nat.le_of_ble_eq_true rfl⟩ ?_
    rintro _ _ _ _ H locs ⟨rfl, rfl, rfl, rfl⟩ h
    refine b_bool_eq (tgt := 35) X dX7_room_30 (by decide) (fun c6 => ?_) (fun c6 => ?_)
    · skip
      exact absurd c6 (by first | decide | omega)
    · skip
      have c6 := of_decide_eq_true c6
      refine lv_iconst (v := nI (0)) X.1 X.2.1 dX7_room_33 (by decide) ?_
      exact mr_iret X hr hlocks h dX7_room_34 ⟨Nat.le_of_ble_eq_true rfl, Nat.le_of_ble_eq_true rfl⟩ (MA.bad (if_pos c1) (by decide))
set_option maxHeartbeats 4000000 in
set_option maxRecDepth 100000 in
theorem c_X7_ban (l : Launch) (G : mG) (x : Nat) (ar N : Nat → Nat) (F : Nat → Nat → Nat) (B : Nat → Int32) (p0 : Int32) (d0 : Int32) (hI : Iv N F) : MMet l yX7_ban cX7_ban 3 (some FieldType.int) ({ frames := 2, cells := 0, slots := 0, locals := 43 } : Room) G x ar [.ref x, .int (p0), .int (d0)] N F B (fun r N' F' B' => MA r N' F' B' (kBan N p0 d0) (nI (N 0 + ix d0)) (N) (set1 F 3 (ix p0) (N 0 + ix d0)) (B) N F B) := by
  refine MMet.of (by decide) (Nat.le_of_ble_eq_true rfl) ?_
  intro p e s m args below meth c A ls X hr hlocks h hl
  have hl : lv_has ls 3 [(0, .ref x), (1, .int (p0)), (2, .int (d0))] := hl
  have hn := hI.n
  refine lv_aload_n X.1 X.2.1 dX7_ban_0 rfl (lv_at hl 0 rfl) ?_
  refine lv_aload_n X.1 X.2.1 dX7_ban_1 rfl (lv_at hl 0 rfl) ?_
  refine lv_iload_n X.1 X.2.1 dX7_ban_2 rfl (lv_at hl 1 rfl) ?_
  refine mr_callV X h ck_X7_107 ki_X7_isPlayer ks_X7_isPlayer dX7_ban_3 (As := [.int (p0)]) (c_X7_isPlayer l G x ar N F B (p0) hI) rfl hl rfl (Nat.le_of_ble_eq_true rfl) ⟨Nat.le_of_ble_eq_true rfl, Nat.le_of_ble_eq_true rfl⟩ ⟨Nat.le_of_ble_eq_true rfl, Nat.le_of_ble_eq_true rfl⟩ ?_
  rintro _ _ _ _ H locs ⟨rfl, rfl, rfl, rfl⟩ h
  refine b_bool_ne (tgt := 13) X dX7_ban_6 (by decide) (fun c1 => ?_) (fun c1 => ?_)
  · skip
    obtain ⟨j0, hj0, rfl⟩ := iR_t c1 (by omega)
    refine lv_iload_n X.1 X.2.1 dX7_ban_13 rfl (lv_at hl 2 rfl) ?_
    refine lv_iconst (v := nI (0)) X.1 X.2.1 dX7_ban_14 (by decide) ?_
    refine lv_sipush (v := nI (1000)) X.1 X.2.1 dX7_ban_15 (by decide) ?_
    refine mr_callS X h ck_X7_86 kst_X7_isIn dX7_ban_18 (As := [.int (d0), .int (nI (0)), .int (nI (1000))]) (c_X7_isIn l G x ar N F B (d0) (nI (0)) (nI (1000))) rfl hl rfl (Nat.le_of_ble_eq_true rfl) ⟨Nat.le_of_ble_eq_true rfl, Nat.le_of_ble_eq_true rfl⟩ ⟨Nat.le_of_ble_eq_true rfl, Nat.le_of_ble_eq_true rfl⟩ ?_
    rintro _ _ _ _ H locs ⟨rfl, rfl, rfl, rfl⟩ h
    refine lv_top (y := bI (decide (((0 : Nat) : Int) ≤ (d0).toInt ∧ (d0).toInt ≤ ((1000 : Nat) : Int)))) (by rw [show (d0).toInt = (d0).toInt from rfl, show (nI (0)).toInt = ((0 : Nat) : Int) from nI_ti (by omega), show (nI (1000)).toInt = ((1000 : Nat) : Int) from nI_ti (by omega)]) ?_
    refine b_bool_eq (tgt := 28) X dX7_ban_21 (by decide) (fun c2 => ?_) (fun c2 => ?_)
    · skip
      have c2 := of_decide_eq_false c2
      refine lv_iconst (v := nI (2)) X.1 X.2.1 dX7_ban_28 (by decide) ?_
      refine mr_callV X h ck_X7_93 ki_X7_fails ks_X7_fails dX7_ban_29 (As := [.int (nI (2))]) (c_X7_fails l G x ar N F B 2 (by omega)) rfl hl rfl (Nat.le_of_ble_eq_true rfl) ⟨Nat.le_of_ble_eq_true rfl, Nat.le_of_ble_eq_true rfl⟩ ⟨Nat.le_of_ble_eq_true rfl, Nat.le_of_ble_eq_true rfl⟩ ?_
      rintro _ _ _ _ H locs ⟨rfl, rfl, rfl, rfl⟩ h
      refine b_bool_eq (tgt := 37) X dX7_ban_32 (by decide) (fun c3 => ?_) (fun c3 => ?_)
      · skip
        exact absurd c3 (by first | decide | omega)
      · skip
        have c3 := of_decide_eq_true c3
        refine lv_iconst (v := nI (0)) X.1 X.2.1 dX7_ban_35 (by decide) ?_
        exact mr_iret X hr hlocks h dX7_ban_36 ⟨Nat.le_of_ble_eq_true rfl, Nat.le_of_ble_eq_true rfl⟩ (MA.bad ((if_neg (by rw [iR_lt hj0 (by omega)]; decide)).trans (if_neg (by omega))) (by decide))
    · skip
      have c2 := of_decide_eq_true c2
      obtain ⟨j1, hj1l, hj1, rfl⟩ := in_t 0 (n := 1000) c2 (by omega)
      refine lv_iconst (v := nI (0)) X.1 X.2.1 dX7_ban_24 (by decide) ?_
      refine lv_goto (tgt := 29) X.1 X.2.1 dX7_ban_25 (by decide) ?_
      refine mr_callV X h ck_X7_93 ki_X7_fails ks_X7_fails dX7_ban_29 (As := [.int (nI (0))]) (c_X7_fails l G x ar N F B 0 (by omega)) rfl hl rfl (Nat.le_of_ble_eq_true rfl) ⟨Nat.le_of_ble_eq_true rfl, Nat.le_of_ble_eq_true rfl⟩ ⟨Nat.le_of_ble_eq_true rfl, Nat.le_of_ble_eq_true rfl⟩ ?_
      rintro _ _ _ _ H locs ⟨rfl, rfl, rfl, rfl⟩ h
      refine b_bool_eq (tgt := 37) X dX7_ban_32 (by decide) (fun c4 => ?_) (fun c4 => ?_)
      · skip
        have c4 := of_decide_eq_false c4
        refine lv_aload_n X.1 X.2.1 dX7_ban_37 rfl (lv_at hl 0 rfl) ?_
        refine mr_get X h kf_X7_13 (by decide) dX7_ban_38 rfl ?_
        refine lv_iload_n X.1 X.2.1 dX7_ban_41 rfl (lv_at hl 1 rfl) ?_
        refine lv_aload_n X.1 X.2.1 dX7_ban_42 rfl (lv_at hl 0 rfl) ?_
        refine mr_get X h kf_X7_90 (by decide) dX7_ban_43 (v := .int (nI (N 0))) rfl ?_
        refine lv_iload_n X.1 X.2.1 dX7_ban_46 rfl (lv_at hl 2 rfl) ?_
        refine lv_iadd X.1 X.2.1 dX7_ban_47 ?_
        refine lv_top (y := nI (N 0 + j1)) (nI_add _ _) ?_
        refine mr_ast X h 3 rfl (by decide) dX7_ban_48 (i := j0) (v := N 0 + j1) rfl (by show _ < 16; omega) rfl (fun H locs h => ?_)
        refine lv_aload_n X.1 X.2.1 dX7_ban_49 rfl (lv_at hl 0 rfl) ?_
        refine mr_get X h kf_X7_13 (by decide) dX7_ban_50 rfl ?_
        refine lv_iload_n X.1 X.2.1 dX7_ban_53 rfl (lv_at hl 1 rfl) ?_
        refine mr_ald X h 3 rfl dX7_ban_54 (i := j0) (v := nI (N 0 + j1)) rfl (by show _ < 16; omega) (by simp [rowM, shN, set1, va_up]) ?_
        exact mr_iret X hr hlocks h dX7_ban_55 ⟨Nat.le_of_ble_eq_true rfl, Nat.le_of_ble_eq_true rfl⟩ (MA.ok ((if_neg (by rw [iR_lt hj0 (by omega)]; decide)).trans (if_pos (by rw [nI_ti (by omega)]; omega))) (by rw [ix_nI (by omega)]) rfl (fun k h1 h2 => by simp [va_up, h1, h2]) (by rw [ix_nI (by omega), ix_nI (by omega)]; exact SF.rf _) (rfl))
      · skip
        exact absurd c4 (by first | decide | omega)
  · skip
    refine lv_iconst (v := nI (1)) X.1 X.2.1 dX7_ban_9 (by decide) ?_
    refine lv_goto (tgt := 29) X.1 X.2.1 dX7_ban_10 (by decide) ?_
    refine mr_callV X h ck_X7_93 ki_X7_fails ks_X7_fails dX7_ban_29 (As := [.int (nI (1))]) (c_X7_fails l G x ar N F B 1 (by omega)) rfl hl rfl (Nat.le_of_ble_eq_true rfl) ⟨Nat.le_of_ble_eq_true rfl, Nat.le_of_ble_eq_true rfl⟩ ⟨Nat.le_of_ble_eq_true rfl, Nat.le_of_ble_eq_true rfl⟩ ?_
    rintro _ _ _ _ H locs ⟨rfl, rfl, rfl, rfl⟩ h
    refine b_bool_eq (tgt := 37) X dX7_ban_32 (by decide) (fun c5 => ?_) (fun c5 => ?_)
    · skip
      exact absurd c5 (by first | decide | omega)
    · skip
      have c5 := of_decide_eq_true c5
      refine lv_iconst (v := nI (0)) X.1 X.2.1 dX7_ban_35 (by decide) ?_
      exact mr_iret X hr hlocks h dX7_ban_36 ⟨Nat.le_of_ble_eq_true rfl, Nat.le_of_ble_eq_true rfl⟩ (MA.bad (if_pos c1) (by decide))
set_option maxHeartbeats 4000000 in
set_option maxRecDepth 100000 in
theorem c_X7_pass (l : Launch) (G : mG) (x : Nat) (ar N : Nat → Nat) (F : Nat → Nat → Nat) (B : Nat → Int32) (d0 : Int32) (hI : Iv N F) : MMet l yX7_pass cX7_pass 2 (some FieldType.int) ({ frames := 1, cells := 0, slots := 0, locals := 22 } : Room) G x ar [.ref x, .int (d0)] N F B (fun r N' F' B' => MA r N' F' B' (kPass d0) (nI (N 0 + ix d0)) (va_up N 0 (N 0 + ix d0)) (F) (B) N F B) := by
  refine MMet.of (by decide) (Nat.le_of_ble_eq_true rfl) ?_
  intro p e s m args below meth c A ls X hr hlocks h hl
  have hl : lv_has ls 2 [(0, .ref x), (1, .int (d0))] := hl
  have hn := hI.n
  refine lv_aload_n X.1 X.2.1 dX7_pass_0 rfl (lv_at hl 0 rfl) ?_
  refine lv_iload_n X.1 X.2.1 dX7_pass_1 rfl (lv_at hl 1 rfl) ?_
  refine lv_iconst (v := nI (1)) X.1 X.2.1 dX7_pass_2 (by decide) ?_
  refine lv_sipush (v := nI (400)) X.1 X.2.1 dX7_pass_3 (by decide) ?_
  refine mr_callS X h ck_X7_86 kst_X7_isIn dX7_pass_6 (As := [.int (d0), .int (nI (1)), .int (nI (400))]) (c_X7_isIn l G x ar N F B (d0) (nI (1)) (nI (400))) rfl hl rfl (Nat.le_of_ble_eq_true rfl) ⟨Nat.le_of_ble_eq_true rfl, Nat.le_of_ble_eq_true rfl⟩ ⟨Nat.le_of_ble_eq_true rfl, Nat.le_of_ble_eq_true rfl⟩ ?_
  rintro _ _ _ _ H locs ⟨rfl, rfl, rfl, rfl⟩ h
  refine lv_top (y := bI (decide (((1 : Nat) : Int) ≤ (d0).toInt ∧ (d0).toInt ≤ ((400 : Nat) : Int)))) (by rw [show (d0).toInt = (d0).toInt from rfl, show (nI (1)).toInt = ((1 : Nat) : Int) from nI_ti (by omega), show (nI (400)).toInt = ((400 : Nat) : Int) from nI_ti (by omega)]) ?_
  refine b_bool_eq (tgt := 16) X dX7_pass_9 (by decide) (fun c1 => ?_) (fun c1 => ?_)
  · skip
    have c1 := of_decide_eq_false c1
    refine lv_iconst (v := nI (1)) X.1 X.2.1 dX7_pass_16 (by decide) ?_
    refine mr_callV X h ck_X7_93 ki_X7_fails ks_X7_fails dX7_pass_17 (As := [.int (nI (1))]) (c_X7_fails l G x ar N F B 1 (by omega)) rfl hl rfl (Nat.le_of_ble_eq_true rfl) ⟨Nat.le_of_ble_eq_true rfl, Nat.le_of_ble_eq_true rfl⟩ ⟨Nat.le_of_ble_eq_true rfl, Nat.le_of_ble_eq_true rfl⟩ ?_
    rintro _ _ _ _ H locs ⟨rfl, rfl, rfl, rfl⟩ h
    refine b_bool_eq (tgt := 25) X dX7_pass_20 (by decide) (fun c2 => ?_) (fun c2 => ?_)
    · skip
      exact absurd c2 (by first | decide | omega)
    · skip
      have c2 := of_decide_eq_true c2
      refine lv_iconst (v := nI (0)) X.1 X.2.1 dX7_pass_23 (by decide) ?_
      exact mr_iret X hr hlocks h dX7_pass_24 ⟨Nat.le_of_ble_eq_true rfl, Nat.le_of_ble_eq_true rfl⟩ (MA.bad (if_neg (by omega)) (by decide))
  · skip
    have c1 := of_decide_eq_true c1
    obtain ⟨j1, hj1l, hj1, rfl⟩ := in_t 1 (n := 400) c1 (by omega)
    refine lv_iconst (v := nI (0)) X.1 X.2.1 dX7_pass_12 (by decide) ?_
    refine lv_goto (tgt := 17) X.1 X.2.1 dX7_pass_13 (by decide) ?_
    refine mr_callV X h ck_X7_93 ki_X7_fails ks_X7_fails dX7_pass_17 (As := [.int (nI (0))]) (c_X7_fails l G x ar N F B 0 (by omega)) rfl hl rfl (Nat.le_of_ble_eq_true rfl) ⟨Nat.le_of_ble_eq_true rfl, Nat.le_of_ble_eq_true rfl⟩ ⟨Nat.le_of_ble_eq_true rfl, Nat.le_of_ble_eq_true rfl⟩ ?_
    rintro _ _ _ _ H locs ⟨rfl, rfl, rfl, rfl⟩ h
    refine b_bool_eq (tgt := 25) X dX7_pass_20 (by decide) (fun c3 => ?_) (fun c3 => ?_)
    · skip
      have c3 := of_decide_eq_false c3
      refine lv_aload_n X.1 X.2.1 dX7_pass_25 rfl (lv_at hl 0 rfl) ?_
      refine lv_dup X.1 X.2.1 dX7_pass_26 rfl ?_
      refine mr_get X h kf_X7_90 (by decide) dX7_pass_27 (v := .int (nI (N 0))) rfl ?_
      refine lv_iload_n X.1 X.2.1 dX7_pass_30 rfl (lv_at hl 1 rfl) ?_
      refine lv_iadd X.1 X.2.1 dX7_pass_31 ?_
      refine lv_top (y := nI (N 0 + j1)) (nI_add _ _) ?_
      refine mr_put X h kf_X7_90 (by decide) rfl rfl dX7_pass_32 rfl (fun H locs h => ?_)
      refine lv_aload_n X.1 X.2.1 dX7_pass_35 rfl (lv_at hl 0 rfl) ?_
      refine mr_get X h kf_X7_90 (by decide) dX7_pass_36 (v := .int (nI ((N 0 + j1)))) rfl ?_
      exact mr_iret X hr hlocks h dX7_pass_39 ⟨Nat.le_of_ble_eq_true rfl, Nat.le_of_ble_eq_true rfl⟩ (MA.ok (if_pos (by rw [nI_ti (by omega)]; omega)) (by rw [ix_nI (by omega)]; try rfl) rfl (fun k h1 h2 => by rw [ix_nI (by omega)]; simp [va_up, h1, h2]) (SF.rf _) (rfl))
    · skip
      exact absurd c3 (by first | decide | omega)
set_option maxHeartbeats 4000000 in
set_option maxRecDepth 100000 in
theorem c_X7_money (l : Launch) (G : mG) (x : Nat) (ar N : Nat → Nat) (F : Nat → Nat → Nat) (B : Nat → Int32) (p0 : Int32) (hI : Iv N F) : MMet l yX7_money cX7_money 2 (some FieldType.int) ({ frames := 2, cells := 0, slots := 0, locals := 43 } : Room) G x ar [.ref x, .int (p0)] N F B (fun r N' F' B' => MA r N' F' B' (kOne (iR p0 (N 1))) (B (ix p0)) (N) (F) (B) N F B) := by
  refine MMet.of (by decide) (Nat.le_of_ble_eq_true rfl) ?_
  intro p e s m args below meth c A ls X hr hlocks h hl
  have hl : lv_has ls 2 [(0, .ref x), (1, .int (p0))] := hl
  have hn := hI.n
  refine lv_aload_n X.1 X.2.1 dX7_money_0 rfl (lv_at hl 0 rfl) ?_
  refine lv_aload_n X.1 X.2.1 dX7_money_1 rfl (lv_at hl 0 rfl) ?_
  refine lv_iload_n X.1 X.2.1 dX7_money_2 rfl (lv_at hl 1 rfl) ?_
  refine mr_callV X h ck_X7_107 ki_X7_isPlayer ks_X7_isPlayer dX7_money_3 (As := [.int (p0)]) (c_X7_isPlayer l G x ar N F B (p0) hI) rfl hl rfl (Nat.le_of_ble_eq_true rfl) ⟨Nat.le_of_ble_eq_true rfl, Nat.le_of_ble_eq_true rfl⟩ ⟨Nat.le_of_ble_eq_true rfl, Nat.le_of_ble_eq_true rfl⟩ ?_
  rintro _ _ _ _ H locs ⟨rfl, rfl, rfl, rfl⟩ h
  refine b_bool_eq (tgt := 13) X dX7_money_6 (by decide) (fun c1 => ?_) (fun c1 => ?_)
  · skip
    refine lv_iconst (v := nI (1)) X.1 X.2.1 dX7_money_13 (by decide) ?_
    refine mr_callV X h ck_X7_93 ki_X7_fails ks_X7_fails dX7_money_14 (As := [.int (nI (1))]) (c_X7_fails l G x ar N F B 1 (by omega)) rfl hl rfl (Nat.le_of_ble_eq_true rfl) ⟨Nat.le_of_ble_eq_true rfl, Nat.le_of_ble_eq_true rfl⟩ ⟨Nat.le_of_ble_eq_true rfl, Nat.le_of_ble_eq_true rfl⟩ ?_
    rintro _ _ _ _ H locs ⟨rfl, rfl, rfl, rfl⟩ h
    refine b_bool_eq (tgt := 24) X dX7_money_17 (by decide) (fun c2 => ?_) (fun c2 => ?_)
    · skip
      exact absurd c2 (by first | decide | omega)
    · skip
      have c2 := of_decide_eq_true c2
      refine lv_iconst (v := nI (0)) X.1 X.2.1 dX7_money_20 (by decide) ?_
      refine lv_goto (tgt := 30) X.1 X.2.1 dX7_money_21 (by decide) ?_
      exact mr_iret X hr hlocks h dX7_money_30 ⟨Nat.le_of_ble_eq_true rfl, Nat.le_of_ble_eq_true rfl⟩ (MA.bad (if_neg (by rw [c1]; decide)) (by decide))
  · skip
    obtain ⟨j0, hj0, rfl⟩ := iR_t c1 (by omega)
    refine lv_iconst (v := nI (0)) X.1 X.2.1 dX7_money_9 (by decide) ?_
    refine lv_goto (tgt := 14) X.1 X.2.1 dX7_money_10 (by decide) ?_
    refine mr_callV X h ck_X7_93 ki_X7_fails ks_X7_fails dX7_money_14 (As := [.int (nI (0))]) (c_X7_fails l G x ar N F B 0 (by omega)) rfl hl rfl (Nat.le_of_ble_eq_true rfl) ⟨Nat.le_of_ble_eq_true rfl, Nat.le_of_ble_eq_true rfl⟩ ⟨Nat.le_of_ble_eq_true rfl, Nat.le_of_ble_eq_true rfl⟩ ?_
    rintro _ _ _ _ H locs ⟨rfl, rfl, rfl, rfl⟩ h
    refine b_bool_eq (tgt := 24) X dX7_money_17 (by decide) (fun c3 => ?_) (fun c3 => ?_)
    · skip
      have c3 := of_decide_eq_false c3
      refine lv_aload_n X.1 X.2.1 dX7_money_24 rfl (lv_at hl 0 rfl) ?_
      refine mr_get X h kf_X7_16 (by decide) dX7_money_25 rfl ?_
      refine lv_iload_n X.1 X.2.1 dX7_money_28 rfl (lv_at hl 1 rfl) ?_
      refine mr_ald X h 4 rfl dX7_money_29 (i := j0) (v := B (j0)) rfl (by show _ < 16; omega) rfl ?_
      exact mr_iret X hr hlocks h dX7_money_30 ⟨Nat.le_of_ble_eq_true rfl, Nat.le_of_ble_eq_true rfl⟩ (MA.ok (if_pos (iR_lt hj0 (by omega))) (by rw [ix_nI (by omega)]) rfl (fun k h1 h2 => by simp [va_up, h1, h2]) (SF.rf _) rfl)
    · skip
      exact absurd c3 (by first | decide | omega)
set_option maxHeartbeats 4000000 in
set_option maxRecDepth 100000 in
theorem c_X7_pays (l : Launch) (G : mG) (x : Nat) (ar N : Nat → Nat) (F : Nat → Nat → Nat) (B : Nat → Int32) (z1 : Int32) (z2 : Int32) (z3 : Int32) (f0 : Nat) (t0 : Nat) (am : Nat) (hn : N 1 ≤ 16) (hf : f0 ≤ N 1) (ht : t0 ≤ N 1) (hz1 : z1 = nI f0 - 1) (hz2 : z2 = nI t0 - 1) (hz3 : z3 = nI am) : MMet l yX7_pays cX7_pays 4 none ({ frames := 0, cells := 0, slots := 0, locals := 0 } : Room) G x ar [.ref x, .int (z1), .int (z2), .int (z3)] N F B (fun r N' F' B' => r = none ∧ N = N' ∧ F = F' ∧ payS B f0 t0 am = B') := by
  refine MMet.of (by decide) (Nat.le_of_ble_eq_true rfl) ?_
  intro p e s m args below meth c A ls X hr hlocks h hl
  have hl : lv_has ls 4 [(0, .ref x), (1, .int (z1)), (2, .int (z2)), (3, .int (z3))] := hl
  subst hz1 hz2 hz3
  have hl : lv_has ls 4 [(0, .ref x), (1, .int (nI (f0) - 1)), (2, .int (nI (t0) - 1)), (3, .int (nI (am)))] := hl
  refine lv_iload_n X.1 X.2.1 dX7_pays_0 rfl (lv_at hl 1 rfl) ?_
  refine lv_iconst (v := nI (0) - 1) X.1 X.2.1 dX7_pays_1 (by decide) ?_
  refine b_icmp_eq (tgt := 30) X dX7_pays_2 (by decide) (a := ((f0 : Nat) : Int) - 1) (b := ((0 : Nat) : Int) - 1) (eI_ti (by omega)) (eI_ti (by omega)) (fun c1 => ?_) (fun c1 => ?_)
  · skip
    exact mr_vret X hr hlocks h dX7_pays_30 ⟨Nat.le_of_ble_eq_true rfl, Nat.le_of_ble_eq_true rfl⟩ (⟨rfl, rfl, rfl, by first | exact if_pos (by omega) | (rw [payS, if_neg (by omega)])⟩)
  · skip
    refine lv_iload_n X.1 X.2.1 dX7_pays_5 rfl (lv_at hl 2 rfl) ?_
    refine lv_iconst (v := nI (0) - 1) X.1 X.2.1 dX7_pays_6 (by decide) ?_
    refine b_icmp_eq (tgt := 30) X dX7_pays_7 (by decide) (a := ((t0 : Nat) : Int) - 1) (b := ((0 : Nat) : Int) - 1) (eI_ti (by omega)) (eI_ti (by omega)) (fun c2 => ?_) (fun c2 => ?_)
    · skip
      exact mr_vret X hr hlocks h dX7_pays_30 ⟨Nat.le_of_ble_eq_true rfl, Nat.le_of_ble_eq_true rfl⟩ (⟨rfl, rfl, rfl, by first | exact if_pos (by omega) | (rw [payS, if_neg (by omega)])⟩)
    · skip
      refine lv_aload_n X.1 X.2.1 dX7_pays_10 rfl (lv_at hl 0 rfl) ?_
      refine mr_get X h kf_X7_16 (by decide) dX7_pays_11 rfl ?_
      refine lv_iload_n X.1 X.2.1 dX7_pays_14 rfl (lv_at hl 1 rfl) ?_
      refine lv_dup2_11 X.1 X.2.1 dX7_pays_15 rfl rfl ?_
      refine mr_ald X h 4 rfl dX7_pays_16 (i := f0 - 1) (v := B (f0 - 1)) (eI_pos (by omega)) (by show _ < 16; omega) rfl ?_
      refine lv_iload_n X.1 X.2.1 dX7_pays_17 rfl (lv_at hl 3 rfl) ?_
      refine lv_isub X.1 X.2.1 dX7_pays_18 ?_
      refine mr_astB X h dX7_pays_19 (i := f0 - 1) (eI_pos (by omega)) (by show _ < 16; omega) (fun H locs h => ?_)
      refine lv_aload_n X.1 X.2.1 dX7_pays_20 rfl (lv_at hl 0 rfl) ?_
      refine mr_get X h kf_X7_16 (by decide) dX7_pays_21 rfl ?_
      refine lv_iload_n X.1 X.2.1 dX7_pays_24 rfl (lv_at hl 2 rfl) ?_
      refine lv_dup2_11 X.1 X.2.1 dX7_pays_25 rfl rfl ?_
      refine mr_ald X h 4 rfl dX7_pays_26 (i := t0 - 1) (v := (upd B (f0 - 1) ((B (f0 - 1)) - (nI (am)))) (t0 - 1)) (eI_pos (by omega)) (by show _ < 16; omega) rfl ?_
      refine lv_iload_n X.1 X.2.1 dX7_pays_27 rfl (lv_at hl 3 rfl) ?_
      refine lv_iadd X.1 X.2.1 dX7_pays_28 ?_
      refine mr_astB X h dX7_pays_29 (i := t0 - 1) (eI_pos (by omega)) (by show _ < 16; omega) (fun H locs h => ?_)
      exact mr_vret X hr hlocks h dX7_pays_30 ⟨Nat.le_of_ble_eq_true rfl, Nat.le_of_ble_eq_true rfl⟩ (⟨rfl, rfl, rfl, by first | exact if_pos (by omega) | (rw [payS, if_neg (by omega)])⟩)
set_option maxHeartbeats 4000000 in
set_option maxRecDepth 100000 in
theorem c_X7_user (l : Launch) (G : mG) (x : Nat) (ar N : Nat → Nat) (F : Nat → Nat → Nat) (B : Nat → Int32) (k0 : Nat) (hI : Iv N F) (hk : k0 < N 13) : MMet l yX7_user cX7_user 2 (some FieldType.int) ({ frames := 0, cells := 0, slots := 0, locals := 0 } : Room) G x ar [.ref x, .int (nI (k0))] N F B (fun r N' F' B' => r = some (.int (nI (userS N F k0) - 1)) ∧ N = N' ∧ F = F' ∧ B = B') := by
  refine MMet.of (by decide) (Nat.le_of_ble_eq_true rfl) ?_
  intro p e s m args below meth c A ls X hr hlocks h hl
  have hl : lv_has ls 2 [(0, .ref x), (1, .int (nI (k0)))] := hl
  have hn := hI.n
  refine lv_aload_n X.1 X.2.1 dX7_user_0 rfl (lv_at hl 0 rfl) ?_
  refine mr_get X h kf_X7_46 (by decide) dX7_user_1 rfl ?_
  refine lv_iload_n X.1 X.2.1 dX7_user_4 rfl (lv_at hl 1 rfl) ?_
  refine mr_ald X h 17 rfl dX7_user_5 (i := k0) (v := nI (F 17 (k0)) - 1) rfl (by show _ < 36; omega) rfl ?_
  have b1 := hI.k (k := k0) (by omega)
  refine lv_iconst (v := nI (0) - 1) X.1 X.2.1 dX7_user_6 (by decide) ?_
  refine b_icmp_eq (tgt := 42) X dX7_user_7 (by decide) (a := ((F 17 (k0) : Nat) : Int) - 1) (b := ((0 : Nat) : Int) - 1) (eI_ti (by omega)) (eI_ti (by omega)) (fun c2 => ?_) (fun c2 => ?_)
  · skip
    refine lv_aload_n X.1 X.2.1 dX7_user_42 rfl (lv_at hl 0 rfl) ?_
    refine mr_get X h kf_X7_46 (by decide) dX7_user_43 rfl ?_
    refine lv_iload_n X.1 X.2.1 dX7_user_46 rfl (lv_at hl 1 rfl) ?_
    refine mr_ald X h 17 rfl dX7_user_47 (i := k0) (v := nI (F 17 (k0)) - 1) rfl (by show _ < 36; omega) rfl ?_
    have b3 := hI.k (k := k0) (by omega)
    exact mr_iret X hr hlocks h dX7_user_48 ⟨Nat.le_of_ble_eq_true rfl, Nat.le_of_ble_eq_true rfl⟩ (⟨congrArg (fun z => some (Value.int (nI z - 1))) (by rw [userS]; first | rw [if_pos (by omega)] | rw [if_neg (by omega)]), rfl, rfl, rfl⟩)
  · skip
    refine lv_aload_n X.1 X.2.1 dX7_user_10 rfl (lv_at hl 0 rfl) ?_
    refine mr_get X h kf_X7_49 (by decide) dX7_user_11 rfl ?_
    refine lv_iload_n X.1 X.2.1 dX7_user_14 rfl (lv_at hl 1 rfl) ?_
    refine mr_ald X h 18 rfl dX7_user_15 (i := k0) (v := nI (F 18 (k0)) - 1) rfl (by show _ < 36; omega) rfl ?_
    refine lv_iconst (v := nI (0) - 1) X.1 X.2.1 dX7_user_16 (by decide) ?_
    refine b_icmp_eq (tgt := 42) X dX7_user_17 (by decide) (a := ((F 18 (k0) : Nat) : Int) - 1) (b := ((0 : Nat) : Int) - 1) (eI_ti (by omega)) (eI_ti (by omega)) (fun c4 => ?_) (fun c4 => ?_)
    · skip
      refine lv_aload_n X.1 X.2.1 dX7_user_42 rfl (lv_at hl 0 rfl) ?_
      refine mr_get X h kf_X7_46 (by decide) dX7_user_43 rfl ?_
      refine lv_iload_n X.1 X.2.1 dX7_user_46 rfl (lv_at hl 1 rfl) ?_
      refine mr_ald X h 17 rfl dX7_user_47 (i := k0) (v := nI (F 17 (k0)) - 1) rfl (by show _ < 36; omega) rfl ?_
      have b5 := hI.k (k := k0) (by omega)
      exact mr_iret X hr hlocks h dX7_user_48 ⟨Nat.le_of_ble_eq_true rfl, Nat.le_of_ble_eq_true rfl⟩ (⟨congrArg (fun z => some (Value.int (nI z - 1))) (by rw [userS]; first | rw [if_pos (by omega)] | rw [if_neg (by omega)]), rfl, rfl, rfl⟩)
    · skip
      refine lv_aload_n X.1 X.2.1 dX7_user_20 rfl (lv_at hl 0 rfl) ?_
      refine mr_get X h kf_X7_90 (by decide) dX7_user_21 (v := .int (nI (N 0))) rfl ?_
      refine lv_aload_n X.1 X.2.1 dX7_user_24 rfl (lv_at hl 0 rfl) ?_
      refine mr_get X h kf_X7_52 (by decide) dX7_user_25 rfl ?_
      refine lv_iload_n X.1 X.2.1 dX7_user_28 rfl (lv_at hl 1 rfl) ?_
      refine mr_ald X h 19 rfl dX7_user_29 (i := k0) (v := nI (F 19 (k0))) rfl (by show _ < 36; omega) rfl ?_
      refine b_icmp_gt (tgt := 42) X dX7_user_30 (by decide) (a := ((N 0 : Nat) : Int)) (b := ((F 19 (k0) : Nat) : Int)) (nI_ti (by omega)) (nI_ti (by omega)) (fun c6 => ?_) (fun c6 => ?_)
      · skip
        refine lv_aload_n X.1 X.2.1 dX7_user_42 rfl (lv_at hl 0 rfl) ?_
        refine mr_get X h kf_X7_46 (by decide) dX7_user_43 rfl ?_
        refine lv_iload_n X.1 X.2.1 dX7_user_46 rfl (lv_at hl 1 rfl) ?_
        refine mr_ald X h 17 rfl dX7_user_47 (i := k0) (v := nI (F 17 (k0)) - 1) rfl (by show _ < 36; omega) rfl ?_
        have b7 := hI.k (k := k0) (by omega)
        exact mr_iret X hr hlocks h dX7_user_48 ⟨Nat.le_of_ble_eq_true rfl, Nat.le_of_ble_eq_true rfl⟩ (⟨congrArg (fun z => some (Value.int (nI z - 1))) (by rw [userS]; first | rw [if_pos (by omega)] | rw [if_neg (by omega)]), rfl, rfl, rfl⟩)
      · skip
        refine lv_aload_n X.1 X.2.1 dX7_user_33 rfl (lv_at hl 0 rfl) ?_
        refine mr_get X h kf_X7_49 (by decide) dX7_user_34 rfl ?_
        refine lv_iload_n X.1 X.2.1 dX7_user_37 rfl (lv_at hl 1 rfl) ?_
        refine mr_ald X h 18 rfl dX7_user_38 (i := k0) (v := nI (F 18 (k0)) - 1) rfl (by show _ < 36; omega) rfl ?_
        refine lv_goto (tgt := 48) X.1 X.2.1 dX7_user_39 (by decide) ?_
        exact mr_iret X hr hlocks h dX7_user_48 ⟨Nat.le_of_ble_eq_true rfl, Nat.le_of_ble_eq_true rfl⟩ (⟨congrArg (fun z => some (Value.int (nI z - 1))) (by rw [userS]; first | rw [if_pos (by omega)] | rw [if_neg (by omega)]), rfl, rfl, rfl⟩)
