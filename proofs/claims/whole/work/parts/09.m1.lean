set_option maxHeartbeats 4000000 in
set_option maxRecDepth 100000 in
theorem c_X7_thrown (l : Launch) (G : mG) (x : Nat) (ar N : Nat → Nat) (F : Nat → Nat → Nat) (B : Nat → Int32)   : MMet l yX7_thrown cX7_thrown 1 (some FieldType.int) ({ frames := 0, cells := 0, slots := 0, locals := 0 } : Room) G x ar [.ref x] N F B (fun r N' F' B' => r = some (.int (nI (N 29))) ∧ N = N' ∧ F = F' ∧ B = B') := by
  refine MMet.of (by decide) (Nat.le_of_ble_eq_true rfl) ?_
  intro p e s m args below meth c A ls X hr hlocks h hl
  have hl : lv_has ls 1 [(0, .ref x)] := hl
  refine lv_aload_n X.1 X.2.1 dX7_thrown_0 rfl (lv_at hl 0 rfl) ?_
  refine mr_get X h kf_X7_79 (by decide) dX7_thrown_1 (v := .int (nI (N 29))) rfl ?_
  exact mr_iret X hr hlocks h dX7_thrown_4 ⟨Nat.le_of_ble_eq_true rfl, Nat.le_of_ble_eq_true rfl⟩ (⟨rfl, rfl, rfl, rfl⟩)
set_option maxHeartbeats 4000000 in
set_option maxRecDepth 100000 in
theorem c_X7_fails (l : Launch) (G : mG) (x : Nat) (ar N : Nat → Nat) (F : Nat → Nat → Nat) (B : Nat → Int32) (w0 : Nat) (hw : w0 < 2 ^ 31) : MMet l yX7_fails cX7_fails 2 (some FieldType.boolean) ({ frames := 0, cells := 0, slots := 0, locals := 0 } : Room) G x ar [.ref x, .int (nI (w0))] N F B (fun r N' F' B' => r = some (.int (bI (decide (0 < w0)))) ∧ va_up N 29 w0 = N' ∧ F = F' ∧ B = B') := by
  refine MMet.of (by decide) (Nat.le_of_ble_eq_true rfl) ?_
  intro p e s m args below meth c A ls X hr hlocks h hl
  have hl : lv_has ls 2 [(0, .ref x), (1, .int (nI (w0)))] := hl
  refine lv_aload_n X.1 X.2.1 dX7_fails_0 rfl (lv_at hl 0 rfl) ?_
  refine lv_iload_n X.1 X.2.1 dX7_fails_1 rfl (lv_at hl 1 rfl) ?_
  refine mr_put X h kf_X7_79 (by decide) rfl rfl dX7_fails_2 rfl (fun H locs h => ?_)
  refine lv_iload_n X.1 X.2.1 dX7_fails_5 rfl (lv_at hl 1 rfl) ?_
  refine b_if_le (tgt := 13) X dX7_fails_6 (by decide) (a := ((w0 : Nat) : Int)) (nI_ti (by omega)) (fun c1 => ?_) (fun c1 => ?_)
  · skip
    refine lv_iconst (v := nI (0)) X.1 X.2.1 dX7_fails_13 (by decide) ?_
    exact mr_zret X hr hlocks h dX7_fails_14 ⟨Nat.le_of_ble_eq_true rfl, Nat.le_of_ble_eq_true rfl⟩ (rfl) (⟨congrArg (fun z => some (Value.int z)) (by first | exact bI_dec (by omega) | exact bI_decN (by omega)), rfl, rfl, rfl⟩)
  · skip
    refine lv_iconst (v := nI (1)) X.1 X.2.1 dX7_fails_9 (by decide) ?_
    refine lv_goto (tgt := 14) X.1 X.2.1 dX7_fails_10 (by decide) ?_
    exact mr_zret X hr hlocks h dX7_fails_14 ⟨Nat.le_of_ble_eq_true rfl, Nat.le_of_ble_eq_true rfl⟩ (rfl) (⟨congrArg (fun z => some (Value.int z)) (by first | exact bI_dec (by omega) | exact bI_decN (by omega)), rfl, rfl, rfl⟩)
set_option maxHeartbeats 4000000 in
set_option maxRecDepth 100000 in
theorem c_X7_isIn (l : Launch) (G : mG) (x : Nat) (ar N : Nat → Nat) (F : Nat → Nat → Nat) (B : Nat → Int32) (v0 : Int32) (v1 : Int32) (v2 : Int32)  : MMet l yX7_isIn cX7_isIn 3 (some FieldType.boolean) ({ frames := 0, cells := 0, slots := 0, locals := 0 } : Room) G x ar [.int (v0), .int (v1), .int (v2)] N F B (fun r N' F' B' => r = some (.int (bI (decide (v1.toInt ≤ v0.toInt ∧ v0.toInt ≤ v2.toInt)))) ∧ N = N' ∧ F = F' ∧ B = B') := by
  refine MMet.of (by decide) (Nat.le_of_ble_eq_true rfl) ?_
  intro p e s m args below meth c A ls X hr hlocks h hl
  have hl : lv_has ls 3 [(0, .int (v0)), (1, .int (v1)), (2, .int (v2))] := hl
  refine lv_iload_n X.1 X.2.1 dX7_isIn_0 rfl (lv_at hl 0 rfl) ?_
  refine lv_iload_n X.1 X.2.1 dX7_isIn_1 rfl (lv_at hl 1 rfl) ?_
  refine b_icmp_lt (tgt := 14) X dX7_isIn_2 (by decide) (a := (v0).toInt) (b := (v1).toInt) (rfl) (rfl) (fun c1 => ?_) (fun c1 => ?_)
  · skip
    refine lv_iconst (v := nI (0)) X.1 X.2.1 dX7_isIn_14 (by decide) ?_
    exact mr_zret X hr hlocks h dX7_isIn_15 ⟨Nat.le_of_ble_eq_true rfl, Nat.le_of_ble_eq_true rfl⟩ (rfl) (⟨congrArg (fun z => some (Value.int z)) (by first | exact bI_dec (by omega) | exact bI_decN (by omega)), rfl, rfl, rfl⟩)
  · skip
    refine lv_iload_n X.1 X.2.1 dX7_isIn_5 rfl (lv_at hl 0 rfl) ?_
    refine lv_iload_n X.1 X.2.1 dX7_isIn_6 rfl (lv_at hl 2 rfl) ?_
    refine b_icmp_gt (tgt := 14) X dX7_isIn_7 (by decide) (a := (v0).toInt) (b := (v2).toInt) (rfl) (rfl) (fun c2 => ?_) (fun c2 => ?_)
    · skip
      refine lv_iconst (v := nI (0)) X.1 X.2.1 dX7_isIn_14 (by decide) ?_
      exact mr_zret X hr hlocks h dX7_isIn_15 ⟨Nat.le_of_ble_eq_true rfl, Nat.le_of_ble_eq_true rfl⟩ (rfl) (⟨congrArg (fun z => some (Value.int z)) (by first | exact bI_dec (by omega) | exact bI_decN (by omega)), rfl, rfl, rfl⟩)
    · skip
      refine lv_iconst (v := nI (1)) X.1 X.2.1 dX7_isIn_10 (by decide) ?_
      refine lv_goto (tgt := 15) X.1 X.2.1 dX7_isIn_11 (by decide) ?_
      exact mr_zret X hr hlocks h dX7_isIn_15 ⟨Nat.le_of_ble_eq_true rfl, Nat.le_of_ble_eq_true rfl⟩ (rfl) (⟨congrArg (fun z => some (Value.int z)) (by first | exact bI_dec (by omega) | exact bI_decN (by omega)), rfl, rfl, rfl⟩)
set_option maxHeartbeats 4000000 in
set_option maxRecDepth 100000 in
theorem c_X7_isPlayer (l : Launch) (G : mG) (x : Nat) (ar N : Nat → Nat) (F : Nat → Nat → Nat) (B : Nat → Int32) (p0 : Int32) (hI : Iv N F) : MMet l yX7_isPlayer cX7_isPlayer 2 (some FieldType.boolean) ({ frames := 1, cells := 0, slots := 0, locals := 22 } : Room) G x ar [.ref x, .int (p0)] N F B (fun r N' F' B' => r = some (.int (bI (iR p0 (N 1)))) ∧ N = N' ∧ F = F' ∧ B = B') := by
  refine MMet.of (by decide) (Nat.le_of_ble_eq_true rfl) ?_
  intro p e s m args below meth c A ls X hr hlocks h hl
  have hl : lv_has ls 2 [(0, .ref x), (1, .int (p0))] := hl
  have hn := hI.n
  refine lv_iload_n X.1 X.2.1 dX7_isPlayer_0 rfl (lv_at hl 1 rfl) ?_
  refine lv_iconst (v := nI (0)) X.1 X.2.1 dX7_isPlayer_1 (by decide) ?_
  refine lv_aload_n X.1 X.2.1 dX7_isPlayer_2 rfl (lv_at hl 0 rfl) ?_
  refine mr_get X h kf_X7_83 (by decide) dX7_isPlayer_3 (v := .int (nI (N 1))) rfl ?_
  refine lv_iconst (v := nI (1)) X.1 X.2.1 dX7_isPlayer_6 (by decide) ?_
  refine lv_isub X.1 X.2.1 dX7_isPlayer_7 ?_
  refine lv_top (y := nI (N 1) - 1) rfl ?_
  refine mr_callS X h ck_X7_86 kst_X7_isIn dX7_isPlayer_8 (As := [.int (p0), .int (nI (0)), .int (nI (N 1) - 1)]) (c_X7_isIn l G x ar N F B (p0) (nI (0)) (nI (N 1) - 1)) rfl hl rfl (Nat.le_of_ble_eq_true rfl) ⟨Nat.le_of_ble_eq_true rfl, Nat.le_of_ble_eq_true rfl⟩ ⟨Nat.le_of_ble_eq_true rfl, Nat.le_of_ble_eq_true rfl⟩ ?_
  rintro _ _ _ _ H locs ⟨rfl, rfl, rfl, rfl⟩ h
  refine lv_top (y := bI (decide (((0 : Nat) : Int) ≤ (p0).toInt ∧ (p0).toInt ≤ ((N 1 : Nat) : Int) - 1))) (by rw [show (p0).toInt = (p0).toInt from rfl, show (nI (0)).toInt = ((0 : Nat) : Int) from nI_ti (by omega), show (nI (N 1) - 1).toInt = ((N 1 : Nat) : Int) - 1 from eI_ti (by omega)]) ?_
  exact mr_zret X hr hlocks h dX7_isPlayer_11 ⟨Nat.le_of_ble_eq_true rfl, Nat.le_of_ble_eq_true rfl⟩ (bI_nar _) (⟨congrArg (fun z => some (Value.int (bI z))) (decide_eq_decide.mpr ⟨fun q => by omega, fun q => by omega⟩), rfl, rfl, rfl⟩)
set_option maxHeartbeats 4000000 in
set_option maxRecDepth 100000 in
theorem c_X7_isBanned (l : Launch) (G : mG) (x : Nat) (ar N : Nat → Nat) (F : Nat → Nat → Nat) (B : Nat → Int32) (p0 : Nat) (hI : Iv N F) (hp : p0 < N 1) : MMet l yX7_isBanned cX7_isBanned 2 (some FieldType.boolean) ({ frames := 0, cells := 0, slots := 0, locals := 0 } : Room) G x ar [.ref x, .int (nI (p0))] N F B (fun r N' F' B' => r = some (.int (bI (decide (N 0 < F 3 p0)))) ∧ N = N' ∧ F = F' ∧ B = B') := by
  refine MMet.of (by decide) (Nat.le_of_ble_eq_true rfl) ?_
  intro p e s m args below meth c A ls X hr hlocks h hl
  have hl : lv_has ls 2 [(0, .ref x), (1, .int (nI (p0)))] := hl
  have hn := hI.n
  refine lv_aload_n X.1 X.2.1 dX7_isBanned_0 rfl (lv_at hl 0 rfl) ?_
  refine mr_get X h kf_X7_90 (by decide) dX7_isBanned_1 (v := .int (nI (N 0))) rfl ?_
  refine lv_aload_n X.1 X.2.1 dX7_isBanned_4 rfl (lv_at hl 0 rfl) ?_
  refine mr_get X h kf_X7_13 (by decide) dX7_isBanned_5 rfl ?_
  refine lv_iload_n X.1 X.2.1 dX7_isBanned_8 rfl (lv_at hl 1 rfl) ?_
  refine mr_ald X h 3 rfl dX7_isBanned_9 (i := p0) (v := nI (F 3 (p0))) rfl (by show _ < 16; omega) rfl ?_
  have b1 := hI.p p0
  refine b_icmp_ge (tgt := 17) X dX7_isBanned_10 (by decide) (a := ((N 0 : Nat) : Int)) (b := ((F 3 (p0) : Nat) : Int)) (nI_ti (by omega)) (nI_ti (by omega)) (fun c2 => ?_) (fun c2 => ?_)
  · skip
    refine lv_iconst (v := nI (0)) X.1 X.2.1 dX7_isBanned_17 (by decide) ?_
    exact mr_zret X hr hlocks h dX7_isBanned_18 ⟨Nat.le_of_ble_eq_true rfl, Nat.le_of_ble_eq_true rfl⟩ (rfl) (⟨congrArg (fun z => some (Value.int z)) (by first | exact bI_dec (by omega) | exact bI_decN (by omega)), rfl, rfl, rfl⟩)
  · skip
    refine lv_iconst (v := nI (1)) X.1 X.2.1 dX7_isBanned_13 (by decide) ?_
    refine lv_goto (tgt := 18) X.1 X.2.1 dX7_isBanned_14 (by decide) ?_
    exact mr_zret X hr hlocks h dX7_isBanned_18 ⟨Nat.le_of_ble_eq_true rfl, Nat.le_of_ble_eq_true rfl⟩ (rfl) (⟨congrArg (fun z => some (Value.int z)) (by first | exact bI_dec (by omega) | exact bI_decN (by omega)), rfl, rfl, rfl⟩)
set_option maxHeartbeats 4000000 in
set_option maxRecDepth 100000 in
theorem c_X7_isRegion (l : Launch) (G : mG) (x : Nat) (ar N : Nat → Nat) (F : Nat → Nat → Nat) (B : Nat → Int32) (p0 : Int32)  : MMet l yX7_isRegion cX7_isRegion 1 (some FieldType.boolean) ({ frames := 1, cells := 0, slots := 0, locals := 22 } : Room) G x ar [.int (p0)] N F B (fun r N' F' B' => r = some (.int (bI (iR p0 4))) ∧ N = N' ∧ F = F' ∧ B = B') := by
  refine MMet.of (by decide) (Nat.le_of_ble_eq_true rfl) ?_
  intro p e s m args below meth c A ls X hr hlocks h hl
  have hl : lv_has ls 1 [(0, .int (p0))] := hl
  refine lv_iload_n X.1 X.2.1 dX7_isRegion_0 rfl (lv_at hl 0 rfl) ?_
  refine lv_iconst (v := nI (0)) X.1 X.2.1 dX7_isRegion_1 (by decide) ?_
  refine lv_iconst (v := nI (3)) X.1 X.2.1 dX7_isRegion_2 (by decide) ?_
  refine mr_callS X h ck_X7_86 kst_X7_isIn dX7_isRegion_3 (As := [.int (p0), .int (nI (0)), .int (nI (3))]) (c_X7_isIn l G x ar N F B (p0) (nI (0)) (nI (3))) rfl hl rfl (Nat.le_of_ble_eq_true rfl) ⟨Nat.le_of_ble_eq_true rfl, Nat.le_of_ble_eq_true rfl⟩ ⟨Nat.le_of_ble_eq_true rfl, Nat.le_of_ble_eq_true rfl⟩ ?_
  rintro _ _ _ _ H locs ⟨rfl, rfl, rfl, rfl⟩ h
  refine lv_top (y := bI (decide (((0 : Nat) : Int) ≤ (p0).toInt ∧ (p0).toInt ≤ ((3 : Nat) : Int)))) (by rw [show (p0).toInt = (p0).toInt from rfl, show (nI (0)).toInt = ((0 : Nat) : Int) from nI_ti (by omega), show (nI (3)).toInt = ((3 : Nat) : Int) from nI_ti (by omega)]) ?_
  exact mr_zret X hr hlocks h dX7_isRegion_6 ⟨Nat.le_of_ble_eq_true rfl, Nat.le_of_ble_eq_true rfl⟩ (bI_nar _) (⟨congrArg (fun z => some (Value.int (bI z))) (decide_eq_decide.mpr ⟨fun q => by omega, fun q => by omega⟩), rfl, rfl, rfl⟩)
set_option maxHeartbeats 4000000 in
set_option maxRecDepth 100000 in
theorem c_X7_isSkin (l : Launch) (G : mG) (x : Nat) (ar N : Nat → Nat) (F : Nat → Nat → Nat) (B : Nat → Int32) (p0 : Int32) (hI : Iv N F) : MMet l yX7_isSkin cX7_isSkin 2 (some FieldType.boolean) ({ frames := 1, cells := 0, slots := 0, locals := 22 } : Room) G x ar [.ref x, .int (p0)] N F B (fun r N' F' B' => r = some (.int (bI (iR p0 (N 13)))) ∧ N = N' ∧ F = F' ∧ B = B') := by
  refine MMet.of (by decide) (Nat.le_of_ble_eq_true rfl) ?_
  intro p e s m args below meth c A ls X hr hlocks h hl
  have hl : lv_has ls 2 [(0, .ref x), (1, .int (p0))] := hl
  have hn := hI.n
  refine lv_iload_n X.1 X.2.1 dX7_isSkin_0 rfl (lv_at hl 1 rfl) ?_
  refine lv_iconst (v := nI (0)) X.1 X.2.1 dX7_isSkin_1 (by decide) ?_
  refine lv_aload_n X.1 X.2.1 dX7_isSkin_2 rfl (lv_at hl 0 rfl) ?_
  refine mr_get X h kf_X7_133 (by decide) dX7_isSkin_3 (v := .int (nI (N 13))) rfl ?_
  refine lv_iconst (v := nI (1)) X.1 X.2.1 dX7_isSkin_6 (by decide) ?_
  refine lv_isub X.1 X.2.1 dX7_isSkin_7 ?_
  refine lv_top (y := nI (N 13) - 1) rfl ?_
  refine mr_callS X h ck_X7_86 kst_X7_isIn dX7_isSkin_8 (As := [.int (p0), .int (nI (0)), .int (nI (N 13) - 1)]) (c_X7_isIn l G x ar N F B (p0) (nI (0)) (nI (N 13) - 1)) rfl hl rfl (Nat.le_of_ble_eq_true rfl) ⟨Nat.le_of_ble_eq_true rfl, Nat.le_of_ble_eq_true rfl⟩ ⟨Nat.le_of_ble_eq_true rfl, Nat.le_of_ble_eq_true rfl⟩ ?_
  rintro _ _ _ _ H locs ⟨rfl, rfl, rfl, rfl⟩ h
  refine lv_top (y := bI (decide (((0 : Nat) : Int) ≤ (p0).toInt ∧ (p0).toInt ≤ ((N 13 : Nat) : Int) - 1))) (by rw [show (p0).toInt = (p0).toInt from rfl, show (nI (0)).toInt = ((0 : Nat) : Int) from nI_ti (by omega), show (nI (N 13) - 1).toInt = ((N 13 : Nat) : Int) - 1 from eI_ti (by omega)]) ?_
  exact mr_zret X hr hlocks h dX7_isSkin_11 ⟨Nat.le_of_ble_eq_true rfl, Nat.le_of_ble_eq_true rfl⟩ (bI_nar _) (⟨congrArg (fun z => some (Value.int (bI z))) (decide_eq_decide.mpr ⟨fun q => by omega, fun q => by omega⟩), rfl, rfl, rfl⟩)
set_option maxHeartbeats 4000000 in
set_option maxRecDepth 100000 in
theorem c_X7_isGood (l : Launch) (G : mG) (x : Nat) (ar N : Nat → Nat) (F : Nat → Nat → Nat) (B : Nat → Int32) (m0 : Nat) (hI : Iv N F) (hm : m0 < N 6) : MMet l yX7_isGood cX7_isGood 3 (some FieldType.boolean) ({ frames := 0, cells := 0, slots := 0, locals := 0 } : Room) G x ar [.ref x, .int (nI (m0))] N F B (fun r N' F' B' => r = some (.int (bI (goodS F m0))) ∧ N = N' ∧ F = F' ∧ B = B') := by
  refine MMet.of (by decide) (Nat.le_of_ble_eq_true rfl) ?_
  intro p e s m args below meth c A ls X hr hlocks h hl
  have hl : lv_has ls 3 [(0, .ref x), (1, .int (nI (m0)))] := hl
  have hn := hI.n
  refine lv_aload_n X.1 X.2.1 dX7_isGood_0 rfl (lv_at hl 0 rfl) ?_
  refine mr_get X h kf_X7_7 (by decide) dX7_isGood_1 rfl ?_
  refine lv_aload_n X.1 X.2.1 dX7_isGood_4 rfl (lv_at hl 0 rfl) ?_
  refine mr_get X h kf_X7_22 (by decide) dX7_isGood_5 rfl ?_
  refine lv_iload_n X.1 X.2.1 dX7_isGood_8 rfl (lv_at hl 1 rfl) ?_
  refine mr_ald X h 7 rfl dX7_isGood_9 (i := m0) (v := nI (F 7 (m0))) rfl (by show _ < 100; omega) rfl ?_
  have b1 := hI.m (m := m0) (by omega)
  refine mr_ald X h 2 rfl dX7_isGood_10 (i := F 7 (m0)) (v := nI (F 2 (F 7 (m0))) - 1) rfl (by show _ < 16; omega) rfl ?_
  have b2 := hI.p (F 7 (m0))
  refine lv_istore_n (lv' := [(2, .int (nI (F 2 (F 7 (m0))) - 1)), (0, .ref x), (1, .int (nI (m0)))]) X.1 X.2.1 dX7_isGood_11 rfl hl (by decide) rfl (fun ls hl => ?_)
  refine lv_iload_n X.1 X.2.1 dX7_isGood_12 rfl (lv_at hl 0 rfl) ?_
  refine lv_iconst (v := nI (0) - 1) X.1 X.2.1 dX7_isGood_13 (by decide) ?_
  refine b_icmp_eq (tgt := 27) X dX7_isGood_14 (by decide) (a := ((F 2 (F 7 (m0)) : Nat) : Int) - 1) (b := ((0 : Nat) : Int) - 1) (eI_ti (by omega)) (eI_ti (by omega)) (fun c3 => ?_) (fun c3 => ?_)
  · skip
    refine lv_iconst (v := nI (1)) X.1 X.2.1 dX7_isGood_27 (by decide) ?_
    refine lv_goto (tgt := 32) X.1 X.2.1 dX7_isGood_28 (by decide) ?_
    exact mr_zret X hr hlocks h dX7_isGood_32 ⟨Nat.le_of_ble_eq_true rfl, Nat.le_of_ble_eq_true rfl⟩ (rfl) (⟨congrArg (fun z => some (Value.int z)) (by first | exact bI_dec (by omega) | exact bI_decN (by omega)), rfl, rfl, rfl⟩)
  · skip
    refine lv_iload_n X.1 X.2.1 dX7_isGood_17 rfl (lv_at hl 0 rfl) ?_
    refine lv_aload_n X.1 X.2.1 dX7_isGood_18 rfl (lv_at hl 1 rfl) ?_
    refine mr_get X h kf_X7_31 (by decide) dX7_isGood_19 rfl ?_
    refine lv_iload_n X.1 X.2.1 dX7_isGood_22 rfl (lv_at hl 2 rfl) ?_
    refine mr_ald X h 10 rfl dX7_isGood_23 (i := m0) (v := nI (F 10 (m0))) rfl (by show _ < 100; omega) rfl ?_
    refine b_icmp_le (tgt := 31) X dX7_isGood_24 (by decide) (a := ((F 2 (F 7 (m0)) : Nat) : Int) - 1) (b := ((F 10 (m0) : Nat) : Int)) (eI_ti (by omega)) (nI_ti (by omega)) (fun c4 => ?_) (fun c4 => ?_)
    · skip
      refine lv_iconst (v := nI (0)) X.1 X.2.1 dX7_isGood_31 (by decide) ?_
      exact mr_zret X hr hlocks h dX7_isGood_32 ⟨Nat.le_of_ble_eq_true rfl, Nat.le_of_ble_eq_true rfl⟩ (rfl) (⟨congrArg (fun z => some (Value.int z)) (by first | exact bI_dec (by omega) | exact bI_decN (by omega)), rfl, rfl, rfl⟩)
    · skip
      refine lv_iconst (v := nI (1)) X.1 X.2.1 dX7_isGood_27 (by decide) ?_
      refine lv_goto (tgt := 32) X.1 X.2.1 dX7_isGood_28 (by decide) ?_
      exact mr_zret X hr hlocks h dX7_isGood_32 ⟨Nat.le_of_ble_eq_true rfl, Nat.le_of_ble_eq_true rfl⟩ (rfl) (⟨congrArg (fun z => some (Value.int z)) (by first | exact bI_dec (by omega) | exact bI_decN (by omega)), rfl, rfl, rfl⟩)
