theorem NrT.congr {N : Nat → Nat} {F F' E : Nat → Nat → Nat} (h9 : F' 9 = F 9) (h10 : F' 10 = F 10) (h : NrT N F E) : NrT N F' E := fun r hr => by
  rw [h r hr]
  refine sumN_cong (fun m _ => ?_)
  unfold tdC
  rw [h9, h10]
theorem NrP.congr {N : Nat → Nat} {F F' P Q : Nat → Nat → Nat} (h2 : F' 2 = F 2) (h7 : F' 7 = F 7) (h8 : F' 8 = F 8) (h10 : F' 10 = F 10) (h11 : F' 11 = F 11) (h : NrP N F P Q) : NrP N F' P Q := fun s p hs hp => by
  obtain ⟨a, b⟩ := h s p hs hp
  rw [a, b]
  exact ⟨sumN_cong (fun m _ => congrFun (pts_congr h2 h7 h8 h10 h11 s p).1.symm m), sumN_cong (fun m _ => congrFun (pts_congr h2 h7 h8 h10 h11 s p).2.symm m)⟩
set_option maxHeartbeats 4000000 in
set_option maxRecDepth 100000 in
theorem c_X6_room (l : Launch) (G : mG) (x : Nat) (N : Nat → Nat) (F : Nat → Nat → Nat) (B : Nat → Int32) (M : Mem) (cs : CS G x N F B M) (m0 : Int32) (m1 : Int32) (hst : l.stackTraces = false) (hI : Iv N F) : xMet l yX6_room cX6_room 4 (some FieldType.int) ({ frames := 7, cells := 2, slots := 12, locals := 104 } : Room) G [.ref x, .int (m0), .int (m1)] M (fun r M' => kRoom m0 m1 = 0 ∧ r = some (.int (nI (tdy F (N 0) (ix m0) (N 6)))) ∧ CS G x (N) (fRoom F m0 m1) (B) M') (fun E9 M' => CS G x N F B M' ∧ ((E9 = EIO ∧ kRoom m0 m1 = 1) ∨ (E9 = EIA ∧ kRoom m0 m1 = 2))) := by
  obtain ⟨ad, E, P, Q, rfl, R, hE, hT, hP⟩ := cs
  refine xMet.of (by decide) (Nat.le_of_ble_eq_true rfl) ?_
  intro p e s m args below meth c A ls X hr hlocks hname hM hl hS hZ ht
  have hl : lv_has ls 4 [(0, .ref (ad 0 0)), (1, .int (m0)), (2, .int (m1))] := hl
  have hn := hI.n
  obtain ⟨⟨e1, e10, e2, e11, e3, e12, e6, e13⟩, x2, x3, x4⟩ := id hE
  refine lv_aload_n X.1 X.2.1 dX6_room_0 rfl (lv_at hl 0 rfl) ?_
  refine lv_iload_n X.1 X.2.1 dX6_room_1 rfl (lv_at hl 1 rfl) ?_
  refine xm_callV X hM hS hZ ck_X6_59 ki_X6_regionAt ks_X6_regionAt (ci := 7) rfl dX6_room_2 (As := [.int (m0)]) (c_X6_regionAt l G ad N F B E P Q _ R m0 hst) (R.1 0 (0) rfl) rfl hl rfl (Nat.le_of_ble_eq_true rfl) ⟨Nat.le_of_ble_eq_true rfl, Nat.le_of_ble_eq_true rfl⟩ ⟨Nat.le_of_ble_eq_true rfl, Nat.le_of_ble_eq_true rfl⟩ (fun E9 ce q9 M1 H1 locs1 hp hM1 h1 h2 h3 => x_out ht hlocks hM1 h1 h2 h3 ⟨Nat.le_of_ble_eq_true rfl, Nat.le_of_ble_eq_true rfl⟩ (by obtain ⟨rfl, h9, rfl⟩ := hp; exact ⟨⟨ad, E, P, Q, rfl, R, hE, hT, hP⟩, Or.inl ⟨rfl, by unfold kRoom; rw [if_pos h9]⟩⟩)) ?_
  rintro _ _ H locs ⟨rfl, h9, rfl⟩ hM
  obtain ⟨jm0, hjm0, rfl⟩ := iR_t h9 (by omega)
  refine lv_topv (y := .ref (ad 9 (jm0))) (by rw [ix_nI (by omega)]) ?_
  have pq1 := hI.r jm0
  have r8 := hT jm0 (by omega)
  have r9 := tdy_le F (N 0) jm0 (N 6)
  refine lv_astore_n (lv' := [(3, .ref (ad 9 (jm0))), (0, .ref (ad 0 0)), (1, .int (nI (jm0))), (2, .int (m1))]) X.1 X.2.1 dX6_room_5 rfl hl (by decide) rfl (fun ls hl => ?_)
  refine lv_iload_n X.1 X.2.1 dX6_room_6 rfl (lv_at hl 3 rfl) ?_
  refine b_if_lt (tgt := 16) X dX6_room_7 (by decide) (a := (m1).toInt) (rfl) (fun c2 => ?_) (fun c2 => ?_)
  · skip
    exact x_throw (cls := EIA) (text := "no such room") X hst hS hZ ht hlocks hM hl (by decide +kernel) (by decide) xh_67 xg_67 dX6_room_16 dX6_room_19 dX6_room_20 dX6_room_22 dX6_room_25 ⟨Nat.le_of_ble_eq_true rfl, Nat.le_of_ble_eq_true rfl⟩ ⟨Nat.le_of_ble_eq_true rfl, Nat.le_of_ble_eq_true rfl⟩ ⟨Nat.le_of_ble_eq_true rfl, Nat.le_of_ble_eq_true rfl⟩ (⟨⟨ad, E, P, Q, rfl, R, hE, hT, hP⟩, Or.inr ⟨rfl, by unfold kRoom; rw [if_neg (by rw [iR_lt hjm0 (by omega)]; decide), if_neg (by omega)]⟩⟩)
  · skip
    refine lv_iload_n X.1 X.2.1 dX6_room_10 rfl (lv_at hl 3 rfl) ?_
    refine lv_bipush (v := nI (50)) X.1 X.2.1 dX6_room_11 (by decide) ?_
    refine b_icmp_le (tgt := 26) X dX6_room_13 (by decide) (a := (m1).toInt) (b := ((50 : Nat) : Int)) (rfl) (nI_ti (by omega)) (fun c3 => ?_) (fun c3 => ?_)
    · skip
      obtain ⟨v1, hv1l, hv1, rfl⟩ := in_t 0 (x := m1) (n := 50) ⟨by omega, by omega⟩ (by omega)
      refine lv_aload_n X.1 X.2.1 dX6_room_26 rfl (lv_at hl 0 rfl) ?_
      refine lv_iload_n X.1 X.2.1 dX6_room_27 rfl (lv_at hl 3 rfl) ?_
      refine mg_putN X hM tyX2 tyX2_ok nmX2 (ci := 3) (k := 0) rfl kwX2 (by decide) kn_X6_68 rfl dX6_room_28 (R.1 9 (jm0) (show jm0 < 4 by omega)) rfl rfl (Nat.le_of_ble_eq_true rfl) (fun H locs hM => ?_)
      obtain ⟨M, hM, R⟩ : ∃ M2, mW G A s.heap M2 H locs ∧ RC G ad N (set1 F 5 (jm0) (v1)) B E P Q M2 := ⟨_, hM, R.roomA (show jm0 < 4 by omega) (v1)⟩
      refine lv_aload_n X.1 X.2.1 dX6_room_31 rfl (lv_at hl 0 rfl) ?_
      refine mg_getN X hM (ci := 3) (k := 1) rfl kwX2 (by decide) kn_X6_71 dX6_room_32 (R.1 9 (jm0) (show jm0 < 4 by omega)) (v := .int (nI (E 1 (jm0)))) (by first | rfl | simp [set1, va_up, upd]) ?_
      exact x_iret X hr hlocks hM dX6_room_35 ⟨Nat.le_of_ble_eq_true rfl, Nat.le_of_ble_eq_true rfl⟩ (⟨by unfold kRoom; rw [if_neg (by rw [iR_lt hjm0 (by omega)]; decide), if_pos ⟨by rw [nI_toInt (by omega)]; omega, by rw [nI_toInt (by omega)]; omega⟩], congrArg (fun z => some (Value.int z)) (by rw [ix_nI (by omega), ← hT jm0 (by omega)]), by unfold fRoom; rw [ix_nI (by omega), ix_nI (by omega)]; exact ⟨ad, E, P, Q, rfl, R, hE, NrT.congr rfl rfl hT, NrP.congr rfl rfl rfl rfl rfl hP⟩⟩)
    · skip
      exact x_throw (cls := EIA) (text := "no such room") X hst hS hZ ht hlocks hM hl (by decide +kernel) (by decide) xh_67 xg_67 dX6_room_16 dX6_room_19 dX6_room_20 dX6_room_22 dX6_room_25 ⟨Nat.le_of_ble_eq_true rfl, Nat.le_of_ble_eq_true rfl⟩ ⟨Nat.le_of_ble_eq_true rfl, Nat.le_of_ble_eq_true rfl⟩ ⟨Nat.le_of_ble_eq_true rfl, Nat.le_of_ble_eq_true rfl⟩ (⟨⟨ad, E, P, Q, rfl, R, hE, hT, hP⟩, Or.inr ⟨rfl, by unfold kRoom; rw [if_neg (by rw [iR_lt hjm0 (by omega)]; decide), if_neg (by omega)]⟩⟩)
set_option maxHeartbeats 4000000 in
set_option maxRecDepth 100000 in
theorem c_X6_ban (l : Launch) (G : mG) (x : Nat) (N : Nat → Nat) (F : Nat → Nat → Nat) (B : Nat → Int32) (M : Mem) (cs : CS G x N F B M) (m0 : Int32) (m1 : Int32) (hst : l.stackTraces = false) (hI : Iv N F) : xMet l yX6_ban cX6_ban 4 (some FieldType.int) ({ frames := 7, cells := 2, slots := 12, locals := 104 } : Room) G [.ref x, .int (m0), .int (m1)] M (fun r M' => kBan N m0 m1 = 0 ∧ r = some (.int (nI (N 0 + ix m1))) ∧ CS G x (N) (set1 F 3 (ix m0) (N 0 + ix m1)) (B) M') (fun E9 M' => CS G x N F B M' ∧ ((E9 = EIO ∧ kBan N m0 m1 = 1) ∨ (E9 = EIA ∧ kBan N m0 m1 = 2))) := by
  obtain ⟨ad, E, P, Q, rfl, R, hE, hT, hP⟩ := cs
  refine xMet.of (by decide) (Nat.le_of_ble_eq_true rfl) ?_
  intro p e s m args below meth c A ls X hr hlocks hname hM hl hS hZ ht
  have hl : lv_has ls 4 [(0, .ref (ad 0 0)), (1, .int (m0)), (2, .int (m1))] := hl
  have hn := hI.n
  obtain ⟨⟨e1, e10, e2, e11, e3, e12, e6, e13⟩, x2, x3, x4⟩ := id hE
  refine lv_aload_n X.1 X.2.1 dX6_ban_0 rfl (lv_at hl 0 rfl) ?_
  refine lv_iload_n X.1 X.2.1 dX6_ban_1 rfl (lv_at hl 1 rfl) ?_
  refine xm_callV X hM hS hZ ck_X6_74 ki_X6_playerAt ks_X6_playerAt (ci := 7) rfl dX6_ban_2 (As := [.int (m0)]) (c_X6_playerAt l G ad N F B E P Q _ R m0 hst (show E 0 10 ≤ 16 by omega)) (R.1 0 (0) rfl) rfl hl rfl (Nat.le_of_ble_eq_true rfl) ⟨Nat.le_of_ble_eq_true rfl, Nat.le_of_ble_eq_true rfl⟩ ⟨Nat.le_of_ble_eq_true rfl, Nat.le_of_ble_eq_true rfl⟩ (fun E9 ce q9 M1 H1 locs1 hp hM1 h1 h2 h3 => x_out ht hlocks hM1 h1 h2 h3 ⟨Nat.le_of_ble_eq_true rfl, Nat.le_of_ble_eq_true rfl⟩ (by obtain ⟨rfl, h9, rfl⟩ := hp; exact ⟨⟨ad, E, P, Q, rfl, R, hE, hT, hP⟩, Or.inl ⟨rfl, by unfold kBan; rw [if_pos (by rw [← e10]; exact h9)]⟩⟩)) ?_
  rintro _ _ H locs ⟨rfl, h9, rfl⟩ hM
  obtain ⟨jm0, hjm0, rfl⟩ := iR_t h9 (by omega)
  refine lv_topv (y := .ref (ad 1 (jm0))) (by rw [ix_nI (by omega)]) ?_
  have hjm0 : jm0 < N 1 := by omega
  have pq1 := hI.p jm0
  refine lv_astore_n (lv' := [(3, .ref (ad 1 (jm0))), (0, .ref (ad 0 0)), (1, .int (nI (jm0))), (2, .int (m1))]) X.1 X.2.1 dX6_ban_5 rfl hl (by decide) rfl (fun ls hl => ?_)
  refine lv_iload_n X.1 X.2.1 dX6_ban_6 rfl (lv_at hl 3 rfl) ?_
  refine b_if_lt (tgt := 17) X dX6_ban_7 (by decide) (a := (m1).toInt) (rfl) (fun c2 => ?_) (fun c2 => ?_)
  · skip
    exact x_throw (cls := EIA) (text := "no such days of a ban") X hst hS hZ ht hlocks hM hl (by decide +kernel) (by decide) xh_67 xg_67 dX6_ban_17 dX6_ban_20 dX6_ban_21 dX6_ban_23 dX6_ban_26 ⟨Nat.le_of_ble_eq_true rfl, Nat.le_of_ble_eq_true rfl⟩ ⟨Nat.le_of_ble_eq_true rfl, Nat.le_of_ble_eq_true rfl⟩ ⟨Nat.le_of_ble_eq_true rfl, Nat.le_of_ble_eq_true rfl⟩ (⟨⟨ad, E, P, Q, rfl, R, hE, hT, hP⟩, Or.inr ⟨rfl, by unfold kBan; rw [if_neg (by rw [iR_lt (show _ < N 1 by omega) (by omega)]; decide), if_neg (by omega)]⟩⟩)
  · skip
    refine lv_iload_n X.1 X.2.1 dX6_ban_10 rfl (lv_at hl 3 rfl) ?_
    refine lv_sipush (v := nI (1000)) X.1 X.2.1 dX6_ban_11 (by decide) ?_
    refine b_icmp_le (tgt := 27) X dX6_ban_14 (by decide) (a := (m1).toInt) (b := ((1000 : Nat) : Int)) (rfl) (nI_ti (by omega)) (fun c3 => ?_) (fun c3 => ?_)
    · skip
      obtain ⟨v1, hv1l, hv1, rfl⟩ := in_t 0 (x := m1) (n := 1000) ⟨by omega, by omega⟩ (by omega)
      refine lv_aload_n X.1 X.2.1 dX6_ban_27 rfl (lv_at hl 0 rfl) ?_
      refine lv_aload_n X.1 X.2.1 dX6_ban_28 rfl (lv_at hl 1 rfl) ?_
      refine mg_get X hM (ci := 7) (k := 8) rfl kwX6 (by decide) kf_X6_89 dX6_ban_29 (R.1 0 (0) rfl) (v := .int (nI (N 0))) rfl ?_
      refine lv_iload_n X.1 X.2.1 dX6_ban_32 rfl (lv_at hl 3 rfl) ?_
      refine lv_iadd X.1 X.2.1 dX6_ban_33 ?_
      refine lv_top (y := nI (N 0 + v1)) (nI_add _ _) ?_
      refine mg_putN X hM tyX1 tyX1_ok nmX1 (ci := 2) (k := 3) rfl kwX1 (by decide) kn_X6_167 rfl dX6_ban_34 (R.1 1 (jm0) (show jm0 < E 0 1 by omega)) rfl rfl (Nat.le_of_ble_eq_true rfl) (fun H locs hM => ?_)
      obtain ⟨M, hM, R⟩ : ∃ M2, mW G A s.heap M2 H locs ∧ RC G ad N (set1 F 3 (jm0) (N 0 + v1)) B E P Q M2 := ⟨_, hM, R.free (show jm0 < E 0 1 by omega) (N 0 + v1)⟩
      refine lv_aload_n X.1 X.2.1 dX6_ban_37 rfl (lv_at hl 0 rfl) ?_
      refine mg_getN X hM (ci := 2) (k := 3) rfl kwX1 (by decide) kn_X6_167 dX6_ban_38 (R.1 1 (jm0) (show jm0 < E 0 1 by omega)) (v := .int (nI (N 0 + v1))) (by first | rfl | simp [set1, va_up, upd]) ?_
      exact x_iret X hr hlocks hM dX6_ban_41 ⟨Nat.le_of_ble_eq_true rfl, Nat.le_of_ble_eq_true rfl⟩ (⟨by unfold kBan; rw [if_neg (by rw [iR_lt hjm0 (by omega)]; decide), if_pos ⟨by rw [nI_toInt (by omega)]; omega, by rw [nI_toInt (by omega)]; omega⟩], congrArg (fun z => some (Value.int z)) (by rw [ix_nI (by omega)]), by rw [ix_nI (by omega), ix_nI (by omega)]; exact ⟨ad, E, P, Q, rfl, R, hE, NrT.congr rfl rfl hT, NrP.congr rfl rfl rfl rfl rfl hP⟩⟩)
    · skip
      exact x_throw (cls := EIA) (text := "no such days of a ban") X hst hS hZ ht hlocks hM hl (by decide +kernel) (by decide) xh_67 xg_67 dX6_ban_17 dX6_ban_20 dX6_ban_21 dX6_ban_23 dX6_ban_26 ⟨Nat.le_of_ble_eq_true rfl, Nat.le_of_ble_eq_true rfl⟩ ⟨Nat.le_of_ble_eq_true rfl, Nat.le_of_ble_eq_true rfl⟩ ⟨Nat.le_of_ble_eq_true rfl, Nat.le_of_ble_eq_true rfl⟩ (⟨⟨ad, E, P, Q, rfl, R, hE, hT, hP⟩, Or.inr ⟨rfl, by unfold kBan; rw [if_neg (by rw [iR_lt (show _ < N 1 by omega) (by omega)]; decide), if_neg (by omega)]⟩⟩)
set_option maxHeartbeats 4000000 in
set_option maxRecDepth 100000 in
theorem c_X6_money (l : Launch) (G : mG) (x : Nat) (N : Nat → Nat) (F : Nat → Nat → Nat) (B : Nat → Int32) (M : Mem) (cs : CS G x N F B M) (m0 : Int32) (hst : l.stackTraces = false) (hI : Iv N F) : xMet l yX6_money cX6_money 2 (some FieldType.int) ({ frames := 7, cells := 1, slots := 6, locals := 104 } : Room) G [.ref x, .int (m0)] M (fun r M' => kOne (iR m0 (N 1)) = 0 ∧ r = some (.int (B (ix m0))) ∧ CS G x (N) (F) (B) M') (fun E9 M' => CS G x N F B M' ∧ ((E9 = EIO ∧ kOne (iR m0 (N 1)) = 1))) := by
  obtain ⟨ad, E, P, Q, rfl, R, hE, hT, hP⟩ := cs
  refine xMet.of (by decide) (Nat.le_of_ble_eq_true rfl) ?_
  intro p e s m args below meth c A ls X hr hlocks hname hM hl hS hZ ht
  have hl : lv_has ls 2 [(0, .ref (ad 0 0)), (1, .int (m0))] := hl
  have hn := hI.n
  obtain ⟨⟨e1, e10, e2, e11, e3, e12, e6, e13⟩, x2, x3, x4⟩ := id hE
  refine lv_aload_n X.1 X.2.1 dX6_money_0 rfl (lv_at hl 0 rfl) ?_
  refine lv_iload_n X.1 X.2.1 dX6_money_1 rfl (lv_at hl 1 rfl) ?_
  refine xm_callV X hM hS hZ ck_X6_74 ki_X6_playerAt ks_X6_playerAt (ci := 7) rfl dX6_money_2 (As := [.int (m0)]) (c_X6_playerAt l G ad N F B E P Q _ R m0 hst (show E 0 10 ≤ 16 by omega)) (R.1 0 (0) rfl) rfl hl rfl (Nat.le_of_ble_eq_true rfl) ⟨Nat.le_of_ble_eq_true rfl, Nat.le_of_ble_eq_true rfl⟩ ⟨Nat.le_of_ble_eq_true rfl, Nat.le_of_ble_eq_true rfl⟩ (fun E9 ce q9 M1 H1 locs1 hp hM1 h1 h2 h3 => x_out ht hlocks hM1 h1 h2 h3 ⟨Nat.le_of_ble_eq_true rfl, Nat.le_of_ble_eq_true rfl⟩ (by obtain ⟨rfl, h9, rfl⟩ := hp; exact ⟨⟨ad, E, P, Q, rfl, R, hE, hT, hP⟩, ⟨rfl, by unfold kOne; rw [if_neg (by rw [← e10, h9]; decide)]⟩⟩)) ?_
  rintro _ _ H locs ⟨rfl, h9, rfl⟩ hM
  obtain ⟨jm0, hjm0, rfl⟩ := iR_t h9 (by omega)
  refine lv_topv (y := .ref (ad 1 (jm0))) (by rw [ix_nI (by omega)]) ?_
  have hjm0 : jm0 < N 1 := by omega
  have pq1 := hI.p jm0
  refine mg_getN X hM (ci := 2) (k := 1) rfl kwX1 (by decide) kn_X6_220 dX6_money_5 (R.1 1 (jm0) (show jm0 < E 0 1 by omega)) (v := .int (B (jm0))) rfl ?_
  exact x_iret X hr hlocks hM dX6_money_8 ⟨Nat.le_of_ble_eq_true rfl, Nat.le_of_ble_eq_true rfl⟩ (⟨by unfold kOne; rw [if_pos (iR_lt (show _ < N 1 by omega) (by omega))], congrArg (fun z => some (Value.int z)) (by rw [ix_nI (by omega)]), by exact ⟨ad, E, P, Q, rfl, R, hE, NrT.congr rfl rfl hT, NrP.congr rfl rfl rfl rfl rfl hP⟩⟩)
set_option maxHeartbeats 4000000 in
set_option maxRecDepth 100000 in
theorem c_X6_stands (l : Launch) (G : mG) (x : Nat) (N : Nat → Nat) (F : Nat → Nat → Nat) (B : Nat → Int32) (M : Mem) (cs : CS G x N F B M) (m0 : Int32) (hst : l.stackTraces = false) (hI : Iv N F) : xMet l yX6_stands cX6_stands 2 (some FieldType.boolean) ({ frames := 7, cells := 1, slots := 6, locals := 104 } : Room) G [.ref x, .int (m0)] M (fun r M' => kOne (iR m0 (N 6)) = 0 ∧ r = some (.int (bI (goodS F (ix m0)))) ∧ CS G x (N) (F) (B) M') (fun E9 M' => CS G x N F B M' ∧ ((E9 = EIO ∧ kOne (iR m0 (N 6)) = 1))) := by
  obtain ⟨ad, E, P, Q, rfl, R, hE, hT, hP⟩ := cs
  refine xMet.of (by decide) (Nat.le_of_ble_eq_true rfl) ?_
  intro p e s m args below meth c A ls X hr hlocks hname hM hl hS hZ ht
  have hl : lv_has ls 2 [(0, .ref (ad 0 0)), (1, .int (m0))] := hl
  have hn := hI.n
  obtain ⟨⟨e1, e10, e2, e11, e3, e12, e6, e13⟩, x2, x3, x4⟩ := id hE
  refine lv_aload_n X.1 X.2.1 dX6_stands_0 rfl (lv_at hl 0 rfl) ?_
  refine lv_iload_n X.1 X.2.1 dX6_stands_1 rfl (lv_at hl 1 rfl) ?_
  refine xm_callV X hM hS hZ ck_X6_172 ki_X6_matchAt ks_X6_matchAt (ci := 7) rfl dX6_stands_2 (As := [.int (m0)]) (c_X6_matchAt l G ad N F B E P Q _ R m0 hst (show E 0 11 ≤ 100 by omega)) (R.1 0 (0) rfl) rfl hl rfl (Nat.le_of_ble_eq_true rfl) ⟨Nat.le_of_ble_eq_true rfl, Nat.le_of_ble_eq_true rfl⟩ ⟨Nat.le_of_ble_eq_true rfl, Nat.le_of_ble_eq_true rfl⟩ (fun E9 ce q9 M1 H1 locs1 hp hM1 h1 h2 h3 => x_out ht hlocks hM1 h1 h2 h3 ⟨Nat.le_of_ble_eq_true rfl, Nat.le_of_ble_eq_true rfl⟩ (by obtain ⟨rfl, h9, rfl⟩ := hp; exact ⟨⟨ad, E, P, Q, rfl, R, hE, hT, hP⟩, ⟨rfl, by unfold kOne; rw [if_neg (by rw [← e11, h9]; decide)]⟩⟩)) ?_
  rintro _ _ H locs ⟨rfl, h9, rfl⟩ hM
  obtain ⟨jm0, hjm0, rfl⟩ := iR_t h9 (by omega)
  refine lv_topv (y := .ref (ad 2 (jm0))) (by rw [ix_nI (by omega)]) ?_
  have hjm0 : jm0 < N 6 := by omega
  have m9 := hI.m (m := jm0) (by omega)
  have mp := hI.p (F 7 jm0)
  refine m_callVN X hM ckN_X6_176 ki_X0_isStanding ks_X0_isStanding (ci := 1) rfl dX6_stands_5 (As := []) (c_X0_isStanding l G ad N F B E P Q _ R jm0 (show _ < E 0 2 by omega) (show _ < E 0 1 by omega) (by omega) (by omega)) (R.1 2 (jm0) (show jm0 < E 0 2 by omega)) rfl hl rfl (Nat.le_of_ble_eq_true rfl) ⟨Nat.le_of_ble_eq_true rfl, Nat.le_of_ble_eq_true rfl⟩ ⟨Nat.le_of_ble_eq_true rfl, Nat.le_of_ble_eq_true rfl⟩ ?_
  rintro _ _ H locs ⟨rfl, rfl⟩ hM
  exact x_zret X hr hlocks hM dX6_stands_8 ⟨Nat.le_of_ble_eq_true rfl, Nat.le_of_ble_eq_true rfl⟩ (bI_nar _) (⟨by unfold kOne; rw [if_pos (iR_lt (show _ < N 6 by omega) (by omega))], congrArg (fun z => some (Value.int z)) (by rw [ix_nI (by omega)]), by exact ⟨ad, E, P, Q, rfl, R, hE, NrT.congr rfl rfl hT, NrP.congr rfl rfl rfl rfl rfl hP⟩⟩)
