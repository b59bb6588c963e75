/-! The law's call of the class: its answer, or the number of what it throws -/
def dV (K : Nat) (v e1 e2 e3 : Int32) : Int32 := if K = 0 then v else if K = 1 then e1 else if K = 2 then e2 else e3
set_option maxHeartbeats 4000000 in
set_option maxRecDepth 100000 in
theorem c_L_does_player (l : Launch) (G : mG) (x : Nat) (ar : Nat → Nat) (N : Nat → Nat) (F : Nat → Nat → Nat) (B : Nat → Int32) (D : LSt) (a b cz : Int32) (hst : l.stackTraces = false) (hI : Iv N F) (hJ : Jv N F B) : QLMet l yL_does cL_does 6 (some FieldType.int) hh_L_does ({ frames := 7, cells := 1, slots := 6, locals := 103 } : Room) G x ar [.ref x, .int (nI (0)), .int (a), .int (b), .int (cz)] (N, F, B) D (fun r C' D' => r = some (.int (dV (kPlayer N) (nI (N 1)) (-1000000) 0 0)) ∧ C' = (if kPlayer N = 0 then ((va_up N 1 (N 1 + 1)), (set1 F 2 (N 1) 0), (B)) else (N, F, B)) ∧ D = D') := by
  refine QLMet.of (by decide) (Nat.le_of_ble_eq_true rfl) ?_
  intro p e s m args below meth c A ls X hr hlocks hS hZ hN h hl ht
  have hl : lv_has ls 6 [(0, .ref x), (1, .int (nI (0))), (2, .int (a)), (3, .int (b)), (4, .int (cz))] := hl
  refine lv_iload_n X.1 X.2.1 dL_does_0 rfl (lv_at hl 1 rfl) ?_
  refine b_if_ne (tgt := 11) X dL_does_1 (by decide) (a := ((0 : Nat) : Int)) (nI_ti (by omega)) (fun c1 => ?_) (fun c1 => ?_)
  · skip
    exact absurd c1 (by first | decide | omega)
  · skip
    refine lv_aload_n X.1 X.2.1 dL_does_4 rfl (lv_at hl 0 rfl) ?_
    refine q_callE (C1 := ((va_up N 1 (N 1 + 1)), (set1 F 2 (N 1) 0), (B))) (v := nI (N 1)) X hS hZ h ck_L_8 ki_X6_player ks_X6_player dL_does_5 (As := []) (fun MC cs => c_X6_player l G x N F B MC cs hst hI hJ) rfl hl rfl (Nat.le_of_ble_eq_true rfl) ⟨Nat.le_of_ble_eq_true rfl, Nat.le_of_ble_eq_true rfl⟩ ⟨Nat.le_of_ble_eq_true rfl, Nat.le_of_ble_eq_true rfl⟩ (fun E9 ce q9 H locs hk h h1 h2 h3 => ?_) (fun H locs hk h => ?_)
    · skip
      obtain ⟨rfl, hk⟩ := hk
      refine l_catch X ht [(0, 225, 226, 62), (0, 225, 231, 65)] (0, 225, 236, 68) [] rfl (fun z hz => by rcases List.mem_cons.mp hz with rfl | hz; exact ⟨by decide, EIO, kclx_L_62, hN.2.1⟩; rw [List.mem_singleton.mp hz]; exact ⟨by decide, EIA, kclx_L_65, hN.2.2⟩) ⟨by decide, by decide⟩ (by decide) kclx_L_68 kca_EIS h1 h2 h3 rfl ?_
      refine lv_astore (lv' := [(5, .ref q9), (0, .ref x), (1, .int (nI (0))), (2, .int (a)), (3, .int (b)), (4, .int (cz))]) X.1 X.2.1 dL_does_236 hl (by decide) rfl (fun ls hl => ?_)
      refine lv_ldc (own := RL) (index := 70) (v := (-1000000)) X.1 X.2.1 X.2.2.2.1 (X.2.2.2.2.1.use kco_L_70) dL_does_238 ?_
      exact q_iret X hr hlocks h dL_does_240 ⟨Nat.le_of_ble_eq_true rfl, Nat.le_of_ble_eq_true rfl⟩ (⟨by rw [hk]; rfl, by rw [hk]; rfl, rfl⟩)
    · skip
      refine lv_goto (tgt := 225) X.1 X.2.1 dL_does_8 (by decide) ?_
      exact q_iret X hr hlocks h dL_does_225 ⟨Nat.le_of_ble_eq_true rfl, Nat.le_of_ble_eq_true rfl⟩ (⟨by rw [hk]; rfl, by rw [hk]; rfl, rfl⟩)
set_option maxHeartbeats 4000000 in
set_option maxRecDepth 100000 in
theorem c_L_does_room (l : Launch) (G : mG) (x : Nat) (ar : Nat → Nat) (N : Nat → Nat) (F : Nat → Nat → Nat) (B : Nat → Int32) (D : LSt) (a b cz : Int32) (hst : l.stackTraces = false) (hI : Iv N F) : QLMet l yL_does cL_does 6 (some FieldType.int) hh_L_does ({ frames := 8, cells := 2, slots := 12, locals := 127 } : Room) G x ar [.ref x, .int (nI (1)), .int (a), .int (b), .int (cz)] (N, F, B) D (fun r C' D' => r = some (.int (dV (kRoom a b) (nI (tdy F (N 0) (ix a) (N 6))) (-3000000) (-2000000) 0)) ∧ C' = (if kRoom a b = 0 then ((N), (fRoom F a b), (B)) else (N, F, B)) ∧ D = D') := by
  refine QLMet.of (by decide) (Nat.le_of_ble_eq_true rfl) ?_
  intro p e s m args below meth c A ls X hr hlocks hS hZ hN h hl ht
  have hl : lv_has ls 6 [(0, .ref x), (1, .int (nI (1))), (2, .int (a)), (3, .int (b)), (4, .int (cz))] := hl
  refine lv_iload_n X.1 X.2.1 dL_does_0 rfl (lv_at hl 1 rfl) ?_
  refine b_if_ne (tgt := 11) X dL_does_1 (by decide) (a := ((1 : Nat) : Int)) (nI_ti (by omega)) (fun c1 => ?_) (fun c1 => ?_)
  · skip
    refine lv_iload_n X.1 X.2.1 dL_does_11 rfl (lv_at hl 1 rfl) ?_
    refine lv_iconst (v := nI (1)) X.1 X.2.1 dL_does_12 (by decide) ?_
    refine b_icmp_ne (tgt := 25) X dL_does_13 (by decide) (a := ((1 : Nat) : Int)) (b := ((1 : Nat) : Int)) (nI_ti (by omega)) (nI_ti (by omega)) (fun c2 => ?_) (fun c2 => ?_)
    · skip
      exact absurd c2 (by first | decide | omega)
    · skip
      refine lv_aload_n X.1 X.2.1 dL_does_16 rfl (lv_at hl 0 rfl) ?_
      refine lv_iload_n X.1 X.2.1 dL_does_17 rfl (lv_at hl 2 rfl) ?_
      refine lv_iload_n X.1 X.2.1 dL_does_18 rfl (lv_at hl 3 rfl) ?_
      refine q_callE (C1 := ((N), (fRoom F a b), (B))) (v := nI (tdy F (N 0) (ix a) (N 6))) X hS hZ h ck_L_14 ki_X6_room ks_X6_room dL_does_19 (As := [.int (a), .int (b)]) (fun MC cs => c_X6_room l G x N F B MC cs a b hst hI) rfl hl rfl (Nat.le_of_ble_eq_true rfl) ⟨Nat.le_of_ble_eq_true rfl, Nat.le_of_ble_eq_true rfl⟩ ⟨Nat.le_of_ble_eq_true rfl, Nat.le_of_ble_eq_true rfl⟩ (fun E9 ce q9 H locs hk h h1 h2 h3 => ?_) (fun H locs hk h => ?_)
      · skip
        rcases hk with ⟨rfl, hk⟩ | ⟨rfl, hk⟩
        · skip
          refine l_catch X ht [] (0, 225, 226, 62) [(0, 225, 231, 65), (0, 225, 236, 68)] rfl (fun z hz => absurd hz List.not_mem_nil) ⟨by decide, by decide⟩ (by decide) kclx_L_62 kca_EIO h1 h2 h3 rfl ?_
          refine lv_astore (lv' := [(5, .ref q9), (0, .ref x), (1, .int (nI (1))), (2, .int (a)), (3, .int (b)), (4, .int (cz))]) X.1 X.2.1 dL_does_226 hl (by decide) rfl (fun ls hl => ?_)
          refine lv_ldc (own := RL) (index := 64) (v := (-3000000)) X.1 X.2.1 X.2.2.2.1 (X.2.2.2.2.1.use kco_L_64) dL_does_228 ?_
          exact q_iret X hr hlocks h dL_does_230 ⟨Nat.le_of_ble_eq_true rfl, Nat.le_of_ble_eq_true rfl⟩ (⟨by rw [hk]; rfl, by rw [hk]; rfl, rfl⟩)
        · skip
          refine l_catch X ht [(0, 225, 226, 62)] (0, 225, 231, 65) [(0, 225, 236, 68)] rfl (fun z hz => by rw [List.mem_singleton.mp hz]; exact ⟨by decide, EIO, kclx_L_62, hN.1⟩) ⟨by decide, by decide⟩ (by decide) kclx_L_65 kca_EIA h1 h2 h3 rfl ?_
          refine lv_astore (lv' := [(5, .ref q9), (0, .ref x), (1, .int (nI (1))), (2, .int (a)), (3, .int (b)), (4, .int (cz))]) X.1 X.2.1 dL_does_231 hl (by decide) rfl (fun ls hl => ?_)
          refine lv_ldc (own := RL) (index := 67) (v := (-2000000)) X.1 X.2.1 X.2.2.2.1 (X.2.2.2.2.1.use kco_L_67) dL_does_233 ?_
          exact q_iret X hr hlocks h dL_does_235 ⟨Nat.le_of_ble_eq_true rfl, Nat.le_of_ble_eq_true rfl⟩ (⟨by rw [hk]; rfl, by rw [hk]; rfl, rfl⟩)
      · skip
        refine lv_goto (tgt := 225) X.1 X.2.1 dL_does_22 (by decide) ?_
        exact q_iret X hr hlocks h dL_does_225 ⟨Nat.le_of_ble_eq_true rfl, Nat.le_of_ble_eq_true rfl⟩ (⟨by rw [hk]; rfl, by rw [hk]; rfl, rfl⟩)
  · skip
    exact absurd c1 (by first | decide | omega)
set_option maxHeartbeats 4000000 in
set_option maxRecDepth 100000 in
theorem c_L_does_match (l : Launch) (G : mG) (x : Nat) (ar : Nat → Nat) (N : Nat → Nat) (F : Nat → Nat → Nat) (B : Nat → Int32) (D : LSt) (a b cz : Int32) (hst : l.stackTraces = false) (hI : Iv N F) : QLMet l yL_does cL_does 6 (some FieldType.int) hh_L_does ({ frames := 8, cells := 4, slots := 24, locals := 132 } : Room) G x ar [.ref x, .int (nI (2)), .int (a), .int (b), .int (cz)] (N, F, B) D (fun r C' D' => r = some (.int (dV (kMatch N F a b cz) (nI (N 6)) (-3000000) (-2000000) (-1000000))) ∧ C' = (if kMatch N F a b cz = 0 then ((va_up N 6 (N 6 + 1)), (fMatch N F a b cz), (B)) else (N, F, B)) ∧ D = D') := by
  refine QLMet.of (by decide) (Nat.le_of_ble_eq_true rfl) ?_
  intro p e s m args below meth c A ls X hr hlocks hS hZ hN h hl ht
  have hl : lv_has ls 6 [(0, .ref x), (1, .int (nI (2))), (2, .int (a)), (3, .int (b)), (4, .int (cz))] := hl
  refine lv_iload_n X.1 X.2.1 dL_does_0 rfl (lv_at hl 1 rfl) ?_
  refine b_if_ne (tgt := 11) X dL_does_1 (by decide) (a := ((2 : Nat) : Int)) (nI_ti (by omega)) (fun c1 => ?_) (fun c1 => ?_)
  · skip
    refine lv_iload_n X.1 X.2.1 dL_does_11 rfl (lv_at hl 1 rfl) ?_
    refine lv_iconst (v := nI (1)) X.1 X.2.1 dL_does_12 (by decide) ?_
    refine b_icmp_ne (tgt := 25) X dL_does_13 (by decide) (a := ((2 : Nat) : Int)) (b := ((1 : Nat) : Int)) (nI_ti (by omega)) (nI_ti (by omega)) (fun c2 => ?_) (fun c2 => ?_)
    · skip
      refine lv_iload_n X.1 X.2.1 dL_does_25 rfl (lv_at hl 1 rfl) ?_
      refine lv_iconst (v := nI (2)) X.1 X.2.1 dL_does_26 (by decide) ?_
      refine b_icmp_ne (tgt := 41) X dL_does_27 (by decide) (a := ((2 : Nat) : Int)) (b := ((2 : Nat) : Int)) (nI_ti (by omega)) (nI_ti (by omega)) (fun c3 => ?_) (fun c3 => ?_)
      · skip
        exact absurd c3 (by first | decide | omega)
      · skip
        refine lv_aload_n X.1 X.2.1 dL_does_30 rfl (lv_at hl 0 rfl) ?_
        refine lv_iload_n X.1 X.2.1 dL_does_31 rfl (lv_at hl 2 rfl) ?_
        refine lv_iload_n X.1 X.2.1 dL_does_32 rfl (lv_at hl 3 rfl) ?_
        refine lv_iload X.1 X.2.1 dL_does_33 (lv_at hl 4 rfl) ?_
        refine q_callE (C1 := ((va_up N 6 (N 6 + 1)), (fMatch N F a b cz), (B))) (v := nI (N 6)) X hS hZ h ck_L_18 ki_X6_match ks_X6_match dL_does_35 (As := [.int (a), .int (b), .int (cz)]) (fun MC cs => c_X6_match l G x N F B MC cs a b cz hst hI) rfl hl rfl (Nat.le_of_ble_eq_true rfl) ⟨Nat.le_of_ble_eq_true rfl, Nat.le_of_ble_eq_true rfl⟩ ⟨Nat.le_of_ble_eq_true rfl, Nat.le_of_ble_eq_true rfl⟩ (fun E9 ce q9 H locs hk h h1 h2 h3 => ?_) (fun H locs hk h => ?_)
        · skip
          rcases hk with ⟨rfl, hk⟩ | ⟨rfl, hk⟩ | ⟨rfl, hk⟩
          · skip
            refine l_catch X ht [] (0, 225, 226, 62) [(0, 225, 231, 65), (0, 225, 236, 68)] rfl (fun z hz => absurd hz List.not_mem_nil) ⟨by decide, by decide⟩ (by decide) kclx_L_62 kca_EIO h1 h2 h3 rfl ?_
            refine lv_astore (lv' := [(5, .ref q9), (0, .ref x), (1, .int (nI (2))), (2, .int (a)), (3, .int (b)), (4, .int (cz))]) X.1 X.2.1 dL_does_226 hl (by decide) rfl (fun ls hl => ?_)
            refine lv_ldc (own := RL) (index := 64) (v := (-3000000)) X.1 X.2.1 X.2.2.2.1 (X.2.2.2.2.1.use kco_L_64) dL_does_228 ?_
            exact q_iret X hr hlocks h dL_does_230 ⟨Nat.le_of_ble_eq_true rfl, Nat.le_of_ble_eq_true rfl⟩ (⟨by rw [hk]; rfl, by rw [hk]; rfl, rfl⟩)
          · skip
            refine l_catch X ht [(0, 225, 226, 62)] (0, 225, 231, 65) [(0, 225, 236, 68)] rfl (fun z hz => by rw [List.mem_singleton.mp hz]; exact ⟨by decide, EIO, kclx_L_62, hN.1⟩) ⟨by decide, by decide⟩ (by decide) kclx_L_65 kca_EIA h1 h2 h3 rfl ?_
            refine lv_astore (lv' := [(5, .ref q9), (0, .ref x), (1, .int (nI (2))), (2, .int (a)), (3, .int (b)), (4, .int (cz))]) X.1 X.2.1 dL_does_231 hl (by decide) rfl (fun ls hl => ?_)
            refine lv_ldc (own := RL) (index := 67) (v := (-2000000)) X.1 X.2.1 X.2.2.2.1 (X.2.2.2.2.1.use kco_L_67) dL_does_233 ?_
            exact q_iret X hr hlocks h dL_does_235 ⟨Nat.le_of_ble_eq_true rfl, Nat.le_of_ble_eq_true rfl⟩ (⟨by rw [hk]; rfl, by rw [hk]; rfl, rfl⟩)
          · skip
            refine l_catch X ht [(0, 225, 226, 62), (0, 225, 231, 65)] (0, 225, 236, 68) [] rfl (fun z hz => by rcases List.mem_cons.mp hz with rfl | hz; exact ⟨by decide, EIO, kclx_L_62, hN.2.1⟩; rw [List.mem_singleton.mp hz]; exact ⟨by decide, EIA, kclx_L_65, hN.2.2⟩) ⟨by decide, by decide⟩ (by decide) kclx_L_68 kca_EIS h1 h2 h3 rfl ?_
            refine lv_astore (lv' := [(5, .ref q9), (0, .ref x), (1, .int (nI (2))), (2, .int (a)), (3, .int (b)), (4, .int (cz))]) X.1 X.2.1 dL_does_236 hl (by decide) rfl (fun ls hl => ?_)
            refine lv_ldc (own := RL) (index := 70) (v := (-1000000)) X.1 X.2.1 X.2.2.2.1 (X.2.2.2.2.1.use kco_L_70) dL_does_238 ?_
            exact q_iret X hr hlocks h dL_does_240 ⟨Nat.le_of_ble_eq_true rfl, Nat.le_of_ble_eq_true rfl⟩ (⟨by rw [hk]; rfl, by rw [hk]; rfl, rfl⟩)
        · skip
          refine lv_goto (tgt := 225) X.1 X.2.1 dL_does_38 (by decide) ?_
          exact q_iret X hr hlocks h dL_does_225 ⟨Nat.le_of_ble_eq_true rfl, Nat.le_of_ble_eq_true rfl⟩ (⟨by rw [hk]; rfl, by rw [hk]; rfl, rfl⟩)
    · skip
      exact absurd c2 (by first | decide | omega)
  · skip
    exact absurd c1 (by first | decide | omega)
set_option maxHeartbeats 4000000 in
set_option maxRecDepth 100000 in
theorem c_L_does_end (l : Launch) (G : mG) (x : Nat) (ar : Nat → Nat) (N : Nat → Nat) (F : Nat → Nat → Nat) (B : Nat → Int32) (D : LSt) (a b cz : Int32) (hst : l.stackTraces = false) (hI : Iv N F) (hJ : Jv N F B) : QLMet l yL_does cL_does 6 (some FieldType.int) hh_L_does ({ frames := 7, cells := 9, slots := 125, locals := 136 } : Room) G x ar [.ref x, .int (nI (3)), .int (a), .int (b), .int (cz)] (N, F, B) D (fun r C' D' => r = some (.int (dV (kEnd N) (nI (awS N F 3).1) (-1000000) 0 0)) ∧ C' = (if kEnd N = 0 then ((nEnd N F), ((awS N F 3).2), (B)) else (N, F, B)) ∧ D = D') := by
  refine QLMet.of (by decide) (Nat.le_of_ble_eq_true rfl) ?_
  intro p e s m args below meth c A ls X hr hlocks hS hZ hN h hl ht
  have hl : lv_has ls 6 [(0, .ref x), (1, .int (nI (3))), (2, .int (a)), (3, .int (b)), (4, .int (cz))] := hl
  refine lv_iload_n X.1 X.2.1 dL_does_0 rfl (lv_at hl 1 rfl) ?_
  refine b_if_ne (tgt := 11) X dL_does_1 (by decide) (a := ((3 : Nat) : Int)) (nI_ti (by omega)) (fun c1 => ?_) (fun c1 => ?_)
  · skip
    refine lv_iload_n X.1 X.2.1 dL_does_11 rfl (lv_at hl 1 rfl) ?_
    refine lv_iconst (v := nI (1)) X.1 X.2.1 dL_does_12 (by decide) ?_
    refine b_icmp_ne (tgt := 25) X dL_does_13 (by decide) (a := ((3 : Nat) : Int)) (b := ((1 : Nat) : Int)) (nI_ti (by omega)) (nI_ti (by omega)) (fun c2 => ?_) (fun c2 => ?_)
    · skip
      refine lv_iload_n X.1 X.2.1 dL_does_25 rfl (lv_at hl 1 rfl) ?_
      refine lv_iconst (v := nI (2)) X.1 X.2.1 dL_does_26 (by decide) ?_
      refine b_icmp_ne (tgt := 41) X dL_does_27 (by decide) (a := ((3 : Nat) : Int)) (b := ((2 : Nat) : Int)) (nI_ti (by omega)) (nI_ti (by omega)) (fun c3 => ?_) (fun c3 => ?_)
      · skip
        refine lv_iload_n X.1 X.2.1 dL_does_41 rfl (lv_at hl 1 rfl) ?_
        refine lv_iconst (v := nI (3)) X.1 X.2.1 dL_does_42 (by decide) ?_
        refine b_icmp_ne (tgt := 53) X dL_does_43 (by decide) (a := ((3 : Nat) : Int)) (b := ((3 : Nat) : Int)) (nI_ti (by omega)) (nI_ti (by omega)) (fun c4 => ?_) (fun c4 => ?_)
        · skip
          exact absurd c4 (by first | decide | omega)
        · skip
          refine lv_aload_n X.1 X.2.1 dL_does_46 rfl (lv_at hl 0 rfl) ?_
          refine q_callE (C1 := ((nEnd N F), ((awS N F 3).2), (B))) (v := nI (awS N F 3).1) X hS hZ h ck_L_22 ki_X6_end ks_X6_end dL_does_47 (As := []) (fun MC cs => c_X6_end l G x N F B MC cs hst hI hJ) rfl hl rfl (Nat.le_of_ble_eq_true rfl) ⟨Nat.le_of_ble_eq_true rfl, Nat.le_of_ble_eq_true rfl⟩ ⟨Nat.le_of_ble_eq_true rfl, Nat.le_of_ble_eq_true rfl⟩ (fun E9 ce q9 H locs hk h h1 h2 h3 => ?_) (fun H locs hk h => ?_)
          · skip
            obtain ⟨rfl, hk⟩ := hk
            refine l_catch X ht [(0, 225, 226, 62), (0, 225, 231, 65)] (0, 225, 236, 68) [] rfl (fun z hz => by rcases List.mem_cons.mp hz with rfl | hz; exact ⟨by decide, EIO, kclx_L_62, hN.2.1⟩; rw [List.mem_singleton.mp hz]; exact ⟨by decide, EIA, kclx_L_65, hN.2.2⟩) ⟨by decide, by decide⟩ (by decide) kclx_L_68 kca_EIS h1 h2 h3 rfl ?_
            refine lv_astore (lv' := [(5, .ref q9), (0, .ref x), (1, .int (nI (3))), (2, .int (a)), (3, .int (b)), (4, .int (cz))]) X.1 X.2.1 dL_does_236 hl (by decide) rfl (fun ls hl => ?_)
            refine lv_ldc (own := RL) (index := 70) (v := (-1000000)) X.1 X.2.1 X.2.2.2.1 (X.2.2.2.2.1.use kco_L_70) dL_does_238 ?_
            exact q_iret X hr hlocks h dL_does_240 ⟨Nat.le_of_ble_eq_true rfl, Nat.le_of_ble_eq_true rfl⟩ (⟨by rw [hk]; rfl, by rw [hk]; rfl, rfl⟩)
          · skip
            refine lv_goto (tgt := 225) X.1 X.2.1 dL_does_50 (by decide) ?_
            exact q_iret X hr hlocks h dL_does_225 ⟨Nat.le_of_ble_eq_true rfl, Nat.le_of_ble_eq_true rfl⟩ (⟨by rw [hk]; rfl, by rw [hk]; rfl, rfl⟩)
      · skip
        exact absurd c3 (by first | decide | omega)
    · skip
      exact absurd c2 (by first | decide | omega)
  · skip
    exact absurd c1 (by first | decide | omega)
set_option maxHeartbeats 4000000 in
set_option maxRecDepth 100000 in
theorem c_L_does_sell (l : Launch) (G : mG) (x : Nat) (ar : Nat → Nat) (N : Nat → Nat) (F : Nat → Nat → Nat) (B : Nat → Int32) (D : LSt) (a b cz : Int32) (hst : l.stackTraces = false) (hI : Iv N F) : QLMet l yL_does cL_does 6 (some FieldType.int) hh_L_does ({ frames := 8, cells := 3, slots := 18, locals := 129 } : Room) G x ar [.ref x, .int (nI (4)), .int (a), .int (b), .int (cz)] (N, F, B) D (fun r C' D' => r = some (.int (dV (kSell N F a b cz) (bI (faithS F (ix a) (ix b))) (-3000000) (-2000000) (-1000000))) ∧ C' = (if kSell N F a b cz = 0 then ((N), (fSell F (ix a) (ix b) (ix cz)), (bSell F B (ix a) (ix b) (ix cz))) else (N, F, B)) ∧ D = D') := by
  refine QLMet.of (by decide) (Nat.le_of_ble_eq_true rfl) ?_
  intro p e s m args below meth c A ls X hr hlocks hS hZ hN h hl ht
  have hl : lv_has ls 6 [(0, .ref x), (1, .int (nI (4))), (2, .int (a)), (3, .int (b)), (4, .int (cz))] := hl
  refine lv_iload_n X.1 X.2.1 dL_does_0 rfl (lv_at hl 1 rfl) ?_
  refine b_if_ne (tgt := 11) X dL_does_1 (by decide) (a := ((4 : Nat) : Int)) (nI_ti (by omega)) (fun c1 => ?_) (fun c1 => ?_)
  · skip
    refine lv_iload_n X.1 X.2.1 dL_does_11 rfl (lv_at hl 1 rfl) ?_
    refine lv_iconst (v := nI (1)) X.1 X.2.1 dL_does_12 (by decide) ?_
    refine b_icmp_ne (tgt := 25) X dL_does_13 (by decide) (a := ((4 : Nat) : Int)) (b := ((1 : Nat) : Int)) (nI_ti (by omega)) (nI_ti (by omega)) (fun c2 => ?_) (fun c2 => ?_)
    · skip
      refine lv_iload_n X.1 X.2.1 dL_does_25 rfl (lv_at hl 1 rfl) ?_
      refine lv_iconst (v := nI (2)) X.1 X.2.1 dL_does_26 (by decide) ?_
      refine b_icmp_ne (tgt := 41) X dL_does_27 (by decide) (a := ((4 : Nat) : Int)) (b := ((2 : Nat) : Int)) (nI_ti (by omega)) (nI_ti (by omega)) (fun c3 => ?_) (fun c3 => ?_)
      · skip
        refine lv_iload_n X.1 X.2.1 dL_does_41 rfl (lv_at hl 1 rfl) ?_
        refine lv_iconst (v := nI (3)) X.1 X.2.1 dL_does_42 (by decide) ?_
        refine b_icmp_ne (tgt := 53) X dL_does_43 (by decide) (a := ((4 : Nat) : Int)) (b := ((3 : Nat) : Int)) (nI_ti (by omega)) (nI_ti (by omega)) (fun c4 => ?_) (fun c4 => ?_)
        · skip
          refine lv_iload_n X.1 X.2.1 dL_does_53 rfl (lv_at hl 1 rfl) ?_
          refine lv_iconst (v := nI (4)) X.1 X.2.1 dL_does_54 (by decide) ?_
          refine b_icmp_ne (tgt := 77) X dL_does_55 (by decide) (a := ((4 : Nat) : Int)) (b := ((4 : Nat) : Int)) (nI_ti (by omega)) (nI_ti (by omega)) (fun c5 => ?_) (fun c5 => ?_)
          · skip
            exact absurd c5 (by first | decide | omega)
          · skip
            refine lv_aload_n X.1 X.2.1 dL_does_58 rfl (lv_at hl 0 rfl) ?_
            refine lv_iload_n X.1 X.2.1 dL_does_59 rfl (lv_at hl 2 rfl) ?_
            refine lv_iload_n X.1 X.2.1 dL_does_60 rfl (lv_at hl 3 rfl) ?_
            refine lv_iload X.1 X.2.1 dL_does_61 (lv_at hl 4 rfl) ?_
            refine q_callE (C1 := ((N), (fSell F (ix a) (ix b) (ix cz)), (bSell F B (ix a) (ix b) (ix cz)))) (v := bI (faithS F (ix a) (ix b))) X hS hZ h ck_L_25 ki_X6_sell ks_X6_sell dL_does_63 (As := [.int (a), .int (b), .int (cz)]) (fun MC cs => c_X6_sell l G x N F B MC cs a b cz hst hI) rfl hl rfl (Nat.le_of_ble_eq_true rfl) ⟨Nat.le_of_ble_eq_true rfl, Nat.le_of_ble_eq_true rfl⟩ ⟨Nat.le_of_ble_eq_true rfl, Nat.le_of_ble_eq_true rfl⟩ (fun E9 ce q9 H locs hk h h1 h2 h3 => ?_) (fun H locs hk h => ?_)
            · skip
              rcases hk with ⟨rfl, hk⟩ | ⟨rfl, hk⟩ | ⟨rfl, hk⟩
              · skip
                refine l_catch X ht [] (0, 225, 226, 62) [(0, 225, 231, 65), (0, 225, 236, 68)] rfl (fun z hz => absurd hz List.not_mem_nil) ⟨by decide, by decide⟩ (by decide) kclx_L_62 kca_EIO h1 h2 h3 rfl ?_
                refine lv_astore (lv' := [(5, .ref q9), (0, .ref x), (1, .int (nI (4))), (2, .int (a)), (3, .int (b)), (4, .int (cz))]) X.1 X.2.1 dL_does_226 hl (by decide) rfl (fun ls hl => ?_)
                refine lv_ldc (own := RL) (index := 64) (v := (-3000000)) X.1 X.2.1 X.2.2.2.1 (X.2.2.2.2.1.use kco_L_64) dL_does_228 ?_
                exact q_iret X hr hlocks h dL_does_230 ⟨Nat.le_of_ble_eq_true rfl, Nat.le_of_ble_eq_true rfl⟩ (⟨by rw [hk]; rfl, by rw [hk]; rfl, rfl⟩)
              · skip
                refine l_catch X ht [(0, 225, 226, 62)] (0, 225, 231, 65) [(0, 225, 236, 68)] rfl (fun z hz => by rw [List.mem_singleton.mp hz]; exact ⟨by decide, EIO, kclx_L_62, hN.1⟩) ⟨by decide, by decide⟩ (by decide) kclx_L_65 kca_EIA h1 h2 h3 rfl ?_
                refine lv_astore (lv' := [(5, .ref q9), (0, .ref x), (1, .int (nI (4))), (2, .int (a)), (3, .int (b)), (4, .int (cz))]) X.1 X.2.1 dL_does_231 hl (by decide) rfl (fun ls hl => ?_)
                refine lv_ldc (own := RL) (index := 67) (v := (-2000000)) X.1 X.2.1 X.2.2.2.1 (X.2.2.2.2.1.use kco_L_67) dL_does_233 ?_
                exact q_iret X hr hlocks h dL_does_235 ⟨Nat.le_of_ble_eq_true rfl, Nat.le_of_ble_eq_true rfl⟩ (⟨by rw [hk]; rfl, by rw [hk]; rfl, rfl⟩)
              · skip
                refine l_catch X ht [(0, 225, 226, 62), (0, 225, 231, 65)] (0, 225, 236, 68) [] rfl (fun z hz => by rcases List.mem_cons.mp hz with rfl | hz; exact ⟨by decide, EIO, kclx_L_62, hN.2.1⟩; rw [List.mem_singleton.mp hz]; exact ⟨by decide, EIA, kclx_L_65, hN.2.2⟩) ⟨by decide, by decide⟩ (by decide) kclx_L_68 kca_EIS h1 h2 h3 rfl ?_
                refine lv_astore (lv' := [(5, .ref q9), (0, .ref x), (1, .int (nI (4))), (2, .int (a)), (3, .int (b)), (4, .int (cz))]) X.1 X.2.1 dL_does_236 hl (by decide) rfl (fun ls hl => ?_)
                refine lv_ldc (own := RL) (index := 70) (v := (-1000000)) X.1 X.2.1 X.2.2.2.1 (X.2.2.2.2.1.use kco_L_70) dL_does_238 ?_
                exact q_iret X hr hlocks h dL_does_240 ⟨Nat.le_of_ble_eq_true rfl, Nat.le_of_ble_eq_true rfl⟩ (⟨by rw [hk]; rfl, by rw [hk]; rfl, rfl⟩)
            · skip
              refine b_bool_eq (tgt := 73) X dL_does_66 (by decide) (fun c6 => ?_) (fun c6 => ?_)
              · skip
                refine lv_iconst (v := nI (0)) X.1 X.2.1 dL_does_73 (by decide) ?_
                refine lv_goto (tgt := 225) X.1 X.2.1 dL_does_74 (by decide) ?_
                exact q_iret X hr hlocks h dL_does_225 ⟨Nat.le_of_ble_eq_true rfl, Nat.le_of_ble_eq_true rfl⟩ (⟨by rw [hk]; show some (Value.int _) = some (.int (bI (faithS F (ix a) (ix b)))); rw [c6]; rfl, by rw [hk]; rfl, rfl⟩)
              · skip
                refine lv_iconst (v := nI (1)) X.1 X.2.1 dL_does_69 (by decide) ?_
                refine lv_goto (tgt := 225) X.1 X.2.1 dL_does_70 (by decide) ?_
                exact q_iret X hr hlocks h dL_does_225 ⟨Nat.le_of_ble_eq_true rfl, Nat.le_of_ble_eq_true rfl⟩ (⟨by rw [hk]; show some (Value.int _) = some (.int (bI (faithS F (ix a) (ix b)))); rw [c6]; rfl, by rw [hk]; rfl, rfl⟩)
        · skip
          exact absurd c4 (by first | decide | omega)
      · skip
        exact absurd c3 (by first | decide | omega)
    · skip
      exact absurd c2 (by first | decide | omega)
  · skip
    exact absurd c1 (by first | decide | omega)
set_option maxHeartbeats 4000000 in
set_option maxRecDepth 100000 in
theorem c_L_does_lend (l : Launch) (G : mG) (x : Nat) (ar : Nat → Nat) (N : Nat → Nat) (F : Nat → Nat → Nat) (B : Nat → Int32) (D : LSt) (a b cz : Int32) (hst : l.stackTraces = false) (hI : Iv N F) : QLMet l yL_does cL_does 6 (some FieldType.int) hh_L_does ({ frames := 8, cells := 3, slots := 18, locals := 129 } : Room) G x ar [.ref x, .int (nI (5)), .int (a), .int (b), .int (cz)] (N, F, B) D (fun r C' D' => r = some (.int (dV (kLend N F a b cz) (nI (N 0 + ix cz - 1)) (-3000000) (-2000000) (-1000000))) ∧ C' = (if kLend N F a b cz = 0 then ((N), (fLend N F (ix a) (ix b) (ix cz)), (B)) else (N, F, B)) ∧ D = D') := by
  refine QLMet.of (by decide) (Nat.le_of_ble_eq_true rfl) ?_
  intro p e s m args below meth c A ls X hr hlocks hS hZ hN h hl ht
  have hl : lv_has ls 6 [(0, .ref x), (1, .int (nI (5))), (2, .int (a)), (3, .int (b)), (4, .int (cz))] := hl
  refine lv_iload_n X.1 X.2.1 dL_does_0 rfl (lv_at hl 1 rfl) ?_
  refine b_if_ne (tgt := 11) X dL_does_1 (by decide) (a := ((5 : Nat) : Int)) (nI_ti (by omega)) (fun c1 => ?_) (fun c1 => ?_)
  · skip
    refine lv_iload_n X.1 X.2.1 dL_does_11 rfl (lv_at hl 1 rfl) ?_
    refine lv_iconst (v := nI (1)) X.1 X.2.1 dL_does_12 (by decide) ?_
    refine b_icmp_ne (tgt := 25) X dL_does_13 (by decide) (a := ((5 : Nat) : Int)) (b := ((1 : Nat) : Int)) (nI_ti (by omega)) (nI_ti (by omega)) (fun c2 => ?_) (fun c2 => ?_)
    · skip
      refine lv_iload_n X.1 X.2.1 dL_does_25 rfl (lv_at hl 1 rfl) ?_
      refine lv_iconst (v := nI (2)) X.1 X.2.1 dL_does_26 (by decide) ?_
      refine b_icmp_ne (tgt := 41) X dL_does_27 (by decide) (a := ((5 : Nat) : Int)) (b := ((2 : Nat) : Int)) (nI_ti (by omega)) (nI_ti (by omega)) (fun c3 => ?_) (fun c3 => ?_)
      · skip
        refine lv_iload_n X.1 X.2.1 dL_does_41 rfl (lv_at hl 1 rfl) ?_
        refine lv_iconst (v := nI (3)) X.1 X.2.1 dL_does_42 (by decide) ?_
        refine b_icmp_ne (tgt := 53) X dL_does_43 (by decide) (a := ((5 : Nat) : Int)) (b := ((3 : Nat) : Int)) (nI_ti (by omega)) (nI_ti (by omega)) (fun c4 => ?_) (fun c4 => ?_)
        · skip
          refine lv_iload_n X.1 X.2.1 dL_does_53 rfl (lv_at hl 1 rfl) ?_
          refine lv_iconst (v := nI (4)) X.1 X.2.1 dL_does_54 (by decide) ?_
          refine b_icmp_ne (tgt := 77) X dL_does_55 (by decide) (a := ((5 : Nat) : Int)) (b := ((4 : Nat) : Int)) (nI_ti (by omega)) (nI_ti (by omega)) (fun c5 => ?_) (fun c5 => ?_)
          · skip
            refine lv_iload_n X.1 X.2.1 dL_does_77 rfl (lv_at hl 1 rfl) ?_
            refine lv_iconst (v := nI (5)) X.1 X.2.1 dL_does_78 (by decide) ?_
            refine b_icmp_ne (tgt := 93) X dL_does_79 (by decide) (a := ((5 : Nat) : Int)) (b := ((5 : Nat) : Int)) (nI_ti (by omega)) (nI_ti (by omega)) (fun c6 => ?_) (fun c6 => ?_)
            · skip
              exact absurd c6 (by first | decide | omega)
            · skip
              refine lv_aload_n X.1 X.2.1 dL_does_82 rfl (lv_at hl 0 rfl) ?_
              refine lv_iload_n X.1 X.2.1 dL_does_83 rfl (lv_at hl 2 rfl) ?_
              refine lv_iload_n X.1 X.2.1 dL_does_84 rfl (lv_at hl 3 rfl) ?_
              refine lv_iload X.1 X.2.1 dL_does_85 (lv_at hl 4 rfl) ?_
              refine q_callE (C1 := ((N), (fLend N F (ix a) (ix b) (ix cz)), (B))) (v := nI (N 0 + ix cz - 1)) X hS hZ h ck_L_29 ki_X6_lend ks_X6_lend dL_does_87 (As := [.int (a), .int (b), .int (cz)]) (fun MC cs => c_X6_lend l G x N F B MC cs a b cz hst hI) rfl hl rfl (Nat.le_of_ble_eq_true rfl) ⟨Nat.le_of_ble_eq_true rfl, Nat.le_of_ble_eq_true rfl⟩ ⟨Nat.le_of_ble_eq_true rfl, Nat.le_of_ble_eq_true rfl⟩ (fun E9 ce q9 H locs hk h h1 h2 h3 => ?_) (fun H locs hk h => ?_)
              · skip
                rcases hk with ⟨rfl, hk⟩ | ⟨rfl, hk⟩ | ⟨rfl, hk⟩
                · skip
                  refine l_catch X ht [] (0, 225, 226, 62) [(0, 225, 231, 65), (0, 225, 236, 68)] rfl (fun z hz => absurd hz List.not_mem_nil) ⟨by decide, by decide⟩ (by decide) kclx_L_62 kca_EIO h1 h2 h3 rfl ?_
                  refine lv_astore (lv' := [(5, .ref q9), (0, .ref x), (1, .int (nI (5))), (2, .int (a)), (3, .int (b)), (4, .int (cz))]) X.1 X.2.1 dL_does_226 hl (by decide) rfl (fun ls hl => ?_)
                  refine lv_ldc (own := RL) (index := 64) (v := (-3000000)) X.1 X.2.1 X.2.2.2.1 (X.2.2.2.2.1.use kco_L_64) dL_does_228 ?_
                  exact q_iret X hr hlocks h dL_does_230 ⟨Nat.le_of_ble_eq_true rfl, Nat.le_of_ble_eq_true rfl⟩ (⟨by rw [hk]; rfl, by rw [hk]; rfl, rfl⟩)
                · skip
                  refine l_catch X ht [(0, 225, 226, 62)] (0, 225, 231, 65) [(0, 225, 236, 68)] rfl (fun z hz => by rw [List.mem_singleton.mp hz]; exact ⟨by decide, EIO, kclx_L_62, hN.1⟩) ⟨by decide, by decide⟩ (by decide) kclx_L_65 kca_EIA h1 h2 h3 rfl ?_
                  refine lv_astore (lv' := [(5, .ref q9), (0, .ref x), (1, .int (nI (5))), (2, .int (a)), (3, .int (b)), (4, .int (cz))]) X.1 X.2.1 dL_does_231 hl (by decide) rfl (fun ls hl => ?_)
                  refine lv_ldc (own := RL) (index := 67) (v := (-2000000)) X.1 X.2.1 X.2.2.2.1 (X.2.2.2.2.1.use kco_L_67) dL_does_233 ?_
                  exact q_iret X hr hlocks h dL_does_235 ⟨Nat.le_of_ble_eq_true rfl, Nat.le_of_ble_eq_true rfl⟩ (⟨by rw [hk]; rfl, by rw [hk]; rfl, rfl⟩)
                · skip
                  refine l_catch X ht [(0, 225, 226, 62), (0, 225, 231, 65)] (0, 225, 236, 68) [] rfl (fun z hz => by rcases List.mem_cons.mp hz with rfl | hz; exact ⟨by decide, EIO, kclx_L_62, hN.2.1⟩; rw [List.mem_singleton.mp hz]; exact ⟨by decide, EIA, kclx_L_65, hN.2.2⟩) ⟨by decide, by decide⟩ (by decide) kclx_L_68 kca_EIS h1 h2 h3 rfl ?_
                  refine lv_astore (lv' := [(5, .ref q9), (0, .ref x), (1, .int (nI (5))), (2, .int (a)), (3, .int (b)), (4, .int (cz))]) X.1 X.2.1 dL_does_236 hl (by decide) rfl (fun ls hl => ?_)
                  refine lv_ldc (own := RL) (index := 70) (v := (-1000000)) X.1 X.2.1 X.2.2.2.1 (X.2.2.2.2.1.use kco_L_70) dL_does_238 ?_
                  exact q_iret X hr hlocks h dL_does_240 ⟨Nat.le_of_ble_eq_true rfl, Nat.le_of_ble_eq_true rfl⟩ (⟨by rw [hk]; rfl, by rw [hk]; rfl, rfl⟩)
              · skip
                refine lv_goto (tgt := 225) X.1 X.2.1 dL_does_90 (by decide) ?_
                exact q_iret X hr hlocks h dL_does_225 ⟨Nat.le_of_ble_eq_true rfl, Nat.le_of_ble_eq_true rfl⟩ (⟨by rw [hk]; rfl, by rw [hk]; rfl, rfl⟩)
          · skip
            exact absurd c5 (by first | decide | omega)
        · skip
          exact absurd c4 (by first | decide | omega)
      · skip
        exact absurd c3 (by first | decide | omega)
    · skip
      exact absurd c2 (by first | decide | omega)
  · skip
    exact absurd c1 (by first | decide | omega)
set_option maxHeartbeats 4000000 in
set_option maxRecDepth 100000 in
theorem c_L_does_proof (l : Launch) (G : mG) (x : Nat) (ar : Nat → Nat) (N : Nat → Nat) (F : Nat → Nat → Nat) (B : Nat → Int32) (D : LSt) (a b cz : Int32) (hst : l.stackTraces = false) (hI : Iv N F) : QLMet l yL_does cL_does 6 (some FieldType.int) hh_L_does ({ frames := 8, cells := 2, slots := 12, locals := 148 } : Room) G x ar [.ref x, .int (nI (6)), .int (a), .int (b), .int (cz)] (N, F, B) D (fun r C' D' => r = some (.int (dV (kProof N a b) (nI (badN (fProof F (ix a) (ix b)) (N 6))) (-3000000) (-2000000) 0)) ∧ C' = (if kProof N a b = 0 then ((N), ((lookS N (fProof F (ix a) (ix b)) B (N 13)).1), ((lookS N (fProof F (ix a) (ix b)) B (N 13)).2)) else (N, F, B)) ∧ D = D') := by
  refine QLMet.of (by decide) (Nat.le_of_ble_eq_true rfl) ?_
  intro p e s m args below meth c A ls X hr hlocks hS hZ hN h hl ht
  have hl : lv_has ls 6 [(0, .ref x), (1, .int (nI (6))), (2, .int (a)), (3, .int (b)), (4, .int (cz))] := hl
  refine lv_iload_n X.1 X.2.1 dL_does_0 rfl (lv_at hl 1 rfl) ?_
  refine b_if_ne (tgt := 11) X dL_does_1 (by decide) (a := ((6 : Nat) : Int)) (nI_ti (by omega)) (fun c1 => ?_) (fun c1 => ?_)
  · skip
    refine lv_iload_n X.1 X.2.1 dL_does_11 rfl (lv_at hl 1 rfl) ?_
    refine lv_iconst (v := nI (1)) X.1 X.2.1 dL_does_12 (by decide) ?_
    refine b_icmp_ne (tgt := 25) X dL_does_13 (by decide) (a := ((6 : Nat) : Int)) (b := ((1 : Nat) : Int)) (nI_ti (by omega)) (nI_ti (by omega)) (fun c2 => ?_) (fun c2 => ?_)
    · skip
      refine lv_iload_n X.1 X.2.1 dL_does_25 rfl (lv_at hl 1 rfl) ?_
      refine lv_iconst (v := nI (2)) X.1 X.2.1 dL_does_26 (by decide) ?_
      refine b_icmp_ne (tgt := 41) X dL_does_27 (by decide) (a := ((6 : Nat) : Int)) (b := ((2 : Nat) : Int)) (nI_ti (by omega)) (nI_ti (by omega)) (fun c3 => ?_) (fun c3 => ?_)
      · skip
        refine lv_iload_n X.1 X.2.1 dL_does_41 rfl (lv_at hl 1 rfl) ?_
        refine lv_iconst (v := nI (3)) X.1 X.2.1 dL_does_42 (by decide) ?_
        refine b_icmp_ne (tgt := 53) X dL_does_43 (by decide) (a := ((6 : Nat) : Int)) (b := ((3 : Nat) : Int)) (nI_ti (by omega)) (nI_ti (by omega)) (fun c4 => ?_) (fun c4 => ?_)
        · skip
          refine lv_iload_n X.1 X.2.1 dL_does_53 rfl (lv_at hl 1 rfl) ?_
          refine lv_iconst (v := nI (4)) X.1 X.2.1 dL_does_54 (by decide) ?_
          refine b_icmp_ne (tgt := 77) X dL_does_55 (by decide) (a := ((6 : Nat) : Int)) (b := ((4 : Nat) : Int)) (nI_ti (by omega)) (nI_ti (by omega)) (fun c5 => ?_) (fun c5 => ?_)
          · skip
            refine lv_iload_n X.1 X.2.1 dL_does_77 rfl (lv_at hl 1 rfl) ?_
            refine lv_iconst (v := nI (5)) X.1 X.2.1 dL_does_78 (by decide) ?_
            refine b_icmp_ne (tgt := 93) X dL_does_79 (by decide) (a := ((6 : Nat) : Int)) (b := ((5 : Nat) : Int)) (nI_ti (by omega)) (nI_ti (by omega)) (fun c6 => ?_) (fun c6 => ?_)
            · skip
              refine lv_iload_n X.1 X.2.1 dL_does_93 rfl (lv_at hl 1 rfl) ?_
              refine lv_bipush (v := nI (6)) X.1 X.2.1 dL_does_94 (by decide) ?_
              refine b_icmp_ne (tgt := 108) X dL_does_96 (by decide) (a := ((6 : Nat) : Int)) (b := ((6 : Nat) : Int)) (nI_ti (by omega)) (nI_ti (by omega)) (fun c7 => ?_) (fun c7 => ?_)
              · skip
                exact absurd c7 (by first | decide | omega)
              · skip
                refine lv_aload_n X.1 X.2.1 dL_does_99 rfl (lv_at hl 0 rfl) ?_
                refine lv_iload_n X.1 X.2.1 dL_does_100 rfl (lv_at hl 2 rfl) ?_
                refine lv_iload_n X.1 X.2.1 dL_does_101 rfl (lv_at hl 3 rfl) ?_
                refine q_callE (C1 := ((N), ((lookS N (fProof F (ix a) (ix b)) B (N 13)).1), ((lookS N (fProof F (ix a) (ix b)) B (N 13)).2))) (v := nI (badN (fProof F (ix a) (ix b)) (N 6))) X hS hZ h ck_L_32 ki_X6_proof ks_X6_proof dL_does_102 (As := [.int (a), .int (b)]) (fun MC cs => c_X6_proof l G x N F B MC cs a b hst hI) rfl hl rfl (Nat.le_of_ble_eq_true rfl) ⟨Nat.le_of_ble_eq_true rfl, Nat.le_of_ble_eq_true rfl⟩ ⟨Nat.le_of_ble_eq_true rfl, Nat.le_of_ble_eq_true rfl⟩ (fun E9 ce q9 H locs hk h h1 h2 h3 => ?_) (fun H locs hk h => ?_)
                · skip
                  rcases hk with ⟨rfl, hk⟩ | ⟨rfl, hk⟩
                  · skip
                    refine l_catch X ht [] (0, 225, 226, 62) [(0, 225, 231, 65), (0, 225, 236, 68)] rfl (fun z hz => absurd hz List.not_mem_nil) ⟨by decide, by decide⟩ (by decide) kclx_L_62 kca_EIO h1 h2 h3 rfl ?_
                    refine lv_astore (lv' := [(5, .ref q9), (0, .ref x), (1, .int (nI (6))), (2, .int (a)), (3, .int (b)), (4, .int (cz))]) X.1 X.2.1 dL_does_226 hl (by decide) rfl (fun ls hl => ?_)
                    refine lv_ldc (own := RL) (index := 64) (v := (-3000000)) X.1 X.2.1 X.2.2.2.1 (X.2.2.2.2.1.use kco_L_64) dL_does_228 ?_
                    exact q_iret X hr hlocks h dL_does_230 ⟨Nat.le_of_ble_eq_true rfl, Nat.le_of_ble_eq_true rfl⟩ (⟨by rw [hk]; rfl, by rw [hk]; rfl, rfl⟩)
                  · skip
                    refine l_catch X ht [(0, 225, 226, 62)] (0, 225, 231, 65) [(0, 225, 236, 68)] rfl (fun z hz => by rw [List.mem_singleton.mp hz]; exact ⟨by decide, EIO, kclx_L_62, hN.1⟩) ⟨by decide, by decide⟩ (by decide) kclx_L_65 kca_EIA h1 h2 h3 rfl ?_
                    refine lv_astore (lv' := [(5, .ref q9), (0, .ref x), (1, .int (nI (6))), (2, .int (a)), (3, .int (b)), (4, .int (cz))]) X.1 X.2.1 dL_does_231 hl (by decide) rfl (fun ls hl => ?_)
                    refine lv_ldc (own := RL) (index := 67) (v := (-2000000)) X.1 X.2.1 X.2.2.2.1 (X.2.2.2.2.1.use kco_L_67) dL_does_233 ?_
                    exact q_iret X hr hlocks h dL_does_235 ⟨Nat.le_of_ble_eq_true rfl, Nat.le_of_ble_eq_true rfl⟩ (⟨by rw [hk]; rfl, by rw [hk]; rfl, rfl⟩)
                · skip
                  refine lv_goto (tgt := 225) X.1 X.2.1 dL_does_105 (by decide) ?_
                  exact q_iret X hr hlocks h dL_does_225 ⟨Nat.le_of_ble_eq_true rfl, Nat.le_of_ble_eq_true rfl⟩ (⟨by rw [hk]; rfl, by rw [hk]; rfl, rfl⟩)
            · skip
              exact absurd c6 (by first | decide | omega)
          · skip
            exact absurd c5 (by first | decide | omega)
        · skip
          exact absurd c4 (by first | decide | omega)
      · skip
        exact absurd c3 (by first | decide | omega)
    · skip
      exact absurd c2 (by first | decide | omega)
  · skip
    exact absurd c1 (by first | decide | omega)
set_option maxHeartbeats 4000000 in
set_option maxRecDepth 100000 in
theorem c_L_does_clear (l : Launch) (G : mG) (x : Nat) (ar : Nat → Nat) (N : Nat → Nat) (F : Nat → Nat → Nat) (B : Nat → Int32) (D : LSt) (a b cz : Int32) (hst : l.stackTraces = false) (hI : Iv N F) : QLMet l yL_does cL_does 6 (some FieldType.int) hh_L_does ({ frames := 8, cells := 2, slots := 12, locals := 148 } : Room) G x ar [.ref x, .int (nI (7)), .int (a), .int (b), .int (cz)] (N, F, B) D (fun r C' D' => r = some (.int (dV (kClear N F a) (nI (F 2 (ix a)) - 1) (-3000000) (-1000000) 0)) ∧ C' = (if kClear N F a = 0 then ((N), ((lookS N (set1 F 2 (ix a) 0) B (N 13)).1), ((lookS N (set1 F 2 (ix a) 0) B (N 13)).2)) else (N, F, B)) ∧ D = D') := by
  refine QLMet.of (by decide) (Nat.le_of_ble_eq_true rfl) ?_
  intro p e s m args below meth c A ls X hr hlocks hS hZ hN h hl ht
  have hl : lv_has ls 6 [(0, .ref x), (1, .int (nI (7))), (2, .int (a)), (3, .int (b)), (4, .int (cz))] := hl
  refine lv_iload_n X.1 X.2.1 dL_does_0 rfl (lv_at hl 1 rfl) ?_
  refine b_if_ne (tgt := 11) X dL_does_1 (by decide) (a := ((7 : Nat) : Int)) (nI_ti (by omega)) (fun c1 => ?_) (fun c1 => ?_)
  · skip
    refine lv_iload_n X.1 X.2.1 dL_does_11 rfl (lv_at hl 1 rfl) ?_
    refine lv_iconst (v := nI (1)) X.1 X.2.1 dL_does_12 (by decide) ?_
    refine b_icmp_ne (tgt := 25) X dL_does_13 (by decide) (a := ((7 : Nat) : Int)) (b := ((1 : Nat) : Int)) (nI_ti (by omega)) (nI_ti (by omega)) (fun c2 => ?_) (fun c2 => ?_)
    · skip
      refine lv_iload_n X.1 X.2.1 dL_does_25 rfl (lv_at hl 1 rfl) ?_
      refine lv_iconst (v := nI (2)) X.1 X.2.1 dL_does_26 (by decide) ?_
      refine b_icmp_ne (tgt := 41) X dL_does_27 (by decide) (a := ((7 : Nat) : Int)) (b := ((2 : Nat) : Int)) (nI_ti (by omega)) (nI_ti (by omega)) (fun c3 => ?_) (fun c3 => ?_)
      · skip
        refine lv_iload_n X.1 X.2.1 dL_does_41 rfl (lv_at hl 1 rfl) ?_
        refine lv_iconst (v := nI (3)) X.1 X.2.1 dL_does_42 (by decide) ?_
        refine b_icmp_ne (tgt := 53) X dL_does_43 (by decide) (a := ((7 : Nat) : Int)) (b := ((3 : Nat) : Int)) (nI_ti (by omega)) (nI_ti (by omega)) (fun c4 => ?_) (fun c4 => ?_)
        · skip
          refine lv_iload_n X.1 X.2.1 dL_does_53 rfl (lv_at hl 1 rfl) ?_
          refine lv_iconst (v := nI (4)) X.1 X.2.1 dL_does_54 (by decide) ?_
          refine b_icmp_ne (tgt := 77) X dL_does_55 (by decide) (a := ((7 : Nat) : Int)) (b := ((4 : Nat) : Int)) (nI_ti (by omega)) (nI_ti (by omega)) (fun c5 => ?_) (fun c5 => ?_)
          · skip
            refine lv_iload_n X.1 X.2.1 dL_does_77 rfl (lv_at hl 1 rfl) ?_
            refine lv_iconst (v := nI (5)) X.1 X.2.1 dL_does_78 (by decide) ?_
            refine b_icmp_ne (tgt := 93) X dL_does_79 (by decide) (a := ((7 : Nat) : Int)) (b := ((5 : Nat) : Int)) (nI_ti (by omega)) (nI_ti (by omega)) (fun c6 => ?_) (fun c6 => ?_)
            · skip
              refine lv_iload_n X.1 X.2.1 dL_does_93 rfl (lv_at hl 1 rfl) ?_
              refine lv_bipush (v := nI (6)) X.1 X.2.1 dL_does_94 (by decide) ?_
              refine b_icmp_ne (tgt := 108) X dL_does_96 (by decide) (a := ((7 : Nat) : Int)) (b := ((6 : Nat) : Int)) (nI_ti (by omega)) (nI_ti (by omega)) (fun c7 => ?_) (fun c7 => ?_)
              · skip
                refine lv_iload_n X.1 X.2.1 dL_does_108 rfl (lv_at hl 1 rfl) ?_
                refine lv_bipush (v := nI (7)) X.1 X.2.1 dL_does_109 (by decide) ?_
                refine b_icmp_ne (tgt := 122) X dL_does_111 (by decide) (a := ((7 : Nat) : Int)) (b := ((7 : Nat) : Int)) (nI_ti (by omega)) (nI_ti (by omega)) (fun c8 => ?_) (fun c8 => ?_)
                · skip
                  exact absurd c8 (by first | decide | omega)
                · skip
                  refine lv_aload_n X.1 X.2.1 dL_does_114 rfl (lv_at hl 0 rfl) ?_
                  refine lv_iload_n X.1 X.2.1 dL_does_115 rfl (lv_at hl 2 rfl) ?_
                  refine q_callE (C1 := ((N), ((lookS N (set1 F 2 (ix a) 0) B (N 13)).1), ((lookS N (set1 F 2 (ix a) 0) B (N 13)).2))) (v := nI (F 2 (ix a)) - 1) X hS hZ h ck_L_35 ki_X6_clear ks_X6_clear dL_does_116 (As := [.int (a)]) (fun MC cs => c_X6_clear l G x N F B MC cs a hst hI) rfl hl rfl (Nat.le_of_ble_eq_true rfl) ⟨Nat.le_of_ble_eq_true rfl, Nat.le_of_ble_eq_true rfl⟩ ⟨Nat.le_of_ble_eq_true rfl, Nat.le_of_ble_eq_true rfl⟩ (fun E9 ce q9 H locs hk h h1 h2 h3 => ?_) (fun H locs hk h => ?_)
                  · skip
                    rcases hk with ⟨rfl, hk⟩ | ⟨rfl, hk⟩
                    · skip
                      refine l_catch X ht [] (0, 225, 226, 62) [(0, 225, 231, 65), (0, 225, 236, 68)] rfl (fun z hz => absurd hz List.not_mem_nil) ⟨by decide, by decide⟩ (by decide) kclx_L_62 kca_EIO h1 h2 h3 rfl ?_
                      refine lv_astore (lv' := [(5, .ref q9), (0, .ref x), (1, .int (nI (7))), (2, .int (a)), (3, .int (b)), (4, .int (cz))]) X.1 X.2.1 dL_does_226 hl (by decide) rfl (fun ls hl => ?_)
                      refine lv_ldc (own := RL) (index := 64) (v := (-3000000)) X.1 X.2.1 X.2.2.2.1 (X.2.2.2.2.1.use kco_L_64) dL_does_228 ?_
                      exact q_iret X hr hlocks h dL_does_230 ⟨Nat.le_of_ble_eq_true rfl, Nat.le_of_ble_eq_true rfl⟩ (⟨by rw [hk]; rfl, by rw [hk]; rfl, rfl⟩)
                    · skip
                      refine l_catch X ht [(0, 225, 226, 62), (0, 225, 231, 65)] (0, 225, 236, 68) [] rfl (fun z hz => by rcases List.mem_cons.mp hz with rfl | hz; exact ⟨by decide, EIO, kclx_L_62, hN.2.1⟩; rw [List.mem_singleton.mp hz]; exact ⟨by decide, EIA, kclx_L_65, hN.2.2⟩) ⟨by decide, by decide⟩ (by decide) kclx_L_68 kca_EIS h1 h2 h3 rfl ?_
                      refine lv_astore (lv' := [(5, .ref q9), (0, .ref x), (1, .int (nI (7))), (2, .int (a)), (3, .int (b)), (4, .int (cz))]) X.1 X.2.1 dL_does_236 hl (by decide) rfl (fun ls hl => ?_)
                      refine lv_ldc (own := RL) (index := 70) (v := (-1000000)) X.1 X.2.1 X.2.2.2.1 (X.2.2.2.2.1.use kco_L_70) dL_does_238 ?_
                      exact q_iret X hr hlocks h dL_does_240 ⟨Nat.le_of_ble_eq_true rfl, Nat.le_of_ble_eq_true rfl⟩ (⟨by rw [hk]; rfl, by rw [hk]; rfl, rfl⟩)
                  · skip
                    refine lv_goto (tgt := 225) X.1 X.2.1 dL_does_119 (by decide) ?_
                    exact q_iret X hr hlocks h dL_does_225 ⟨Nat.le_of_ble_eq_true rfl, Nat.le_of_ble_eq_true rfl⟩ (⟨by rw [hk]; rfl, by rw [hk]; rfl, rfl⟩)
              · skip
                exact absurd c7 (by first | decide | omega)
            · skip
              exact absurd c6 (by first | decide | omega)
          · skip
            exact absurd c5 (by first | decide | omega)
        · skip
          exact absurd c4 (by first | decide | omega)
      · skip
        exact absurd c3 (by first | decide | omega)
    · skip
      exact absurd c2 (by first | decide | omega)
  · skip
    exact absurd c1 (by first | decide | omega)
set_option maxHeartbeats 4000000 in
set_option maxRecDepth 100000 in
theorem c_L_does_ban (l : Launch) (G : mG) (x : Nat) (ar : Nat → Nat) (N : Nat → Nat) (F : Nat → Nat → Nat) (B : Nat → Int32) (D : LSt) (a b cz : Int32) (hst : l.stackTraces = false) (hI : Iv N F) : QLMet l yL_does cL_does 6 (some FieldType.int) hh_L_does ({ frames := 8, cells := 2, slots := 12, locals := 127 } : Room) G x ar [.ref x, .int (nI (8)), .int (a), .int (b), .int (cz)] (N, F, B) D (fun r C' D' => r = some (.int (dV (kBan N a b) (nI (N 0 + ix b)) (-3000000) (-2000000) 0)) ∧ C' = (if kBan N a b = 0 then ((N), (set1 F 3 (ix a) (N 0 + ix b)), (B)) else (N, F, B)) ∧ D = D') := by
  refine QLMet.of (by decide) (Nat.le_of_ble_eq_true rfl) ?_
  intro p e s m args below meth c A ls X hr hlocks hS hZ hN h hl ht
  have hl : lv_has ls 6 [(0, .ref x), (1, .int (nI (8))), (2, .int (a)), (3, .int (b)), (4, .int (cz))] := hl
  refine lv_iload_n X.1 X.2.1 dL_does_0 rfl (lv_at hl 1 rfl) ?_
  refine b_if_ne (tgt := 11) X dL_does_1 (by decide) (a := ((8 : Nat) : Int)) (nI_ti (by omega)) (fun c1 => ?_) (fun c1 => ?_)
  · skip
    refine lv_iload_n X.1 X.2.1 dL_does_11 rfl (lv_at hl 1 rfl) ?_
    refine lv_iconst (v := nI (1)) X.1 X.2.1 dL_does_12 (by decide) ?_
    refine b_icmp_ne (tgt := 25) X dL_does_13 (by decide) (a := ((8 : Nat) : Int)) (b := ((1 : Nat) : Int)) (nI_ti (by omega)) (nI_ti (by omega)) (fun c2 => ?_) (fun c2 => ?_)
    · skip
      refine lv_iload_n X.1 X.2.1 dL_does_25 rfl (lv_at hl 1 rfl) ?_
      refine lv_iconst (v := nI (2)) X.1 X.2.1 dL_does_26 (by decide) ?_
      refine b_icmp_ne (tgt := 41) X dL_does_27 (by decide) (a := ((8 : Nat) : Int)) (b := ((2 : Nat) : Int)) (nI_ti (by omega)) (nI_ti (by omega)) (fun c3 => ?_) (fun c3 => ?_)
      · skip
        refine lv_iload_n X.1 X.2.1 dL_does_41 rfl (lv_at hl 1 rfl) ?_
        refine lv_iconst (v := nI (3)) X.1 X.2.1 dL_does_42 (by decide) ?_
        refine b_icmp_ne (tgt := 53) X dL_does_43 (by decide) (a := ((8 : Nat) : Int)) (b := ((3 : Nat) : Int)) (nI_ti (by omega)) (nI_ti (by omega)) (fun c4 => ?_) (fun c4 => ?_)
        · skip
          refine lv_iload_n X.1 X.2.1 dL_does_53 rfl (lv_at hl 1 rfl) ?_
          refine lv_iconst (v := nI (4)) X.1 X.2.1 dL_does_54 (by decide) ?_
          refine b_icmp_ne (tgt := 77) X dL_does_55 (by decide) (a := ((8 : Nat) : Int)) (b := ((4 : Nat) : Int)) (nI_ti (by omega)) (nI_ti (by omega)) (fun c5 => ?_) (fun c5 => ?_)
          · skip
            refine lv_iload_n X.1 X.2.1 dL_does_77 rfl (lv_at hl 1 rfl) ?_
            refine lv_iconst (v := nI (5)) X.1 X.2.1 dL_does_78 (by decide) ?_
            refine b_icmp_ne (tgt := 93) X dL_does_79 (by decide) (a := ((8 : Nat) : Int)) (b := ((5 : Nat) : Int)) (nI_ti (by omega)) (nI_ti (by omega)) (fun c6 => ?_) (fun c6 => ?_)
            · skip
              refine lv_iload_n X.1 X.2.1 dL_does_93 rfl (lv_at hl 1 rfl) ?_
              refine lv_bipush (v := nI (6)) X.1 X.2.1 dL_does_94 (by decide) ?_
              refine b_icmp_ne (tgt := 108) X dL_does_96 (by decide) (a := ((8 : Nat) : Int)) (b := ((6 : Nat) : Int)) (nI_ti (by omega)) (nI_ti (by omega)) (fun c7 => ?_) (fun c7 => ?_)
              · skip
                refine lv_iload_n X.1 X.2.1 dL_does_108 rfl (lv_at hl 1 rfl) ?_
                refine lv_bipush (v := nI (7)) X.1 X.2.1 dL_does_109 (by decide) ?_
                refine b_icmp_ne (tgt := 122) X dL_does_111 (by decide) (a := ((8 : Nat) : Int)) (b := ((7 : Nat) : Int)) (nI_ti (by omega)) (nI_ti (by omega)) (fun c8 => ?_) (fun c8 => ?_)
                · skip
                  refine lv_iload_n X.1 X.2.1 dL_does_122 rfl (lv_at hl 1 rfl) ?_
                  refine lv_bipush (v := nI (8)) X.1 X.2.1 dL_does_123 (by decide) ?_
                  refine b_icmp_ne (tgt := 137) X dL_does_125 (by decide) (a := ((8 : Nat) : Int)) (b := ((8 : Nat) : Int)) (nI_ti (by omega)) (nI_ti (by omega)) (fun c9 => ?_) (fun c9 => ?_)
                  · skip
                    exact absurd c9 (by first | decide | omega)
                  · skip
                    refine lv_aload_n X.1 X.2.1 dL_does_128 rfl (lv_at hl 0 rfl) ?_
                    refine lv_iload_n X.1 X.2.1 dL_does_129 rfl (lv_at hl 2 rfl) ?_
                    refine lv_iload_n X.1 X.2.1 dL_does_130 rfl (lv_at hl 3 rfl) ?_
                    refine q_callE (C1 := ((N), (set1 F 3 (ix a) (N 0 + ix b)), (B))) (v := nI (N 0 + ix b)) X hS hZ h ck_L_39 ki_X6_ban ks_X6_ban dL_does_131 (As := [.int (a), .int (b)]) (fun MC cs => c_X6_ban l G x N F B MC cs a b hst hI) rfl hl rfl (Nat.le_of_ble_eq_true rfl) ⟨Nat.le_of_ble_eq_true rfl, Nat.le_of_ble_eq_true rfl⟩ ⟨Nat.le_of_ble_eq_true rfl, Nat.le_of_ble_eq_true rfl⟩ (fun E9 ce q9 H locs hk h h1 h2 h3 => ?_) (fun H locs hk h => ?_)
                    · skip
                      rcases hk with ⟨rfl, hk⟩ | ⟨rfl, hk⟩
                      · skip
                        refine l_catch X ht [] (0, 225, 226, 62) [(0, 225, 231, 65), (0, 225, 236, 68)] rfl (fun z hz => absurd hz List.not_mem_nil) ⟨by decide, by decide⟩ (by decide) kclx_L_62 kca_EIO h1 h2 h3 rfl ?_
                        refine lv_astore (lv' := [(5, .ref q9), (0, .ref x), (1, .int (nI (8))), (2, .int (a)), (3, .int (b)), (4, .int (cz))]) X.1 X.2.1 dL_does_226 hl (by decide) rfl (fun ls hl => ?_)
                        refine lv_ldc (own := RL) (index := 64) (v := (-3000000)) X.1 X.2.1 X.2.2.2.1 (X.2.2.2.2.1.use kco_L_64) dL_does_228 ?_
                        exact q_iret X hr hlocks h dL_does_230 ⟨Nat.le_of_ble_eq_true rfl, Nat.le_of_ble_eq_true rfl⟩ (⟨by rw [hk]; rfl, by rw [hk]; rfl, rfl⟩)
                      · skip
                        refine l_catch X ht [(0, 225, 226, 62)] (0, 225, 231, 65) [(0, 225, 236, 68)] rfl (fun z hz => by rw [List.mem_singleton.mp hz]; exact ⟨by decide, EIO, kclx_L_62, hN.1⟩) ⟨by decide, by decide⟩ (by decide) kclx_L_65 kca_EIA h1 h2 h3 rfl ?_
                        refine lv_astore (lv' := [(5, .ref q9), (0, .ref x), (1, .int (nI (8))), (2, .int (a)), (3, .int (b)), (4, .int (cz))]) X.1 X.2.1 dL_does_231 hl (by decide) rfl (fun ls hl => ?_)
                        refine lv_ldc (own := RL) (index := 67) (v := (-2000000)) X.1 X.2.1 X.2.2.2.1 (X.2.2.2.2.1.use kco_L_67) dL_does_233 ?_
                        exact q_iret X hr hlocks h dL_does_235 ⟨Nat.le_of_ble_eq_true rfl, Nat.le_of_ble_eq_true rfl⟩ (⟨by rw [hk]; rfl, by rw [hk]; rfl, rfl⟩)
                    · skip
                      refine lv_goto (tgt := 225) X.1 X.2.1 dL_does_134 (by decide) ?_
                      exact q_iret X hr hlocks h dL_does_225 ⟨Nat.le_of_ble_eq_true rfl, Nat.le_of_ble_eq_true rfl⟩ (⟨by rw [hk]; rfl, by rw [hk]; rfl, rfl⟩)
                · skip
                  exact absurd c8 (by first | decide | omega)
              · skip
                exact absurd c7 (by first | decide | omega)
            · skip
              exact absurd c6 (by first | decide | omega)
          · skip
            exact absurd c5 (by first | decide | omega)
        · skip
          exact absurd c4 (by first | decide | omega)
      · skip
        exact absurd c3 (by first | decide | omega)
    · skip
      exact absurd c2 (by first | decide | omega)
  · skip
    exact absurd c1 (by first | decide | omega)
set_option maxHeartbeats 4000000 in
set_option maxRecDepth 100000 in
theorem c_L_does_pass (l : Launch) (G : mG) (x : Nat) (ar : Nat → Nat) (N : Nat → Nat) (F : Nat → Nat → Nat) (B : Nat → Int32) (D : LSt) (a b cz : Int32) (hst : l.stackTraces = false) (hI : Iv N F) : QLMet l yL_does cL_does 6 (some FieldType.int) hh_L_does ({ frames := 7, cells := 1, slots := 6, locals := 105 } : Room) G x ar [.ref x, .int (nI (9)), .int (a), .int (b), .int (cz)] (N, F, B) D (fun r C' D' => r = some (.int (dV (kPass a) (nI (N 0 + ix a)) (-2000000) 0 0)) ∧ C' = (if kPass a = 0 then ((va_up N 0 (N 0 + ix a)), (F), (B)) else (N, F, B)) ∧ D = D') := by
  refine QLMet.of (by decide) (Nat.le_of_ble_eq_true rfl) ?_
  intro p e s m args below meth c A ls X hr hlocks hS hZ hN h hl ht
  have hl : lv_has ls 6 [(0, .ref x), (1, .int (nI (9))), (2, .int (a)), (3, .int (b)), (4, .int (cz))] := hl
  refine lv_iload_n X.1 X.2.1 dL_does_0 rfl (lv_at hl 1 rfl) ?_
  refine b_if_ne (tgt := 11) X dL_does_1 (by decide) (a := ((9 : Nat) : Int)) (nI_ti (by omega)) (fun c1 => ?_) (fun c1 => ?_)
  · skip
    refine lv_iload_n X.1 X.2.1 dL_does_11 rfl (lv_at hl 1 rfl) ?_
    refine lv_iconst (v := nI (1)) X.1 X.2.1 dL_does_12 (by decide) ?_
    refine b_icmp_ne (tgt := 25) X dL_does_13 (by decide) (a := ((9 : Nat) : Int)) (b := ((1 : Nat) : Int)) (nI_ti (by omega)) (nI_ti (by omega)) (fun c2 => ?_) (fun c2 => ?_)
    · skip
      refine lv_iload_n X.1 X.2.1 dL_does_25 rfl (lv_at hl 1 rfl) ?_
      refine lv_iconst (v := nI (2)) X.1 X.2.1 dL_does_26 (by decide) ?_
      refine b_icmp_ne (tgt := 41) X dL_does_27 (by decide) (a := ((9 : Nat) : Int)) (b := ((2 : Nat) : Int)) (nI_ti (by omega)) (nI_ti (by omega)) (fun c3 => ?_) (fun c3 => ?_)
      · skip
        refine lv_iload_n X.1 X.2.1 dL_does_41 rfl (lv_at hl 1 rfl) ?_
        refine lv_iconst (v := nI (3)) X.1 X.2.1 dL_does_42 (by decide) ?_
        refine b_icmp_ne (tgt := 53) X dL_does_43 (by decide) (a := ((9 : Nat) : Int)) (b := ((3 : Nat) : Int)) (nI_ti (by omega)) (nI_ti (by omega)) (fun c4 => ?_) (fun c4 => ?_)
        · skip
          refine lv_iload_n X.1 X.2.1 dL_does_53 rfl (lv_at hl 1 rfl) ?_
          refine lv_iconst (v := nI (4)) X.1 X.2.1 dL_does_54 (by decide) ?_
          refine b_icmp_ne (tgt := 77) X dL_does_55 (by decide) (a := ((9 : Nat) : Int)) (b := ((4 : Nat) : Int)) (nI_ti (by omega)) (nI_ti (by omega)) (fun c5 => ?_) (fun c5 => ?_)
          · skip
            refine lv_iload_n X.1 X.2.1 dL_does_77 rfl (lv_at hl 1 rfl) ?_
            refine lv_iconst (v := nI (5)) X.1 X.2.1 dL_does_78 (by decide) ?_
            refine b_icmp_ne (tgt := 93) X dL_does_79 (by decide) (a := ((9 : Nat) : Int)) (b := ((5 : Nat) : Int)) (nI_ti (by omega)) (nI_ti (by omega)) (fun c6 => ?_) (fun c6 => ?_)
            · skip
              refine lv_iload_n X.1 X.2.1 dL_does_93 rfl (lv_at hl 1 rfl) ?_
              refine lv_bipush (v := nI (6)) X.1 X.2.1 dL_does_94 (by decide) ?_
              refine b_icmp_ne (tgt := 108) X dL_does_96 (by decide) (a := ((9 : Nat) : Int)) (b := ((6 : Nat) : Int)) (nI_ti (by omega)) (nI_ti (by omega)) (fun c7 => ?_) (fun c7 => ?_)
              · skip
                refine lv_iload_n X.1 X.2.1 dL_does_108 rfl (lv_at hl 1 rfl) ?_
                refine lv_bipush (v := nI (7)) X.1 X.2.1 dL_does_109 (by decide) ?_
                refine b_icmp_ne (tgt := 122) X dL_does_111 (by decide) (a := ((9 : Nat) : Int)) (b := ((7 : Nat) : Int)) (nI_ti (by omega)) (nI_ti (by omega)) (fun c8 => ?_) (fun c8 => ?_)
                · skip
                  refine lv_iload_n X.1 X.2.1 dL_does_122 rfl (lv_at hl 1 rfl) ?_
                  refine lv_bipush (v := nI (8)) X.1 X.2.1 dL_does_123 (by decide) ?_
                  refine b_icmp_ne (tgt := 137) X dL_does_125 (by decide) (a := ((9 : Nat) : Int)) (b := ((8 : Nat) : Int)) (nI_ti (by omega)) (nI_ti (by omega)) (fun c9 => ?_) (fun c9 => ?_)
                  · skip
                    refine lv_iload_n X.1 X.2.1 dL_does_137 rfl (lv_at hl 1 rfl) ?_
                    refine lv_bipush (v := nI (9)) X.1 X.2.1 dL_does_138 (by decide) ?_
                    refine b_icmp_ne (tgt := 151) X dL_does_140 (by decide) (a := ((9 : Nat) : Int)) (b := ((9 : Nat) : Int)) (nI_ti (by omega)) (nI_ti (by omega)) (fun c10 => ?_) (fun c10 => ?_)
                    · skip
                      exact absurd c10 (by first | decide | omega)
                    · skip
                      refine lv_aload_n X.1 X.2.1 dL_does_143 rfl (lv_at hl 0 rfl) ?_
                      refine lv_iload_n X.1 X.2.1 dL_does_144 rfl (lv_at hl 2 rfl) ?_
                      refine q_callE (C1 := ((va_up N 0 (N 0 + ix a)), (F), (B))) (v := nI (N 0 + ix a)) X hS hZ h ck_L_42 ki_X6_pass ks_X6_pass dL_does_145 (As := [.int (a)]) (fun MC cs => c_X6_pass l G x N F B MC cs a hst hI) rfl hl rfl (Nat.le_of_ble_eq_true rfl) ⟨Nat.le_of_ble_eq_true rfl, Nat.le_of_ble_eq_true rfl⟩ ⟨Nat.le_of_ble_eq_true rfl, Nat.le_of_ble_eq_true rfl⟩ (fun E9 ce q9 H locs hk h h1 h2 h3 => ?_) (fun H locs hk h => ?_)
                      · skip
                        obtain ⟨rfl, hk⟩ := hk
                        refine l_catch X ht [(0, 225, 226, 62)] (0, 225, 231, 65) [(0, 225, 236, 68)] rfl (fun z hz => by rw [List.mem_singleton.mp hz]; exact ⟨by decide, EIO, kclx_L_62, hN.1⟩) ⟨by decide, by decide⟩ (by decide) kclx_L_65 kca_EIA h1 h2 h3 rfl ?_
                        refine lv_astore (lv' := [(5, .ref q9), (0, .ref x), (1, .int (nI (9))), (2, .int (a)), (3, .int (b)), (4, .int (cz))]) X.1 X.2.1 dL_does_231 hl (by decide) rfl (fun ls hl => ?_)
                        refine lv_ldc (own := RL) (index := 67) (v := (-2000000)) X.1 X.2.1 X.2.2.2.1 (X.2.2.2.2.1.use kco_L_67) dL_does_233 ?_
                        exact q_iret X hr hlocks h dL_does_235 ⟨Nat.le_of_ble_eq_true rfl, Nat.le_of_ble_eq_true rfl⟩ (⟨by rw [hk]; rfl, by rw [hk]; rfl, rfl⟩)
                      · skip
                        refine lv_goto (tgt := 225) X.1 X.2.1 dL_does_148 (by decide) ?_
                        exact q_iret X hr hlocks h dL_does_225 ⟨Nat.le_of_ble_eq_true rfl, Nat.le_of_ble_eq_true rfl⟩ (⟨by rw [hk]; rfl, by rw [hk]; rfl, rfl⟩)
                  · skip
                    exact absurd c9 (by first | decide | omega)
                · skip
                  exact absurd c8 (by first | decide | omega)
              · skip
                exact absurd c7 (by first | decide | omega)
            · skip
              exact absurd c6 (by first | decide | omega)
          · skip
            exact absurd c5 (by first | decide | omega)
        · skip
          exact absurd c4 (by first | decide | omega)
      · skip
        exact absurd c3 (by first | decide | omega)
    · skip
      exact absurd c2 (by first | decide | omega)
  · skip
    exact absurd c1 (by first | decide | omega)
set_option maxHeartbeats 4000000 in
set_option maxRecDepth 100000 in
theorem c_L_does_stands (l : Launch) (G : mG) (x : Nat) (ar : Nat → Nat) (N : Nat → Nat) (F : Nat → Nat → Nat) (B : Nat → Int32) (D : LSt) (a b cz : Int32) (hst : l.stackTraces = false) (hI : Iv N F) : QLMet l yL_does cL_does 6 (some FieldType.int) hh_L_does ({ frames := 8, cells := 1, slots := 6, locals := 125 } : Room) G x ar [.ref x, .int (nI (10)), .int (a), .int (b), .int (cz)] (N, F, B) D (fun r C' D' => r = some (.int (dV (kOne (iR a (N 6))) (bI (goodS F (ix a))) (-3000000) 0 0)) ∧ C' = (if kOne (iR a (N 6)) = 0 then ((N), (F), (B)) else (N, F, B)) ∧ D = D') := by
  refine QLMet.of (by decide) (Nat.le_of_ble_eq_true rfl) ?_
  intro p e s m args below meth c A ls X hr hlocks hS hZ hN h hl ht
  have hl : lv_has ls 6 [(0, .ref x), (1, .int (nI (10))), (2, .int (a)), (3, .int (b)), (4, .int (cz))] := hl
  refine lv_iload_n X.1 X.2.1 dL_does_0 rfl (lv_at hl 1 rfl) ?_
  refine b_if_ne (tgt := 11) X dL_does_1 (by decide) (a := ((10 : Nat) : Int)) (nI_ti (by omega)) (fun c1 => ?_) (fun c1 => ?_)
  · skip
    refine lv_iload_n X.1 X.2.1 dL_does_11 rfl (lv_at hl 1 rfl) ?_
    refine lv_iconst (v := nI (1)) X.1 X.2.1 dL_does_12 (by decide) ?_
    refine b_icmp_ne (tgt := 25) X dL_does_13 (by decide) (a := ((10 : Nat) : Int)) (b := ((1 : Nat) : Int)) (nI_ti (by omega)) (nI_ti (by omega)) (fun c2 => ?_) (fun c2 => ?_)
    · skip
      refine lv_iload_n X.1 X.2.1 dL_does_25 rfl (lv_at hl 1 rfl) ?_
      refine lv_iconst (v := nI (2)) X.1 X.2.1 dL_does_26 (by decide) ?_
      refine b_icmp_ne (tgt := 41) X dL_does_27 (by decide) (a := ((10 : Nat) : Int)) (b := ((2 : Nat) : Int)) (nI_ti (by omega)) (nI_ti (by omega)) (fun c3 => ?_) (fun c3 => ?_)
      · skip
        refine lv_iload_n X.1 X.2.1 dL_does_41 rfl (lv_at hl 1 rfl) ?_
        refine lv_iconst (v := nI (3)) X.1 X.2.1 dL_does_42 (by decide) ?_
        refine b_icmp_ne (tgt := 53) X dL_does_43 (by decide) (a := ((10 : Nat) : Int)) (b := ((3 : Nat) : Int)) (nI_ti (by omega)) (nI_ti (by omega)) (fun c4 => ?_) (fun c4 => ?_)
        · skip
          refine lv_iload_n X.1 X.2.1 dL_does_53 rfl (lv_at hl 1 rfl) ?_
          refine lv_iconst (v := nI (4)) X.1 X.2.1 dL_does_54 (by decide) ?_
          refine b_icmp_ne (tgt := 77) X dL_does_55 (by decide) (a := ((10 : Nat) : Int)) (b := ((4 : Nat) : Int)) (nI_ti (by omega)) (nI_ti (by omega)) (fun c5 => ?_) (fun c5 => ?_)
          · skip
            refine lv_iload_n X.1 X.2.1 dL_does_77 rfl (lv_at hl 1 rfl) ?_
            refine lv_iconst (v := nI (5)) X.1 X.2.1 dL_does_78 (by decide) ?_
            refine b_icmp_ne (tgt := 93) X dL_does_79 (by decide) (a := ((10 : Nat) : Int)) (b := ((5 : Nat) : Int)) (nI_ti (by omega)) (nI_ti (by omega)) (fun c6 => ?_) (fun c6 => ?_)
            · skip
              refine lv_iload_n X.1 X.2.1 dL_does_93 rfl (lv_at hl 1 rfl) ?_
              refine lv_bipush (v := nI (6)) X.1 X.2.1 dL_does_94 (by decide) ?_
              refine b_icmp_ne (tgt := 108) X dL_does_96 (by decide) (a := ((10 : Nat) : Int)) (b := ((6 : Nat) : Int)) (nI_ti (by omega)) (nI_ti (by omega)) (fun c7 => ?_) (fun c7 => ?_)
              · skip
                refine lv_iload_n X.1 X.2.1 dL_does_108 rfl (lv_at hl 1 rfl) ?_
                refine lv_bipush (v := nI (7)) X.1 X.2.1 dL_does_109 (by decide) ?_
                refine b_icmp_ne (tgt := 122) X dL_does_111 (by decide) (a := ((10 : Nat) : Int)) (b := ((7 : Nat) : Int)) (nI_ti (by omega)) (nI_ti (by omega)) (fun c8 => ?_) (fun c8 => ?_)
                · skip
                  refine lv_iload_n X.1 X.2.1 dL_does_122 rfl (lv_at hl 1 rfl) ?_
                  refine lv_bipush (v := nI (8)) X.1 X.2.1 dL_does_123 (by decide) ?_
                  refine b_icmp_ne (tgt := 137) X dL_does_125 (by decide) (a := ((10 : Nat) : Int)) (b := ((8 : Nat) : Int)) (nI_ti (by omega)) (nI_ti (by omega)) (fun c9 => ?_) (fun c9 => ?_)
                  · skip
                    refine lv_iload_n X.1 X.2.1 dL_does_137 rfl (lv_at hl 1 rfl) ?_
                    refine lv_bipush (v := nI (9)) X.1 X.2.1 dL_does_138 (by decide) ?_
                    refine b_icmp_ne (tgt := 151) X dL_does_140 (by decide) (a := ((10 : Nat) : Int)) (b := ((9 : Nat) : Int)) (nI_ti (by omega)) (nI_ti (by omega)) (fun c10 => ?_) (fun c10 => ?_)
                    · skip
                      refine lv_iload_n X.1 X.2.1 dL_does_151 rfl (lv_at hl 1 rfl) ?_
                      refine lv_bipush (v := nI (10)) X.1 X.2.1 dL_does_152 (by decide) ?_
                      refine b_icmp_ne (tgt := 173) X dL_does_154 (by decide) (a := ((10 : Nat) : Int)) (b := ((10 : Nat) : Int)) (nI_ti (by omega)) (nI_ti (by omega)) (fun c11 => ?_) (fun c11 => ?_)
                      · skip
                        exact absurd c11 (by first | decide | omega)
                      · skip
                        refine lv_aload_n X.1 X.2.1 dL_does_157 rfl (lv_at hl 0 rfl) ?_
                        refine lv_iload_n X.1 X.2.1 dL_does_158 rfl (lv_at hl 2 rfl) ?_
                        refine q_callE (C1 := ((N), (F), (B))) (v := bI (goodS F (ix a))) X hS hZ h ck_L_45 ki_X6_stands ks_X6_stands dL_does_159 (As := [.int (a)]) (fun MC cs => c_X6_stands l G x N F B MC cs a hst hI) rfl hl rfl (Nat.le_of_ble_eq_true rfl) ⟨Nat.le_of_ble_eq_true rfl, Nat.le_of_ble_eq_true rfl⟩ ⟨Nat.le_of_ble_eq_true rfl, Nat.le_of_ble_eq_true rfl⟩ (fun E9 ce q9 H locs hk h h1 h2 h3 => ?_) (fun H locs hk h => ?_)
                        · skip
                          obtain ⟨rfl, hk⟩ := hk
                          refine l_catch X ht [] (0, 225, 226, 62) [(0, 225, 231, 65), (0, 225, 236, 68)] rfl (fun z hz => absurd hz List.not_mem_nil) ⟨by decide, by decide⟩ (by decide) kclx_L_62 kca_EIO h1 h2 h3 rfl ?_
                          refine lv_astore (lv' := [(5, .ref q9), (0, .ref x), (1, .int (nI (10))), (2, .int (a)), (3, .int (b)), (4, .int (cz))]) X.1 X.2.1 dL_does_226 hl (by decide) rfl (fun ls hl => ?_)
                          refine lv_ldc (own := RL) (index := 64) (v := (-3000000)) X.1 X.2.1 X.2.2.2.1 (X.2.2.2.2.1.use kco_L_64) dL_does_228 ?_
                          exact q_iret X hr hlocks h dL_does_230 ⟨Nat.le_of_ble_eq_true rfl, Nat.le_of_ble_eq_true rfl⟩ (⟨by rw [hk]; rfl, by rw [hk]; rfl, rfl⟩)
                        · skip
                          refine b_bool_eq (tgt := 169) X dL_does_162 (by decide) (fun c12 => ?_) (fun c12 => ?_)
                          · skip
                            refine lv_iconst (v := nI (0)) X.1 X.2.1 dL_does_169 (by decide) ?_
                            refine lv_goto (tgt := 225) X.1 X.2.1 dL_does_170 (by decide) ?_
                            exact q_iret X hr hlocks h dL_does_225 ⟨Nat.le_of_ble_eq_true rfl, Nat.le_of_ble_eq_true rfl⟩ (⟨by rw [hk]; show some (Value.int _) = some (.int (bI (goodS F (ix a)))); rw [c12]; rfl, by rw [hk]; rfl, rfl⟩)
                          · skip
                            refine lv_iconst (v := nI (1)) X.1 X.2.1 dL_does_165 (by decide) ?_
                            refine lv_goto (tgt := 225) X.1 X.2.1 dL_does_166 (by decide) ?_
                            exact q_iret X hr hlocks h dL_does_225 ⟨Nat.le_of_ble_eq_true rfl, Nat.le_of_ble_eq_true rfl⟩ (⟨by rw [hk]; show some (Value.int _) = some (.int (bI (goodS F (ix a)))); rw [c12]; rfl, by rw [hk]; rfl, rfl⟩)
                    · skip
                      exact absurd c10 (by first | decide | omega)
                  · skip
                    exact absurd c9 (by first | decide | omega)
                · skip
                  exact absurd c8 (by first | decide | omega)
              · skip
                exact absurd c7 (by first | decide | omega)
            · skip
              exact absurd c6 (by first | decide | omega)
          · skip
            exact absurd c5 (by first | decide | omega)
        · skip
          exact absurd c4 (by first | decide | omega)
      · skip
        exact absurd c3 (by first | decide | omega)
    · skip
      exact absurd c2 (by first | decide | omega)
  · skip
    exact absurd c1 (by first | decide | omega)
set_option maxHeartbeats 4000000 in
set_option maxRecDepth 100000 in
theorem c_L_does_ranked (l : Launch) (G : mG) (x : Nat) (ar : Nat → Nat) (N : Nat → Nat) (F : Nat → Nat → Nat) (B : Nat → Int32) (D : LSt) (a b cz : Int32) (hst : l.stackTraces = false) (hI : Iv N F) : QLMet l yL_does cL_does 6 (some FieldType.int) hh_L_does ({ frames := 8, cells := 3, slots := 18, locals := 129 } : Room) G x ar [.ref x, .int (nI (11)), .int (a), .int (b), .int (cz)] (N, F, B) D (fun r C' D' => r = some (.int (dV (kRanked N a b cz) (nI (vRanked N F (ix a) (ix b) (ix cz))) (-3000000) (-2000000) 0)) ∧ C' = (if kRanked N a b cz = 0 then ((N), (F), (B)) else (N, F, B)) ∧ D = D') := by
  refine QLMet.of (by decide) (Nat.le_of_ble_eq_true rfl) ?_
  intro p e s m args below meth c A ls X hr hlocks hS hZ hN h hl ht
  have hl : lv_has ls 6 [(0, .ref x), (1, .int (nI (11))), (2, .int (a)), (3, .int (b)), (4, .int (cz))] := hl
  refine lv_iload_n X.1 X.2.1 dL_does_0 rfl (lv_at hl 1 rfl) ?_
  refine b_if_ne (tgt := 11) X dL_does_1 (by decide) (a := ((11 : Nat) : Int)) (nI_ti (by omega)) (fun c1 => ?_) (fun c1 => ?_)
  · skip
    refine lv_iload_n X.1 X.2.1 dL_does_11 rfl (lv_at hl 1 rfl) ?_
    refine lv_iconst (v := nI (1)) X.1 X.2.1 dL_does_12 (by decide) ?_
    refine b_icmp_ne (tgt := 25) X dL_does_13 (by decide) (a := ((11 : Nat) : Int)) (b := ((1 : Nat) : Int)) (nI_ti (by omega)) (nI_ti (by omega)) (fun c2 => ?_) (fun c2 => ?_)
    · skip
      refine lv_iload_n X.1 X.2.1 dL_does_25 rfl (lv_at hl 1 rfl) ?_
      refine lv_iconst (v := nI (2)) X.1 X.2.1 dL_does_26 (by decide) ?_
      refine b_icmp_ne (tgt := 41) X dL_does_27 (by decide) (a := ((11 : Nat) : Int)) (b := ((2 : Nat) : Int)) (nI_ti (by omega)) (nI_ti (by omega)) (fun c3 => ?_) (fun c3 => ?_)
      · skip
        refine lv_iload_n X.1 X.2.1 dL_does_41 rfl (lv_at hl 1 rfl) ?_
        refine lv_iconst (v := nI (3)) X.1 X.2.1 dL_does_42 (by decide) ?_
        refine b_icmp_ne (tgt := 53) X dL_does_43 (by decide) (a := ((11 : Nat) : Int)) (b := ((3 : Nat) : Int)) (nI_ti (by omega)) (nI_ti (by omega)) (fun c4 => ?_) (fun c4 => ?_)
        · skip
          refine lv_iload_n X.1 X.2.1 dL_does_53 rfl (lv_at hl 1 rfl) ?_
          refine lv_iconst (v := nI (4)) X.1 X.2.1 dL_does_54 (by decide) ?_
          refine b_icmp_ne (tgt := 77) X dL_does_55 (by decide) (a := ((11 : Nat) : Int)) (b := ((4 : Nat) : Int)) (nI_ti (by omega)) (nI_ti (by omega)) (fun c5 => ?_) (fun c5 => ?_)
          · skip
            refine lv_iload_n X.1 X.2.1 dL_does_77 rfl (lv_at hl 1 rfl) ?_
            refine lv_iconst (v := nI (5)) X.1 X.2.1 dL_does_78 (by decide) ?_
            refine b_icmp_ne (tgt := 93) X dL_does_79 (by decide) (a := ((11 : Nat) : Int)) (b := ((5 : Nat) : Int)) (nI_ti (by omega)) (nI_ti (by omega)) (fun c6 => ?_) (fun c6 => ?_)
            · skip
              refine lv_iload_n X.1 X.2.1 dL_does_93 rfl (lv_at hl 1 rfl) ?_
              refine lv_bipush (v := nI (6)) X.1 X.2.1 dL_does_94 (by decide) ?_
              refine b_icmp_ne (tgt := 108) X dL_does_96 (by decide) (a := ((11 : Nat) : Int)) (b := ((6 : Nat) : Int)) (nI_ti (by omega)) (nI_ti (by omega)) (fun c7 => ?_) (fun c7 => ?_)
              · skip
                refine lv_iload_n X.1 X.2.1 dL_does_108 rfl (lv_at hl 1 rfl) ?_
                refine lv_bipush (v := nI (7)) X.1 X.2.1 dL_does_109 (by decide) ?_
                refine b_icmp_ne (tgt := 122) X dL_does_111 (by decide) (a := ((11 : Nat) : Int)) (b := ((7 : Nat) : Int)) (nI_ti (by omega)) (nI_ti (by omega)) (fun c8 => ?_) (fun c8 => ?_)
                · skip
                  refine lv_iload_n X.1 X.2.1 dL_does_122 rfl (lv_at hl 1 rfl) ?_
                  refine lv_bipush (v := nI (8)) X.1 X.2.1 dL_does_123 (by decide) ?_
                  refine b_icmp_ne (tgt := 137) X dL_does_125 (by decide) (a := ((11 : Nat) : Int)) (b := ((8 : Nat) : Int)) (nI_ti (by omega)) (nI_ti (by omega)) (fun c9 => ?_) (fun c9 => ?_)
                  · skip
                    refine lv_iload_n X.1 X.2.1 dL_does_137 rfl (lv_at hl 1 rfl) ?_
                    refine lv_bipush (v := nI (9)) X.1 X.2.1 dL_does_138 (by decide) ?_
                    refine b_icmp_ne (tgt := 151) X dL_does_140 (by decide) (a := ((11 : Nat) : Int)) (b := ((9 : Nat) : Int)) (nI_ti (by omega)) (nI_ti (by omega)) (fun c10 => ?_) (fun c10 => ?_)
                    · skip
                      refine lv_iload_n X.1 X.2.1 dL_does_151 rfl (lv_at hl 1 rfl) ?_
                      refine lv_bipush (v := nI (10)) X.1 X.2.1 dL_does_152 (by decide) ?_
                      refine b_icmp_ne (tgt := 173) X dL_does_154 (by decide) (a := ((11 : Nat) : Int)) (b := ((10 : Nat) : Int)) (nI_ti (by omega)) (nI_ti (by omega)) (fun c11 => ?_) (fun c11 => ?_)
                      · skip
                        refine lv_iload_n X.1 X.2.1 dL_does_173 rfl (lv_at hl 1 rfl) ?_
                        refine lv_bipush (v := nI (11)) X.1 X.2.1 dL_does_174 (by decide) ?_
                        refine b_icmp_ne (tgt := 190) X dL_does_176 (by decide) (a := ((11 : Nat) : Int)) (b := ((11 : Nat) : Int)) (nI_ti (by omega)) (nI_ti (by omega)) (fun c12 => ?_) (fun c12 => ?_)
                        · skip
                          exact absurd c12 (by first | decide | omega)
                        · skip
                          refine lv_aload_n X.1 X.2.1 dL_does_179 rfl (lv_at hl 0 rfl) ?_
                          refine lv_iload_n X.1 X.2.1 dL_does_180 rfl (lv_at hl 2 rfl) ?_
                          refine lv_iload_n X.1 X.2.1 dL_does_181 rfl (lv_at hl 3 rfl) ?_
                          refine lv_iload X.1 X.2.1 dL_does_182 (lv_at hl 4 rfl) ?_
                          refine q_callE (C1 := ((N), (F), (B))) (v := nI (vRanked N F (ix a) (ix b) (ix cz))) X hS hZ h ck_L_49 ki_X6_ranked ks_X6_ranked dL_does_184 (As := [.int (a), .int (b), .int (cz)]) (fun MC cs => c_X6_ranked l G x N F B MC cs a b cz hst hI) rfl hl rfl (Nat.le_of_ble_eq_true rfl) ⟨Nat.le_of_ble_eq_true rfl, Nat.le_of_ble_eq_true rfl⟩ ⟨Nat.le_of_ble_eq_true rfl, Nat.le_of_ble_eq_true rfl⟩ (fun E9 ce q9 H locs hk h h1 h2 h3 => ?_) (fun H locs hk h => ?_)
                          · skip
                            rcases hk with ⟨rfl, hk⟩ | ⟨rfl, hk⟩
                            · skip
                              refine l_catch X ht [] (0, 225, 226, 62) [(0, 225, 231, 65), (0, 225, 236, 68)] rfl (fun z hz => absurd hz List.not_mem_nil) ⟨by decide, by decide⟩ (by decide) kclx_L_62 kca_EIO h1 h2 h3 rfl ?_
                              refine lv_astore (lv' := [(5, .ref q9), (0, .ref x), (1, .int (nI (11))), (2, .int (a)), (3, .int (b)), (4, .int (cz))]) X.1 X.2.1 dL_does_226 hl (by decide) rfl (fun ls hl => ?_)
                              refine lv_ldc (own := RL) (index := 64) (v := (-3000000)) X.1 X.2.1 X.2.2.2.1 (X.2.2.2.2.1.use kco_L_64) dL_does_228 ?_
                              exact q_iret X hr hlocks h dL_does_230 ⟨Nat.le_of_ble_eq_true rfl, Nat.le_of_ble_eq_true rfl⟩ (⟨by rw [hk]; rfl, by rw [hk]; rfl, rfl⟩)
                            · skip
                              refine l_catch X ht [(0, 225, 226, 62)] (0, 225, 231, 65) [(0, 225, 236, 68)] rfl (fun z hz => by rw [List.mem_singleton.mp hz]; exact ⟨by decide, EIO, kclx_L_62, hN.1⟩) ⟨by decide, by decide⟩ (by decide) kclx_L_65 kca_EIA h1 h2 h3 rfl ?_
                              refine lv_astore (lv' := [(5, .ref q9), (0, .ref x), (1, .int (nI (11))), (2, .int (a)), (3, .int (b)), (4, .int (cz))]) X.1 X.2.1 dL_does_231 hl (by decide) rfl (fun ls hl => ?_)
                              refine lv_ldc (own := RL) (index := 67) (v := (-2000000)) X.1 X.2.1 X.2.2.2.1 (X.2.2.2.2.1.use kco_L_67) dL_does_233 ?_
                              exact q_iret X hr hlocks h dL_does_235 ⟨Nat.le_of_ble_eq_true rfl, Nat.le_of_ble_eq_true rfl⟩ (⟨by rw [hk]; rfl, by rw [hk]; rfl, rfl⟩)
                          · skip
                            refine lv_goto (tgt := 225) X.1 X.2.1 dL_does_187 (by decide) ?_
                            exact q_iret X hr hlocks h dL_does_225 ⟨Nat.le_of_ble_eq_true rfl, Nat.le_of_ble_eq_true rfl⟩ (⟨by rw [hk]; rfl, by rw [hk]; rfl, rfl⟩)
                      · skip
                        exact absurd c11 (by first | decide | omega)
                    · skip
                      exact absurd c10 (by first | decide | omega)
                  · skip
                    exact absurd c9 (by first | decide | omega)
                · skip
                  exact absurd c8 (by first | decide | omega)
              · skip
                exact absurd c7 (by first | decide | omega)
            · skip
              exact absurd c6 (by first | decide | omega)
          · skip
            exact absurd c5 (by first | decide | omega)
        · skip
          exact absurd c4 (by first | decide | omega)
      · skip
        exact absurd c3 (by first | decide | omega)
    · skip
      exact absurd c2 (by first | decide | omega)
  · skip
    exact absurd c1 (by first | decide | omega)
set_option maxHeartbeats 4000000 in
set_option maxRecDepth 100000 in
theorem c_L_does_skinOf (l : Launch) (G : mG) (x : Nat) (ar : Nat → Nat) (N : Nat → Nat) (F : Nat → Nat → Nat) (B : Nat → Int32) (D : LSt) (a b cz : Int32) (hst : l.stackTraces = false) (hI : Iv N F) (hJ : Jv N F B) : QLMet l yL_does cL_does 6 (some FieldType.int) hh_L_does ({ frames := 8, cells := 2, slots := 12, locals := 127 } : Room) G x ar [.ref x, .int (nI (12)), .int (a), .int (b), .int (cz)] (N, F, B) D (fun r C' D' => r = some (.int (dV (kSkinOf N a b) (vSkinOf N F (ix a) (ix b)) (-3000000) (-2000000) 0)) ∧ C' = (if kSkinOf N a b = 0 then ((N), (F), (B)) else (N, F, B)) ∧ D = D') := by
  refine QLMet.of (by decide) (Nat.le_of_ble_eq_true rfl) ?_
  intro p e s m args below meth c A ls X hr hlocks hS hZ hN h hl ht
  have hl : lv_has ls 6 [(0, .ref x), (1, .int (nI (12))), (2, .int (a)), (3, .int (b)), (4, .int (cz))] := hl
  refine lv_iload_n X.1 X.2.1 dL_does_0 rfl (lv_at hl 1 rfl) ?_
  refine b_if_ne (tgt := 11) X dL_does_1 (by decide) (a := ((12 : Nat) : Int)) (nI_ti (by omega)) (fun c1 => ?_) (fun c1 => ?_)
  · skip
    refine lv_iload_n X.1 X.2.1 dL_does_11 rfl (lv_at hl 1 rfl) ?_
    refine lv_iconst (v := nI (1)) X.1 X.2.1 dL_does_12 (by decide) ?_
    refine b_icmp_ne (tgt := 25) X dL_does_13 (by decide) (a := ((12 : Nat) : Int)) (b := ((1 : Nat) : Int)) (nI_ti (by omega)) (nI_ti (by omega)) (fun c2 => ?_) (fun c2 => ?_)
    · skip
      refine lv_iload_n X.1 X.2.1 dL_does_25 rfl (lv_at hl 1 rfl) ?_
      refine lv_iconst (v := nI (2)) X.1 X.2.1 dL_does_26 (by decide) ?_
      refine b_icmp_ne (tgt := 41) X dL_does_27 (by decide) (a := ((12 : Nat) : Int)) (b := ((2 : Nat) : Int)) (nI_ti (by omega)) (nI_ti (by omega)) (fun c3 => ?_) (fun c3 => ?_)
      · skip
        refine lv_iload_n X.1 X.2.1 dL_does_41 rfl (lv_at hl 1 rfl) ?_
        refine lv_iconst (v := nI (3)) X.1 X.2.1 dL_does_42 (by decide) ?_
        refine b_icmp_ne (tgt := 53) X dL_does_43 (by decide) (a := ((12 : Nat) : Int)) (b := ((3 : Nat) : Int)) (nI_ti (by omega)) (nI_ti (by omega)) (fun c4 => ?_) (fun c4 => ?_)
        · skip
          refine lv_iload_n X.1 X.2.1 dL_does_53 rfl (lv_at hl 1 rfl) ?_
          refine lv_iconst (v := nI (4)) X.1 X.2.1 dL_does_54 (by decide) ?_
          refine b_icmp_ne (tgt := 77) X dL_does_55 (by decide) (a := ((12 : Nat) : Int)) (b := ((4 : Nat) : Int)) (nI_ti (by omega)) (nI_ti (by omega)) (fun c5 => ?_) (fun c5 => ?_)
          · skip
            refine lv_iload_n X.1 X.2.1 dL_does_77 rfl (lv_at hl 1 rfl) ?_
            refine lv_iconst (v := nI (5)) X.1 X.2.1 dL_does_78 (by decide) ?_
            refine b_icmp_ne (tgt := 93) X dL_does_79 (by decide) (a := ((12 : Nat) : Int)) (b := ((5 : Nat) : Int)) (nI_ti (by omega)) (nI_ti (by omega)) (fun c6 => ?_) (fun c6 => ?_)
            · skip
              refine lv_iload_n X.1 X.2.1 dL_does_93 rfl (lv_at hl 1 rfl) ?_
              refine lv_bipush (v := nI (6)) X.1 X.2.1 dL_does_94 (by decide) ?_
              refine b_icmp_ne (tgt := 108) X dL_does_96 (by decide) (a := ((12 : Nat) : Int)) (b := ((6 : Nat) : Int)) (nI_ti (by omega)) (nI_ti (by omega)) (fun c7 => ?_) (fun c7 => ?_)
              · skip
                refine lv_iload_n X.1 X.2.1 dL_does_108 rfl (lv_at hl 1 rfl) ?_
                refine lv_bipush (v := nI (7)) X.1 X.2.1 dL_does_109 (by decide) ?_
                refine b_icmp_ne (tgt := 122) X dL_does_111 (by decide) (a := ((12 : Nat) : Int)) (b := ((7 : Nat) : Int)) (nI_ti (by omega)) (nI_ti (by omega)) (fun c8 => ?_) (fun c8 => ?_)
                · skip
                  refine lv_iload_n X.1 X.2.1 dL_does_122 rfl (lv_at hl 1 rfl) ?_
                  refine lv_bipush (v := nI (8)) X.1 X.2.1 dL_does_123 (by decide) ?_
                  refine b_icmp_ne (tgt := 137) X dL_does_125 (by decide) (a := ((12 : Nat) : Int)) (b := ((8 : Nat) : Int)) (nI_ti (by omega)) (nI_ti (by omega)) (fun c9 => ?_) (fun c9 => ?_)
                  · skip
                    refine lv_iload_n X.1 X.2.1 dL_does_137 rfl (lv_at hl 1 rfl) ?_
                    refine lv_bipush (v := nI (9)) X.1 X.2.1 dL_does_138 (by decide) ?_
                    refine b_icmp_ne (tgt := 151) X dL_does_140 (by decide) (a := ((12 : Nat) : Int)) (b := ((9 : Nat) : Int)) (nI_ti (by omega)) (nI_ti (by omega)) (fun c10 => ?_) (fun c10 => ?_)
                    · skip
                      refine lv_iload_n X.1 X.2.1 dL_does_151 rfl (lv_at hl 1 rfl) ?_
                      refine lv_bipush (v := nI (10)) X.1 X.2.1 dL_does_152 (by decide) ?_
                      refine b_icmp_ne (tgt := 173) X dL_does_154 (by decide) (a := ((12 : Nat) : Int)) (b := ((10 : Nat) : Int)) (nI_ti (by omega)) (nI_ti (by omega)) (fun c11 => ?_) (fun c11 => ?_)
                      · skip
                        refine lv_iload_n X.1 X.2.1 dL_does_173 rfl (lv_at hl 1 rfl) ?_
                        refine lv_bipush (v := nI (11)) X.1 X.2.1 dL_does_174 (by decide) ?_
                        refine b_icmp_ne (tgt := 190) X dL_does_176 (by decide) (a := ((12 : Nat) : Int)) (b := ((11 : Nat) : Int)) (nI_ti (by omega)) (nI_ti (by omega)) (fun c12 => ?_) (fun c12 => ?_)
                        · skip
                          refine lv_iload_n X.1 X.2.1 dL_does_190 rfl (lv_at hl 1 rfl) ?_
                          refine lv_bipush (v := nI (12)) X.1 X.2.1 dL_does_191 (by decide) ?_
                          refine b_icmp_ne (tgt := 205) X dL_does_193 (by decide) (a := ((12 : Nat) : Int)) (b := ((12 : Nat) : Int)) (nI_ti (by omega)) (nI_ti (by omega)) (fun c13 => ?_) (fun c13 => ?_)
                          · skip
                            exact absurd c13 (by first | decide | omega)
                          · skip
                            refine lv_aload_n X.1 X.2.1 dL_does_196 rfl (lv_at hl 0 rfl) ?_
                            refine lv_iload_n X.1 X.2.1 dL_does_197 rfl (lv_at hl 2 rfl) ?_
                            refine lv_iload_n X.1 X.2.1 dL_does_198 rfl (lv_at hl 3 rfl) ?_
                            refine q_callE (C1 := ((N), (F), (B))) (v := vSkinOf N F (ix a) (ix b)) X hS hZ h ck_L_52 ki_X6_skinOf ks_X6_skinOf dL_does_199 (As := [.int (a), .int (b)]) (fun MC cs => c_X6_skinOf l G x N F B MC cs a b hst hI hJ) rfl hl rfl (Nat.le_of_ble_eq_true rfl) ⟨Nat.le_of_ble_eq_true rfl, Nat.le_of_ble_eq_true rfl⟩ ⟨Nat.le_of_ble_eq_true rfl, Nat.le_of_ble_eq_true rfl⟩ (fun E9 ce q9 H locs hk h h1 h2 h3 => ?_) (fun H locs hk h => ?_)
                            · skip
                              rcases hk with ⟨rfl, hk⟩ | ⟨rfl, hk⟩
                              · skip
                                refine l_catch X ht [] (0, 225, 226, 62) [(0, 225, 231, 65), (0, 225, 236, 68)] rfl (fun z hz => absurd hz List.not_mem_nil) ⟨by decide, by decide⟩ (by decide) kclx_L_62 kca_EIO h1 h2 h3 rfl ?_
                                refine lv_astore (lv' := [(5, .ref q9), (0, .ref x), (1, .int (nI (12))), (2, .int (a)), (3, .int (b)), (4, .int (cz))]) X.1 X.2.1 dL_does_226 hl (by decide) rfl (fun ls hl => ?_)
                                refine lv_ldc (own := RL) (index := 64) (v := (-3000000)) X.1 X.2.1 X.2.2.2.1 (X.2.2.2.2.1.use kco_L_64) dL_does_228 ?_
                                exact q_iret X hr hlocks h dL_does_230 ⟨Nat.le_of_ble_eq_true rfl, Nat.le_of_ble_eq_true rfl⟩ (⟨by rw [hk]; rfl, by rw [hk]; rfl, rfl⟩)
                              · skip
                                refine l_catch X ht [(0, 225, 226, 62)] (0, 225, 231, 65) [(0, 225, 236, 68)] rfl (fun z hz => by rw [List.mem_singleton.mp hz]; exact ⟨by decide, EIO, kclx_L_62, hN.1⟩) ⟨by decide, by decide⟩ (by decide) kclx_L_65 kca_EIA h1 h2 h3 rfl ?_
                                refine lv_astore (lv' := [(5, .ref q9), (0, .ref x), (1, .int (nI (12))), (2, .int (a)), (3, .int (b)), (4, .int (cz))]) X.1 X.2.1 dL_does_231 hl (by decide) rfl (fun ls hl => ?_)
                                refine lv_ldc (own := RL) (index := 67) (v := (-2000000)) X.1 X.2.1 X.2.2.2.1 (X.2.2.2.2.1.use kco_L_67) dL_does_233 ?_
                                exact q_iret X hr hlocks h dL_does_235 ⟨Nat.le_of_ble_eq_true rfl, Nat.le_of_ble_eq_true rfl⟩ (⟨by rw [hk]; rfl, by rw [hk]; rfl, rfl⟩)
                            · skip
                              refine lv_goto (tgt := 225) X.1 X.2.1 dL_does_202 (by decide) ?_
                              exact q_iret X hr hlocks h dL_does_225 ⟨Nat.le_of_ble_eq_true rfl, Nat.le_of_ble_eq_true rfl⟩ (⟨by rw [hk]; rfl, by rw [hk]; rfl, rfl⟩)
                        · skip
                          exact absurd c12 (by first | decide | omega)
                      · skip
                        exact absurd c11 (by first | decide | omega)
                    · skip
                      exact absurd c10 (by first | decide | omega)
                  · skip
                    exact absurd c9 (by first | decide | omega)
                · skip
                  exact absurd c8 (by first | decide | omega)
              · skip
                exact absurd c7 (by first | decide | omega)
            · skip
              exact absurd c6 (by first | decide | omega)
          · skip
            exact absurd c5 (by first | decide | omega)
        · skip
          exact absurd c4 (by first | decide | omega)
      · skip
        exact absurd c3 (by first | decide | omega)
    · skip
      exact absurd c2 (by first | decide | omega)
  · skip
    exact absurd c1 (by first | decide | omega)
set_option maxHeartbeats 4000000 in
set_option maxRecDepth 100000 in
theorem c_L_does_label (l : Launch) (G : mG) (x : Nat) (ar : Nat → Nat) (N : Nat → Nat) (F : Nat → Nat → Nat) (B : Nat → Int32) (D : LSt) (a b cz : Int32) (hst : l.stackTraces = false) (hI : Iv N F) : QLMet l yL_does cL_does 6 (some FieldType.int) hh_L_does ({ frames := 8, cells := 3, slots := 26, locals := 128 } : Room) G x ar [.ref x, .int (nI (14)), .int (a), .int (b), .int (cz)] (N, F, B) D (fun r C' D' => r = some (.int (dV (kLabel N a b) (vLabel F (ix a) (ix b)) (-3000000) 0 0)) ∧ C' = (if kLabel N a b = 0 then ((N), (F), (B)) else (N, F, B)) ∧ D = D') := by
  refine QLMet.of (by decide) (Nat.le_of_ble_eq_true rfl) ?_
  intro p e s m args below meth c A ls X hr hlocks hS hZ hN h hl ht
  have hl : lv_has ls 6 [(0, .ref x), (1, .int (nI (14))), (2, .int (a)), (3, .int (b)), (4, .int (cz))] := hl
  refine lv_iload_n X.1 X.2.1 dL_does_0 rfl (lv_at hl 1 rfl) ?_
  refine b_if_ne (tgt := 11) X dL_does_1 (by decide) (a := ((14 : Nat) : Int)) (nI_ti (by omega)) (fun c1 => ?_) (fun c1 => ?_)
  · skip
    refine lv_iload_n X.1 X.2.1 dL_does_11 rfl (lv_at hl 1 rfl) ?_
    refine lv_iconst (v := nI (1)) X.1 X.2.1 dL_does_12 (by decide) ?_
    refine b_icmp_ne (tgt := 25) X dL_does_13 (by decide) (a := ((14 : Nat) : Int)) (b := ((1 : Nat) : Int)) (nI_ti (by omega)) (nI_ti (by omega)) (fun c2 => ?_) (fun c2 => ?_)
    · skip
      refine lv_iload_n X.1 X.2.1 dL_does_25 rfl (lv_at hl 1 rfl) ?_
      refine lv_iconst (v := nI (2)) X.1 X.2.1 dL_does_26 (by decide) ?_
      refine b_icmp_ne (tgt := 41) X dL_does_27 (by decide) (a := ((14 : Nat) : Int)) (b := ((2 : Nat) : Int)) (nI_ti (by omega)) (nI_ti (by omega)) (fun c3 => ?_) (fun c3 => ?_)
      · skip
        refine lv_iload_n X.1 X.2.1 dL_does_41 rfl (lv_at hl 1 rfl) ?_
        refine lv_iconst (v := nI (3)) X.1 X.2.1 dL_does_42 (by decide) ?_
        refine b_icmp_ne (tgt := 53) X dL_does_43 (by decide) (a := ((14 : Nat) : Int)) (b := ((3 : Nat) : Int)) (nI_ti (by omega)) (nI_ti (by omega)) (fun c4 => ?_) (fun c4 => ?_)
        · skip
          refine lv_iload_n X.1 X.2.1 dL_does_53 rfl (lv_at hl 1 rfl) ?_
          refine lv_iconst (v := nI (4)) X.1 X.2.1 dL_does_54 (by decide) ?_
          refine b_icmp_ne (tgt := 77) X dL_does_55 (by decide) (a := ((14 : Nat) : Int)) (b := ((4 : Nat) : Int)) (nI_ti (by omega)) (nI_ti (by omega)) (fun c5 => ?_) (fun c5 => ?_)
          · skip
            refine lv_iload_n X.1 X.2.1 dL_does_77 rfl (lv_at hl 1 rfl) ?_
            refine lv_iconst (v := nI (5)) X.1 X.2.1 dL_does_78 (by decide) ?_
            refine b_icmp_ne (tgt := 93) X dL_does_79 (by decide) (a := ((14 : Nat) : Int)) (b := ((5 : Nat) : Int)) (nI_ti (by omega)) (nI_ti (by omega)) (fun c6 => ?_) (fun c6 => ?_)
            · skip
              refine lv_iload_n X.1 X.2.1 dL_does_93 rfl (lv_at hl 1 rfl) ?_
              refine lv_bipush (v := nI (6)) X.1 X.2.1 dL_does_94 (by decide) ?_
              refine b_icmp_ne (tgt := 108) X dL_does_96 (by decide) (a := ((14 : Nat) : Int)) (b := ((6 : Nat) : Int)) (nI_ti (by omega)) (nI_ti (by omega)) (fun c7 => ?_) (fun c7 => ?_)
              · skip
                refine lv_iload_n X.1 X.2.1 dL_does_108 rfl (lv_at hl 1 rfl) ?_
                refine lv_bipush (v := nI (7)) X.1 X.2.1 dL_does_109 (by decide) ?_
                refine b_icmp_ne (tgt := 122) X dL_does_111 (by decide) (a := ((14 : Nat) : Int)) (b := ((7 : Nat) : Int)) (nI_ti (by omega)) (nI_ti (by omega)) (fun c8 => ?_) (fun c8 => ?_)
                · skip
                  refine lv_iload_n X.1 X.2.1 dL_does_122 rfl (lv_at hl 1 rfl) ?_
                  refine lv_bipush (v := nI (8)) X.1 X.2.1 dL_does_123 (by decide) ?_
                  refine b_icmp_ne (tgt := 137) X dL_does_125 (by decide) (a := ((14 : Nat) : Int)) (b := ((8 : Nat) : Int)) (nI_ti (by omega)) (nI_ti (by omega)) (fun c9 => ?_) (fun c9 => ?_)
                  · skip
                    refine lv_iload_n X.1 X.2.1 dL_does_137 rfl (lv_at hl 1 rfl) ?_
                    refine lv_bipush (v := nI (9)) X.1 X.2.1 dL_does_138 (by decide) ?_
                    refine b_icmp_ne (tgt := 151) X dL_does_140 (by decide) (a := ((14 : Nat) : Int)) (b := ((9 : Nat) : Int)) (nI_ti (by omega)) (nI_ti (by omega)) (fun c10 => ?_) (fun c10 => ?_)
                    · skip
                      refine lv_iload_n X.1 X.2.1 dL_does_151 rfl (lv_at hl 1 rfl) ?_
                      refine lv_bipush (v := nI (10)) X.1 X.2.1 dL_does_152 (by decide) ?_
                      refine b_icmp_ne (tgt := 173) X dL_does_154 (by decide) (a := ((14 : Nat) : Int)) (b := ((10 : Nat) : Int)) (nI_ti (by omega)) (nI_ti (by omega)) (fun c11 => ?_) (fun c11 => ?_)
                      · skip
                        refine lv_iload_n X.1 X.2.1 dL_does_173 rfl (lv_at hl 1 rfl) ?_
                        refine lv_bipush (v := nI (11)) X.1 X.2.1 dL_does_174 (by decide) ?_
                        refine b_icmp_ne (tgt := 190) X dL_does_176 (by decide) (a := ((14 : Nat) : Int)) (b := ((11 : Nat) : Int)) (nI_ti (by omega)) (nI_ti (by omega)) (fun c12 => ?_) (fun c12 => ?_)
                        · skip
                          refine lv_iload_n X.1 X.2.1 dL_does_190 rfl (lv_at hl 1 rfl) ?_
                          refine lv_bipush (v := nI (12)) X.1 X.2.1 dL_does_191 (by decide) ?_
                          refine b_icmp_ne (tgt := 205) X dL_does_193 (by decide) (a := ((14 : Nat) : Int)) (b := ((12 : Nat) : Int)) (nI_ti (by omega)) (nI_ti (by omega)) (fun c13 => ?_) (fun c13 => ?_)
                          · skip
                            refine lv_iload_n X.1 X.2.1 dL_does_205 rfl (lv_at hl 1 rfl) ?_
                            refine lv_bipush (v := nI (13)) X.1 X.2.1 dL_does_206 (by decide) ?_
                            refine b_icmp_ne (tgt := 219) X dL_does_208 (by decide) (a := ((14 : Nat) : Int)) (b := ((13 : Nat) : Int)) (nI_ti (by omega)) (nI_ti (by omega)) (fun c14 => ?_) (fun c14 => ?_)
                            · skip
                              refine lv_aload_n X.1 X.2.1 dL_does_219 rfl (lv_at hl 0 rfl) ?_
                              refine lv_iload_n X.1 X.2.1 dL_does_220 rfl (lv_at hl 2 rfl) ?_
                              refine lv_iload_n X.1 X.2.1 dL_does_221 rfl (lv_at hl 3 rfl) ?_
                              refine q_callE (C1 := ((N), (F), (B))) (v := vLabel F (ix a) (ix b)) X hS hZ h ck_L_58 ki_X6_label ks_X6_label dL_does_222 (As := [.int (a), .int (b)]) (fun MC cs => c_X6_label l G x N F B MC cs a b hst hI) rfl hl rfl (Nat.le_of_ble_eq_true rfl) ⟨Nat.le_of_ble_eq_true rfl, Nat.le_of_ble_eq_true rfl⟩ ⟨Nat.le_of_ble_eq_true rfl, Nat.le_of_ble_eq_true rfl⟩ (fun E9 ce q9 H locs hk h h1 h2 h3 => ?_) (fun H locs hk h => ?_)
                              · skip
                                obtain ⟨rfl, hk⟩ := hk
                                refine l_catch X ht [] (0, 225, 226, 62) [(0, 225, 231, 65), (0, 225, 236, 68)] rfl (fun z hz => absurd hz List.not_mem_nil) ⟨by decide, by decide⟩ (by decide) kclx_L_62 kca_EIO h1 h2 h3 rfl ?_
                                refine lv_astore (lv' := [(5, .ref q9), (0, .ref x), (1, .int (nI (14))), (2, .int (a)), (3, .int (b)), (4, .int (cz))]) X.1 X.2.1 dL_does_226 hl (by decide) rfl (fun ls hl => ?_)
                                refine lv_ldc (own := RL) (index := 64) (v := (-3000000)) X.1 X.2.1 X.2.2.2.1 (X.2.2.2.2.1.use kco_L_64) dL_does_228 ?_
                                exact q_iret X hr hlocks h dL_does_230 ⟨Nat.le_of_ble_eq_true rfl, Nat.le_of_ble_eq_true rfl⟩ (⟨by rw [hk]; rfl, by rw [hk]; rfl, rfl⟩)
                              · skip
                                exact q_iret X hr hlocks h dL_does_225 ⟨Nat.le_of_ble_eq_true rfl, Nat.le_of_ble_eq_true rfl⟩ (⟨by rw [hk]; rfl, by rw [hk]; rfl, rfl⟩)
                            · skip
                              exact absurd c14 (by first | decide | omega)
                          · skip
                            exact absurd c13 (by first | decide | omega)
                        · skip
                          exact absurd c12 (by first | decide | omega)
                      · skip
                        exact absurd c11 (by first | decide | omega)
                    · skip
                      exact absurd c10 (by first | decide | omega)
                  · skip
                    exact absurd c9 (by first | decide | omega)
                · skip
                  exact absurd c8 (by first | decide | omega)
              · skip
                exact absurd c7 (by first | decide | omega)
            · skip
              exact absurd c6 (by first | decide | omega)
          · skip
            exact absurd c5 (by first | decide | omega)
        · skip
          exact absurd c4 (by first | decide | omega)
      · skip
        exact absurd c3 (by first | decide | omega)
    · skip
      exact absurd c2 (by first | decide | omega)
  · skip
    exact absurd c1 (by first | decide | omega)
