set_option maxHeartbeats 4000000 in
set_option maxRecDepth 100000 in
theorem c_L_isGood (l : Launch) (G : mG) (x : Nat) (ar : Nat → Nat) (C : LSt) (N : Nat → Nat) (F : Nat → Nat → Nat) (B : Nat → Int32) (j : Nat) (hI : Ih N F) (hj : j < N 6) : QMet l yL_isGood cL_isGood 5 (some FieldType.boolean) ({ frames := 0, cells := 0, slots := 0, locals := 0 } : Room) G x ar [.ref (ar 0), .ref (ar 1), .ref (ar 2), .int (nI (j))] C (N, F, B) (fun r C' D' => r = some (.int (bI (goodS F j))) ∧ C = C' ∧ D' = (N, F, B)) := by
  refine QMet.of (by decide) (Nat.le_of_ble_eq_true rfl) ?_
  intro p e s m args below meth c A ls X hr hlocks hS hZ hN h hl
  have hl : lv_has ls 5 [(0, .ref (ar 0)), (1, .ref (ar 1)), (2, .ref (ar 2)), (3, .int (nI (j)))] := hl
  have hn := hI.n
  have h6 := qM.n6 h
  refine lv_aload_n X.1 X.2.1 dL_isGood_0 rfl (lv_at hl 0 rfl) ?_
  refine lv_aload_n X.1 X.2.1 dL_isGood_1 rfl (lv_at hl 1 rfl) ?_
  refine lv_iload_n X.1 X.2.1 dL_isGood_2 rfl (lv_at hl 3 rfl) ?_
  refine q_ald X h 1 (by decide) dL_isGood_3 (i := j) (v := nI (mvS F j)) rfl (by show _ < 60; omega) (fun V r => LR.m1 r (by omega)) ?_
  have b1 := mv_b hI (show j < N 6 by omega)
  refine lv_bipush (v := nI (16)) X.1 X.2.1 dL_isGood_4 (by decide) ?_
  refine lv_irem X.1 X.2.1 dL_isGood_6 (by decide) ?_
  refine lv_top (y := nI (F 7 j)) ((pk_rem (by omega) (by omega) (by omega)).trans (congrArg nI b1.2.1)) ?_
  refine q_ald X h 0 (by decide) dL_isGood_7 (i := F 7 j) (v := nI (F 2 (F 7 j)) - 1) rfl (by show _ < 48; omega) (fun V r => LR.p0 r (by omega)) ?_
  have b2 := hI.p (F 7 j)
  refine lv_istore (lv' := [(4, .int (nI (F 2 (F 7 j)) - 1)), (0, .ref (ar 0)), (1, .ref (ar 1)), (2, .ref (ar 2)), (3, .int (nI (j)))]) X.1 X.2.1 dL_isGood_8 hl (by decide) rfl (fun ls hl => ?_)
  refine lv_iload X.1 X.2.1 dL_isGood_10 (lv_at hl 0 rfl) ?_
  refine b_if_lt (tgt := 23) X dL_isGood_12 (by decide) (a := ((F 2 (F 7 j) : Nat) : Int) - 1) (eI_ti (by omega)) (fun c3 => ?_) (fun c3 => ?_)
  · skip
    refine lv_iconst (v := nI (1)) X.1 X.2.1 dL_isGood_23 (by decide) ?_
    refine lv_goto (tgt := 28) X.1 X.2.1 dL_isGood_24 (by decide) ?_
    exact q_zret X hr hlocks h dL_isGood_28 ⟨Nat.le_of_ble_eq_true rfl, Nat.le_of_ble_eq_true rfl⟩ (rfl) (⟨by first | rw [show goodS F j = true from decide_eq_true (by omega)]; rfl | rw [show goodS F j = false from decide_eq_false (by omega)]; rfl, rfl, rfl⟩)
  · skip
    refine lv_aload_n X.1 X.2.1 dL_isGood_15 rfl (lv_at hl 3 rfl) ?_
    refine lv_iload_n X.1 X.2.1 dL_isGood_16 rfl (lv_at hl 4 rfl) ?_
    refine q_ald X h 2 (by decide) dL_isGood_17 (i := j) (v := nI (F 10 (j))) rfl (by show _ < 60; omega) (fun V r => LR.d2 r (by omega)) ?_
    have b4 := hI.m (m := j) (by omega)
    refine lv_iload X.1 X.2.1 dL_isGood_18 (lv_at hl 0 rfl) ?_
    refine b_icmp_ge (tgt := 27) X dL_isGood_20 (by decide) (a := ((F 10 (j) : Nat) : Int)) (b := ((F 2 (F 7 j) : Nat) : Int) - 1) (nI_ti (by omega)) (eI_ti (by omega)) (fun c5 => ?_) (fun c5 => ?_)
    · skip
      refine lv_iconst (v := nI (0)) X.1 X.2.1 dL_isGood_27 (by decide) ?_
      exact q_zret X hr hlocks h dL_isGood_28 ⟨Nat.le_of_ble_eq_true rfl, Nat.le_of_ble_eq_true rfl⟩ (rfl) (⟨by first | rw [show goodS F j = true from decide_eq_true (by omega)]; rfl | rw [show goodS F j = false from decide_eq_false (by omega)]; rfl, rfl, rfl⟩)
    · skip
      refine lv_iconst (v := nI (1)) X.1 X.2.1 dL_isGood_23 (by decide) ?_
      refine lv_goto (tgt := 28) X.1 X.2.1 dL_isGood_24 (by decide) ?_
      exact q_zret X hr hlocks h dL_isGood_28 ⟨Nat.le_of_ble_eq_true rfl, Nat.le_of_ble_eq_true rfl⟩ (rfl) (⟨by first | rw [show goodS F j = true from decide_eq_true (by omega)]; rfl | rw [show goodS F j = false from decide_eq_false (by omega)]; rfl, rfl, rfl⟩)
set_option maxHeartbeats 4000000 in
set_option maxRecDepth 100000 in
theorem c_L_isBanned (l : Launch) (G : mG) (x : Nat) (ar : Nat → Nat) (C : LSt) (N : Nat → Nat) (F : Nat → Nat → Nat) (B : Nat → Int32) (q : Nat) (hI : Ih N F) (hq : q < 16) : QMet l yL_isBanned cL_isBanned 3 (some FieldType.boolean) ({ frames := 0, cells := 0, slots := 0, locals := 0 } : Room) G x ar [.ref (ar 0), .ref (ar 9), .int (nI (q))] C (N, F, B) (fun r C' D' => r = some (.int (bI (decide (N 0 < F 3 q)))) ∧ C = C' ∧ D' = (N, F, B)) := by
  refine QMet.of (by decide) (Nat.le_of_ble_eq_true rfl) ?_
  intro p e s m args below meth c A ls X hr hlocks hS hZ hN h hl
  have hl : lv_has ls 3 [(0, .ref (ar 0)), (1, .ref (ar 9)), (2, .int (nI (q)))] := hl
  have hn := hI.n
  have h6 := qM.n6 h
  refine lv_aload_n X.1 X.2.1 dL_isBanned_0 rfl (lv_at hl 1 rfl) ?_
  refine lv_iconst (v := nI (0)) X.1 X.2.1 dL_isBanned_1 (by decide) ?_
  refine q_ald X h 9 (by decide) dL_isBanned_2 (i := 0) (v := nI (N 0)) rfl (by show _ < 9; omega) (fun V r => LR.g0 r) ?_
  refine lv_aload_n X.1 X.2.1 dL_isBanned_3 rfl (lv_at hl 0 rfl) ?_
  refine lv_bipush (v := nI (16)) X.1 X.2.1 dL_isBanned_4 (by decide) ?_
  refine lv_iload_n X.1 X.2.1 dL_isBanned_6 rfl (lv_at hl 2 rfl) ?_
  refine lv_iadd X.1 X.2.1 dL_isBanned_7 ?_
  refine lv_top (y := nI (16 + q)) (nI_add _ _) ?_
  refine q_ald X h 0 (by decide) dL_isBanned_8 (i := 16 + q) (v := nI (F 3 (q))) rfl (by show _ < 48; omega) (fun V r => LR.ban r (by omega)) ?_
  have b1 := hI.p (q)
  refine b_icmp_ge (tgt := 16) X dL_isBanned_9 (by decide) (a := ((N 0 : Nat) : Int)) (b := ((F 3 (q) : Nat) : Int)) (nI_ti (by omega)) (nI_ti (by omega)) (fun c2 => ?_) (fun c2 => ?_)
  · skip
    refine lv_iconst (v := nI (0)) X.1 X.2.1 dL_isBanned_16 (by decide) ?_
    exact q_zret X hr hlocks h dL_isBanned_17 ⟨Nat.le_of_ble_eq_true rfl, Nat.le_of_ble_eq_true rfl⟩ (rfl) (⟨congrArg (fun v => some (Value.int v)) (by first | exact bI_t (decide_eq_true (by omega)) | exact bI_f (decide_eq_false (by omega))), rfl, rfl⟩)
  · skip
    refine lv_iconst (v := nI (1)) X.1 X.2.1 dL_isBanned_12 (by decide) ?_
    refine lv_goto (tgt := 17) X.1 X.2.1 dL_isBanned_13 (by decide) ?_
    exact q_zret X hr hlocks h dL_isBanned_17 ⟨Nat.le_of_ble_eq_true rfl, Nat.le_of_ble_eq_true rfl⟩ (rfl) (⟨congrArg (fun v => some (Value.int v)) (by first | exact bI_t (decide_eq_true (by omega)) | exact bI_f (decide_eq_false (by omega))), rfl, rfl⟩)
set_option maxHeartbeats 4000000 in
set_option maxRecDepth 100000 in
theorem c_L_points (l : Launch) (G : mG) (x : Nat) (ar : Nat → Nat) (C : LSt) (N : Nat → Nat) (F : Nat → Nat → Nat) (B : Nat → Int32) (sn : Nat) (pl : Nat) (hI : Ih N F) (hp : pl < 16) (hsn : sn < 2000) : QMet l yL_points cL_points 9 (some FieldType.int) ({ frames := 1, cells := 0, slots := 0, locals := 24 } : Room) G x ar [.ref (ar 0), .ref (ar 1), .ref (ar 2), .ref (ar 9), .int (nI (sn)), .int (nI (pl))] C (N, F, B) (fun r C' D' => r = some (.int (nI (pts F sn pl (N 6)))) ∧ C = C' ∧ D' = (N, F, B)) := by
  refine QMet.of (by decide) (Nat.le_of_ble_eq_true rfl) ?_
  intro p e s m args below meth c A ls X hr hlocks hS hZ hN h hl
  have hl : lv_has ls 9 [(0, .ref (ar 0)), (1, .ref (ar 1)), (2, .ref (ar 2)), (3, .ref (ar 9)), (4, .int (nI (sn))), (5, .int (nI (pl)))] := hl
  have hn := hI.n
  have h6 := qM.n6 h
  refine lv_iconst (v := nI (0)) X.1 X.2.1 dL_points_0 (by decide) ?_
  refine lv_istore (lv' := [(6, .int (nI (0))), (0, .ref (ar 0)), (1, .ref (ar 1)), (2, .ref (ar 2)), (3, .ref (ar 9)), (4, .int (nI (sn))), (5, .int (nI (pl)))]) X.1 X.2.1 dL_points_1 hl (by decide) rfl (fun ls hl => ?_)
  refine lv_iconst (v := nI (0)) X.1 X.2.1 dL_points_3 (by decide) ?_
  refine lv_istore (lv' := [(7, .int (nI (0))), (6, .int (nI (0))), (0, .ref (ar 0)), (1, .ref (ar 1)), (2, .ref (ar 2)), (3, .ref (ar 9)), (4, .int (nI (sn))), (5, .int (nI (pl)))]) X.1 X.2.1 dL_points_4 hl (by decide) rfl (fun ls hl => ?_)
  have loop : ∀ (n9 : Nat) (j : Nat), (N 6 + 1 ≤ j + n9) → (j ≤ N 6) → ∀ (H : Heap) (locs : List Loc) (ls : Array Slot), qM G A s x ar C (N, F, B) H locs → lv_has ls 9 [(6, .int (nI (pts F sn pl j))), (7, .int (nI (j))), (0, .ref (ar 0)), (1, .ref (ar 1)), (2, .ref (ar 2)), (3, .ref (ar 9)), (4, .int (nI (sn))), (5, .int (nI (pl)))] → W p l e ({ frames := 1, cells := 0, slots := 0, locals := 24 } : Room) s m args below meth c H locs (0) (0) (QZ G A x ar (fun r C' D' => r = some (.int (nI (pts F sn pl (N 6)))) ∧ C = C' ∧ D' = (N, F, B)) below args s 0 0) (F0 m 6 ls []) := by
    intro n9
    induction n9 with
    | zero => intro j hm9 hj; exact absurd hm9 (by omega)
    | succ n9 ih_loop =>
      intro j hm9 hj H locs ls h hl
      have hb0 := pts_le F sn pl (n := j) (by omega)
      have hb1 := gms_le F sn pl (n := j) (by omega)
      refine lv_iload X.1 X.2.1 dL_points_6 (lv_at hl 1 rfl) ?_
      refine lv_aload_n X.1 X.2.1 dL_points_8 rfl (lv_at hl 5 rfl) ?_
      refine lv_iconst (v := nI (2)) X.1 X.2.1 dL_points_9 (by decide) ?_
      refine q_ald X h 9 (by decide) dL_points_10 (i := 2) (v := nI (N 6)) rfl (by show _ < 9; omega) (fun V r => LR.g2 r) ?_
      refine b_icmp_ge (tgt := 101) X dL_points_11 (by decide) (a := ((j : Nat) : Int)) (b := ((N 6 : Nat) : Int)) (nI_ti (by omega)) (nI_ti (by omega)) (fun c1 => ?_) (fun c1 => ?_)
      · skip
        refine lv_iload X.1 X.2.1 dL_points_101 (lv_at hl 0 rfl) ?_
        exact q_iret X hr hlocks h dL_points_103 ⟨Nat.le_of_ble_eq_true rfl, Nat.le_of_ble_eq_true rfl⟩ (⟨by rw [show j = N 6 by omega], rfl, rfl⟩)
      · skip
        have hj0 : j < N 6 := by omega
        refine lv_aload_n X.1 X.2.1 dL_points_14 rfl (lv_at hl 3 rfl) ?_
        refine lv_iload X.1 X.2.1 dL_points_15 (lv_at hl 1 rfl) ?_
        refine q_ald X h 1 (by decide) dL_points_17 (i := j) (v := nI (mvS F j)) rfl (by show _ < 60; omega) (fun V r => LR.m1 r (by omega)) ?_
        have b2 := mv_b hI (show j < N 6 by omega)
        refine lv_sipush (v := nI (1024)) X.1 X.2.1 dL_points_18 (by decide) ?_
        refine lv_idiv X.1 X.2.1 dL_points_21 (by decide) ?_
        refine lv_top (y := nI (F 11 j)) ((pk_div (by omega) (by omega) (by omega)).trans (congrArg nI b2.2.2.2.2.1)) ?_
        refine lv_iload X.1 X.2.1 dL_points_22 (lv_at hl 6 rfl) ?_
        refine b_icmp_ne (tgt := 42) X dL_points_24 (by decide) (a := ((F 11 j : Nat) : Int)) (b := ((sn : Nat) : Int)) (nI_ti (by omega)) (nI_ti (by omega)) (fun c3 => ?_) (fun c3 => ?_)
        · skip
          refine lv_iconst (v := nI (0)) X.1 X.2.1 dL_points_42 (by decide) ?_
          refine lv_istore (lv' := [(8, .int (nI (0))), (6, .int (nI (pts F sn pl j))), (7, .int (nI (j))), (0, .ref (ar 0)), (1, .ref (ar 1)), (2, .ref (ar 2)), (3, .ref (ar 9)), (4, .int (nI (sn))), (5, .int (nI (pl)))]) X.1 X.2.1 dL_points_43 hl (by decide) rfl (fun ls hl => ?_)
          refine lv_iload X.1 X.2.1 dL_points_45 (lv_at hl 1 rfl) ?_
          refine lv_iload X.1 X.2.1 dL_points_47 (lv_at hl 0 rfl) ?_
          refine b_if_ne (tgt := 56) X dL_points_49 (by decide) (a := ((0 : Nat) : Int)) (nI_ti (by omega)) (fun c4 => ?_) (fun c4 => ?_)
          · skip
            exact absurd c4 (by first | decide | omega)
          · skip
            refine lv_iconst (v := nI (0)) X.1 X.2.1 dL_points_52 (by decide) ?_
            refine lv_goto (tgt := 92) X.1 X.2.1 dL_points_53 (by decide) ?_
            refine lv_iadd X.1 X.2.1 dL_points_92 ?_
            refine lv_top (y := nI (pts F sn pl (j + 1))) (pts_at (by first | exact ptC_0 (fun q => absurd q.1 (by omega)) | exact ptC_0 (fun q => Bool.noConfusion (q.2.symm.trans (by assumption))) | exact ptC_3 (by omega) (by assumption) (by omega) (by omega) | exact ptC_1 (by omega) (by assumption) (by omega) (by omega) | exact ptC_n (by omega) (by omega))) ?_
            refine lv_istore (lv' := [(6, .int (nI (pts F sn pl (j + 1)))), (8, .int (nI (0))), (7, .int (nI (j))), (0, .ref (ar 0)), (1, .ref (ar 1)), (2, .ref (ar 2)), (3, .ref (ar 9)), (4, .int (nI (sn))), (5, .int (nI (pl)))]) X.1 X.2.1 dL_points_93 hl (by decide) rfl (fun ls hl => ?_)
            refine lv_iinc (v := nI (j + 1)) (lv' := [(7, .int (nI (j + 1))), (6, .int (nI (pts F sn pl (j + 1)))), (8, .int (nI (0))), (0, .ref (ar 0)), (1, .ref (ar 1)), (2, .ref (ar 2)), (3, .ref (ar 9)), (4, .int (nI (sn))), (5, .int (nI (pl)))]) X.1 X.2.1 dL_points_95 hl (k := 2) rfl (nI_add (j) 1) (by decide) rfl (fun ls hl => ?_)
            refine lv_goto (tgt := 6) X.1 X.2.1 dL_points_98 (by decide) ?_
            exact ih_loop (j + 1) (by omega) (by omega) _ _ _ h (lv_sub hl [1, 0, 3, 4, 5, 6, 7, 8] rfl)
        · skip
          refine lv_aload_n X.1 X.2.1 dL_points_27 rfl (lv_at hl 2 rfl) ?_
          refine lv_aload_n X.1 X.2.1 dL_points_28 rfl (lv_at hl 3 rfl) ?_
          refine lv_aload_n X.1 X.2.1 dL_points_29 rfl (lv_at hl 4 rfl) ?_
          refine lv_iload X.1 X.2.1 dL_points_30 (lv_at hl 1 rfl) ?_
          refine q_call X hS hZ hN h ck_L_71 kst_L_isGood dL_points_32 (As := [.ref (ar 0), .ref (ar 1), .ref (ar 2), .int (nI (j))]) (c_L_isGood l G x ar C N F B j hI (by omega)) rfl hl rfl (Nat.le_of_ble_eq_true rfl) ⟨Nat.le_of_ble_eq_true rfl, Nat.le_of_ble_eq_true rfl⟩ ⟨Nat.le_of_ble_eq_true rfl, Nat.le_of_ble_eq_true rfl⟩ ?_
          rintro _ _ _ H locs ⟨rfl, rfl, rfl⟩ h
          refine b_bool_eq (tgt := 42) X dL_points_35 (by decide) (fun c5 => ?_) (fun c5 => ?_)
          · skip
            refine lv_iconst (v := nI (0)) X.1 X.2.1 dL_points_42 (by decide) ?_
            refine lv_istore (lv' := [(8, .int (nI (0))), (6, .int (nI (pts F sn pl j))), (7, .int (nI (j))), (0, .ref (ar 0)), (1, .ref (ar 1)), (2, .ref (ar 2)), (3, .ref (ar 9)), (4, .int (nI (sn))), (5, .int (nI (pl)))]) X.1 X.2.1 dL_points_43 hl (by decide) rfl (fun ls hl => ?_)
            refine lv_iload X.1 X.2.1 dL_points_45 (lv_at hl 1 rfl) ?_
            refine lv_iload X.1 X.2.1 dL_points_47 (lv_at hl 0 rfl) ?_
            refine b_if_ne (tgt := 56) X dL_points_49 (by decide) (a := ((0 : Nat) : Int)) (nI_ti (by omega)) (fun c6 => ?_) (fun c6 => ?_)
            · skip
              exact absurd c6 (by first | decide | omega)
            · skip
              refine lv_iconst (v := nI (0)) X.1 X.2.1 dL_points_52 (by decide) ?_
              refine lv_goto (tgt := 92) X.1 X.2.1 dL_points_53 (by decide) ?_
              refine lv_iadd X.1 X.2.1 dL_points_92 ?_
              refine lv_top (y := nI (pts F sn pl (j + 1))) (pts_at (by first | exact ptC_0 (fun q => absurd q.1 (by omega)) | exact ptC_0 (fun q => Bool.noConfusion (q.2.symm.trans (by assumption))) | exact ptC_3 (by omega) (by assumption) (by omega) (by omega) | exact ptC_1 (by omega) (by assumption) (by omega) (by omega) | exact ptC_n (by omega) (by omega))) ?_
              refine lv_istore (lv' := [(6, .int (nI (pts F sn pl (j + 1)))), (8, .int (nI (0))), (7, .int (nI (j))), (0, .ref (ar 0)), (1, .ref (ar 1)), (2, .ref (ar 2)), (3, .ref (ar 9)), (4, .int (nI (sn))), (5, .int (nI (pl)))]) X.1 X.2.1 dL_points_93 hl (by decide) rfl (fun ls hl => ?_)
              refine lv_iinc (v := nI (j + 1)) (lv' := [(7, .int (nI (j + 1))), (6, .int (nI (pts F sn pl (j + 1)))), (8, .int (nI (0))), (0, .ref (ar 0)), (1, .ref (ar 1)), (2, .ref (ar 2)), (3, .ref (ar 9)), (4, .int (nI (sn))), (5, .int (nI (pl)))]) X.1 X.2.1 dL_points_95 hl (k := 2) rfl (nI_add (j) 1) (by decide) rfl (fun ls hl => ?_)
              refine lv_goto (tgt := 6) X.1 X.2.1 dL_points_98 (by decide) ?_
              exact ih_loop (j + 1) (by omega) (by omega) _ _ _ h (lv_sub hl [1, 0, 3, 4, 5, 6, 7, 8] rfl)
          · skip
            refine lv_iconst (v := nI (1)) X.1 X.2.1 dL_points_38 (by decide) ?_
            refine lv_goto (tgt := 43) X.1 X.2.1 dL_points_39 (by decide) ?_
            refine lv_istore (lv' := [(8, .int (nI (1))), (6, .int (nI (pts F sn pl j))), (7, .int (nI (j))), (0, .ref (ar 0)), (1, .ref (ar 1)), (2, .ref (ar 2)), (3, .ref (ar 9)), (4, .int (nI (sn))), (5, .int (nI (pl)))]) X.1 X.2.1 dL_points_43 hl (by decide) rfl (fun ls hl => ?_)
            refine lv_iload X.1 X.2.1 dL_points_45 (lv_at hl 1 rfl) ?_
            refine lv_iload X.1 X.2.1 dL_points_47 (lv_at hl 0 rfl) ?_
            refine b_if_ne (tgt := 56) X dL_points_49 (by decide) (a := ((1 : Nat) : Int)) (nI_ti (by omega)) (fun c7 => ?_) (fun c7 => ?_)
            · skip
              refine lv_aload_n X.1 X.2.1 dL_points_56 rfl (lv_at hl 4 rfl) ?_
              refine lv_iload X.1 X.2.1 dL_points_57 (lv_at hl 2 rfl) ?_
              refine q_ald X h 1 (by decide) dL_points_59 (i := j) (v := nI (mvS F j)) rfl (by show _ < 60; omega) (fun V r => LR.m1 r (by omega)) ?_
              have b8 := mv_b hI (show j < N 6 by omega)
              refine lv_bipush (v := nI (16)) X.1 X.2.1 dL_points_60 (by decide) ?_
              refine lv_irem X.1 X.2.1 dL_points_62 (by decide) ?_
              refine lv_top (y := nI (F 7 j)) ((pk_rem (by omega) (by omega) (by omega)).trans (congrArg nI b8.2.1)) ?_
              refine lv_iload X.1 X.2.1 dL_points_63 (lv_at hl 8 rfl) ?_
              refine b_icmp_ne (tgt := 72) X dL_points_65 (by decide) (a := ((F 7 j : Nat) : Int)) (b := ((pl : Nat) : Int)) (nI_ti (by omega)) (nI_ti (by omega)) (fun c9 => ?_) (fun c9 => ?_)
              · skip
                refine lv_aload_n X.1 X.2.1 dL_points_72 rfl (lv_at hl 4 rfl) ?_
                refine lv_iload X.1 X.2.1 dL_points_73 (lv_at hl 2 rfl) ?_
                refine q_ald X h 1 (by decide) dL_points_75 (i := j) (v := nI (mvS F j)) rfl (by show _ < 60; omega) (fun V r => LR.m1 r (by omega)) ?_
                have b10 := mv_b hI (show j < N 6 by omega)
                refine lv_bipush (v := nI (16)) X.1 X.2.1 dL_points_76 (by decide) ?_
                refine lv_idiv X.1 X.2.1 dL_points_78 (by decide) ?_
                refine lv_top (y := nI ((mvS F j) / 16)) (pk_div (by omega) (by omega) (by omega)) ?_
                refine lv_bipush (v := nI (16)) X.1 X.2.1 dL_points_79 (by decide) ?_
                refine lv_irem X.1 X.2.1 dL_points_81 (by decide) ?_
                refine lv_top (y := nI (F 8 j)) ((pk_rem (by omega) (by omega) (by omega)).trans (congrArg nI b10.2.2.1)) ?_
                refine lv_iload X.1 X.2.1 dL_points_82 (lv_at hl 8 rfl) ?_
                refine b_icmp_ne (tgt := 91) X dL_points_84 (by decide) (a := ((F 8 j : Nat) : Int)) (b := ((pl : Nat) : Int)) (nI_ti (by omega)) (nI_ti (by omega)) (fun c11 => ?_) (fun c11 => ?_)
                · skip
                  refine lv_iconst (v := nI (0)) X.1 X.2.1 dL_points_91 (by decide) ?_
                  refine lv_iadd X.1 X.2.1 dL_points_92 ?_
                  refine lv_top (y := nI (pts F sn pl (j + 1))) (pts_at (by first | exact ptC_0 (fun q => absurd q.1 (by omega)) | exact ptC_0 (fun q => Bool.noConfusion (q.2.symm.trans (by assumption))) | exact ptC_3 (by omega) (by assumption) (by omega) (by omega) | exact ptC_1 (by omega) (by assumption) (by omega) (by omega) | exact ptC_n (by omega) (by omega))) ?_
                  refine lv_istore (lv' := [(6, .int (nI (pts F sn pl (j + 1)))), (8, .int (nI (1))), (7, .int (nI (j))), (0, .ref (ar 0)), (1, .ref (ar 1)), (2, .ref (ar 2)), (3, .ref (ar 9)), (4, .int (nI (sn))), (5, .int (nI (pl)))]) X.1 X.2.1 dL_points_93 hl (by decide) rfl (fun ls hl => ?_)
                  refine lv_iinc (v := nI (j + 1)) (lv' := [(7, .int (nI (j + 1))), (6, .int (nI (pts F sn pl (j + 1)))), (8, .int (nI (1))), (0, .ref (ar 0)), (1, .ref (ar 1)), (2, .ref (ar 2)), (3, .ref (ar 9)), (4, .int (nI (sn))), (5, .int (nI (pl)))]) X.1 X.2.1 dL_points_95 hl (k := 2) rfl (nI_add (j) 1) (by decide) rfl (fun ls hl => ?_)
                  refine lv_goto (tgt := 6) X.1 X.2.1 dL_points_98 (by decide) ?_
                  exact ih_loop (j + 1) (by omega) (by omega) _ _ _ h (lv_sub hl [1, 0, 3, 4, 5, 6, 7, 8] rfl)
                · skip
                  refine lv_iconst (v := nI (1)) X.1 X.2.1 dL_points_87 (by decide) ?_
                  refine lv_goto (tgt := 92) X.1 X.2.1 dL_points_88 (by decide) ?_
                  refine lv_iadd X.1 X.2.1 dL_points_92 ?_
                  refine lv_top (y := nI (pts F sn pl (j + 1))) (pts_at (by first | exact ptC_0 (fun q => absurd q.1 (by omega)) | exact ptC_0 (fun q => Bool.noConfusion (q.2.symm.trans (by assumption))) | exact ptC_3 (by omega) (by assumption) (by omega) (by omega) | exact ptC_1 (by omega) (by assumption) (by omega) (by omega) | exact ptC_n (by omega) (by omega))) ?_
                  refine lv_istore (lv' := [(6, .int (nI (pts F sn pl (j + 1)))), (8, .int (nI (1))), (7, .int (nI (j))), (0, .ref (ar 0)), (1, .ref (ar 1)), (2, .ref (ar 2)), (3, .ref (ar 9)), (4, .int (nI (sn))), (5, .int (nI (pl)))]) X.1 X.2.1 dL_points_93 hl (by decide) rfl (fun ls hl => ?_)
                  refine lv_iinc (v := nI (j + 1)) (lv' := [(7, .int (nI (j + 1))), (6, .int (nI (pts F sn pl (j + 1)))), (8, .int (nI (1))), (0, .ref (ar 0)), (1, .ref (ar 1)), (2, .ref (ar 2)), (3, .ref (ar 9)), (4, .int (nI (sn))), (5, .int (nI (pl)))]) X.1 X.2.1 dL_points_95 hl (k := 2) rfl (nI_add (j) 1) (by decide) rfl (fun ls hl => ?_)
                  refine lv_goto (tgt := 6) X.1 X.2.1 dL_points_98 (by decide) ?_
                  exact ih_loop (j + 1) (by omega) (by omega) _ _ _ h (lv_sub hl [1, 0, 3, 4, 5, 6, 7, 8] rfl)
              · skip
                refine lv_iconst (v := nI (3)) X.1 X.2.1 dL_points_68 (by decide) ?_
                refine lv_goto (tgt := 92) X.1 X.2.1 dL_points_69 (by decide) ?_
                refine lv_iadd X.1 X.2.1 dL_points_92 ?_
                refine lv_top (y := nI (pts F sn pl (j + 1))) (pts_at (by first | exact ptC_0 (fun q => absurd q.1 (by omega)) | exact ptC_0 (fun q => Bool.noConfusion (q.2.symm.trans (by assumption))) | exact ptC_3 (by omega) (by assumption) (by omega) (by omega) | exact ptC_1 (by omega) (by assumption) (by omega) (by omega) | exact ptC_n (by omega) (by omega))) ?_
                refine lv_istore (lv' := [(6, .int (nI (pts F sn pl (j + 1)))), (8, .int (nI (1))), (7, .int (nI (j))), (0, .ref (ar 0)), (1, .ref (ar 1)), (2, .ref (ar 2)), (3, .ref (ar 9)), (4, .int (nI (sn))), (5, .int (nI (pl)))]) X.1 X.2.1 dL_points_93 hl (by decide) rfl (fun ls hl => ?_)
                refine lv_iinc (v := nI (j + 1)) (lv' := [(7, .int (nI (j + 1))), (6, .int (nI (pts F sn pl (j + 1)))), (8, .int (nI (1))), (0, .ref (ar 0)), (1, .ref (ar 1)), (2, .ref (ar 2)), (3, .ref (ar 9)), (4, .int (nI (sn))), (5, .int (nI (pl)))]) X.1 X.2.1 dL_points_95 hl (k := 2) rfl (nI_add (j) 1) (by decide) rfl (fun ls hl => ?_)
                refine lv_goto (tgt := 6) X.1 X.2.1 dL_points_98 (by decide) ?_
                exact ih_loop (j + 1) (by omega) (by omega) _ _ _ h (lv_sub hl [1, 0, 3, 4, 5, 6, 7, 8] rfl)
            · skip
              exact absurd c7 (by first | decide | omega)
  exact loop (N 6 + 1) 0 (by omega) (by omega) _ _ _ h (lv_sub hl [1, 0, 2, 3, 4, 5, 6, 7] rfl)
set_option maxHeartbeats 4000000 in
set_option maxRecDepth 100000 in
theorem c_L_many (l : Launch) (G : mG) (x : Nat) (ar : Nat → Nat) (C : LSt) (N : Nat → Nat) (F : Nat → Nat → Nat) (B : Nat → Int32) (sn : Nat) (pl : Nat) (hI : Ih N F) (hp : pl < 16) (hsn : sn < 2000) : QMet l yL_many cL_many 9 (some FieldType.int) ({ frames := 1, cells := 0, slots := 0, locals := 24 } : Room) G x ar [.ref (ar 0), .ref (ar 1), .ref (ar 2), .ref (ar 9), .int (nI (sn)), .int (nI (pl))] C (N, F, B) (fun r C' D' => r = some (.int (nI (gms F sn pl (N 6)))) ∧ C = C' ∧ D' = (N, F, B)) := by
  refine QMet.of (by decide) (Nat.le_of_ble_eq_true rfl) ?_
  intro p e s m args below meth c A ls X hr hlocks hS hZ hN h hl
  have hl : lv_has ls 9 [(0, .ref (ar 0)), (1, .ref (ar 1)), (2, .ref (ar 2)), (3, .ref (ar 9)), (4, .int (nI (sn))), (5, .int (nI (pl)))] := hl
  have hn := hI.n
  have h6 := qM.n6 h
  refine lv_iconst (v := nI (0)) X.1 X.2.1 dL_many_0 (by decide) ?_
  refine lv_istore (lv' := [(6, .int (nI (0))), (0, .ref (ar 0)), (1, .ref (ar 1)), (2, .ref (ar 2)), (3, .ref (ar 9)), (4, .int (nI (sn))), (5, .int (nI (pl)))]) X.1 X.2.1 dL_many_1 hl (by decide) rfl (fun ls hl => ?_)
  refine lv_iconst (v := nI (0)) X.1 X.2.1 dL_many_3 (by decide) ?_
  refine lv_istore (lv' := [(7, .int (nI (0))), (6, .int (nI (0))), (0, .ref (ar 0)), (1, .ref (ar 1)), (2, .ref (ar 2)), (3, .ref (ar 9)), (4, .int (nI (sn))), (5, .int (nI (pl)))]) X.1 X.2.1 dL_many_4 hl (by decide) rfl (fun ls hl => ?_)
  have loop : ∀ (n9 : Nat) (j : Nat), (N 6 + 1 ≤ j + n9) → (j ≤ N 6) → ∀ (H : Heap) (locs : List Loc) (ls : Array Slot), qM G A s x ar C (N, F, B) H locs → lv_has ls 9 [(6, .int (nI (gms F sn pl j))), (7, .int (nI (j))), (0, .ref (ar 0)), (1, .ref (ar 1)), (2, .ref (ar 2)), (3, .ref (ar 9)), (4, .int (nI (sn))), (5, .int (nI (pl)))] → W p l e ({ frames := 1, cells := 0, slots := 0, locals := 24 } : Room) s m args below meth c H locs (0) (0) (QZ G A x ar (fun r C' D' => r = some (.int (nI (gms F sn pl (N 6)))) ∧ C = C' ∧ D' = (N, F, B)) below args s 0 0) (F0 m 6 ls []) := by
    intro n9
    induction n9 with
    | zero => intro j hm9 hj; exact absurd hm9 (by omega)
    | succ n9 ih_loop =>
      intro j hm9 hj H locs ls h hl
      have hb0 := pts_le F sn pl (n := j) (by omega)
      have hb1 := gms_le F sn pl (n := j) (by omega)
      refine lv_iload X.1 X.2.1 dL_many_6 (lv_at hl 1 rfl) ?_
      refine lv_aload_n X.1 X.2.1 dL_many_8 rfl (lv_at hl 5 rfl) ?_
      refine lv_iconst (v := nI (2)) X.1 X.2.1 dL_many_9 (by decide) ?_
      refine q_ald X h 9 (by decide) dL_many_10 (i := 2) (v := nI (N 6)) rfl (by show _ < 9; omega) (fun V r => LR.g2 r) ?_
      refine b_icmp_ge (tgt := 93) X dL_many_11 (by decide) (a := ((j : Nat) : Int)) (b := ((N 6 : Nat) : Int)) (nI_ti (by omega)) (nI_ti (by omega)) (fun c1 => ?_) (fun c1 => ?_)
      · skip
        refine lv_iload X.1 X.2.1 dL_many_93 (lv_at hl 0 rfl) ?_
        exact q_iret X hr hlocks h dL_many_95 ⟨Nat.le_of_ble_eq_true rfl, Nat.le_of_ble_eq_true rfl⟩ (⟨by rw [show j = N 6 by omega], rfl, rfl⟩)
      · skip
        have hj0 : j < N 6 := by omega
        refine lv_aload_n X.1 X.2.1 dL_many_14 rfl (lv_at hl 3 rfl) ?_
        refine lv_iload X.1 X.2.1 dL_many_15 (lv_at hl 1 rfl) ?_
        refine q_ald X h 1 (by decide) dL_many_17 (i := j) (v := nI (mvS F j)) rfl (by show _ < 60; omega) (fun V r => LR.m1 r (by omega)) ?_
        have b2 := mv_b hI (show j < N 6 by omega)
        refine lv_sipush (v := nI (1024)) X.1 X.2.1 dL_many_18 (by decide) ?_
        refine lv_idiv X.1 X.2.1 dL_many_21 (by decide) ?_
        refine lv_top (y := nI (F 11 j)) ((pk_div (by omega) (by omega) (by omega)).trans (congrArg nI b2.2.2.2.2.1)) ?_
        refine lv_iload X.1 X.2.1 dL_many_22 (lv_at hl 6 rfl) ?_
        refine b_icmp_ne (tgt := 42) X dL_many_24 (by decide) (a := ((F 11 j : Nat) : Int)) (b := ((sn : Nat) : Int)) (nI_ti (by omega)) (nI_ti (by omega)) (fun c3 => ?_) (fun c3 => ?_)
        · skip
          refine lv_iconst (v := nI (0)) X.1 X.2.1 dL_many_42 (by decide) ?_
          refine lv_istore (lv' := [(8, .int (nI (0))), (6, .int (nI (gms F sn pl j))), (7, .int (nI (j))), (0, .ref (ar 0)), (1, .ref (ar 1)), (2, .ref (ar 2)), (3, .ref (ar 9)), (4, .int (nI (sn))), (5, .int (nI (pl)))]) X.1 X.2.1 dL_many_43 hl (by decide) rfl (fun ls hl => ?_)
          refine lv_iload X.1 X.2.1 dL_many_45 (lv_at hl 1 rfl) ?_
          refine lv_iload X.1 X.2.1 dL_many_47 (lv_at hl 0 rfl) ?_
          refine b_if_eq (tgt := 83) X dL_many_49 (by decide) (a := ((0 : Nat) : Int)) (nI_ti (by omega)) (fun c4 => ?_) (fun c4 => ?_)
          · skip
            refine lv_iconst (v := nI (0)) X.1 X.2.1 dL_many_83 (by decide) ?_
            refine lv_iadd X.1 X.2.1 dL_many_84 ?_
            refine lv_top (y := nI (gms F sn pl (j + 1))) (gms_at (by first | exact gmC_0 (fun q => absurd q.1 (by omega)) | exact gmC_0 (fun q => Bool.noConfusion (q.2.symm.trans (by assumption))) | exact gmC_3 (by omega) (by assumption) (by omega) (by omega) | exact gmC_1 (by omega) (by assumption) (by omega) (by omega) | exact gmC_n (by omega) (by omega))) ?_
            refine lv_istore (lv' := [(6, .int (nI (gms F sn pl (j + 1)))), (8, .int (nI (0))), (7, .int (nI (j))), (0, .ref (ar 0)), (1, .ref (ar 1)), (2, .ref (ar 2)), (3, .ref (ar 9)), (4, .int (nI (sn))), (5, .int (nI (pl)))]) X.1 X.2.1 dL_many_85 hl (by decide) rfl (fun ls hl => ?_)
            refine lv_iinc (v := nI (j + 1)) (lv' := [(7, .int (nI (j + 1))), (6, .int (nI (gms F sn pl (j + 1)))), (8, .int (nI (0))), (0, .ref (ar 0)), (1, .ref (ar 1)), (2, .ref (ar 2)), (3, .ref (ar 9)), (4, .int (nI (sn))), (5, .int (nI (pl)))]) X.1 X.2.1 dL_many_87 hl (k := 2) rfl (nI_add (j) 1) (by decide) rfl (fun ls hl => ?_)
            refine lv_goto (tgt := 6) X.1 X.2.1 dL_many_90 (by decide) ?_
            exact ih_loop (j + 1) (by omega) (by omega) _ _ _ h (lv_sub hl [1, 0, 3, 4, 5, 6, 7, 8] rfl)
          · skip
            exact absurd c4 (by first | decide | omega)
        · skip
          refine lv_aload_n X.1 X.2.1 dL_many_27 rfl (lv_at hl 2 rfl) ?_
          refine lv_aload_n X.1 X.2.1 dL_many_28 rfl (lv_at hl 3 rfl) ?_
          refine lv_aload_n X.1 X.2.1 dL_many_29 rfl (lv_at hl 4 rfl) ?_
          refine lv_iload X.1 X.2.1 dL_many_30 (lv_at hl 1 rfl) ?_
          refine q_call X hS hZ hN h ck_L_71 kst_L_isGood dL_many_32 (As := [.ref (ar 0), .ref (ar 1), .ref (ar 2), .int (nI (j))]) (c_L_isGood l G x ar C N F B j hI (by omega)) rfl hl rfl (Nat.le_of_ble_eq_true rfl) ⟨Nat.le_of_ble_eq_true rfl, Nat.le_of_ble_eq_true rfl⟩ ⟨Nat.le_of_ble_eq_true rfl, Nat.le_of_ble_eq_true rfl⟩ ?_
          rintro _ _ _ H locs ⟨rfl, rfl, rfl⟩ h
          refine b_bool_eq (tgt := 42) X dL_many_35 (by decide) (fun c5 => ?_) (fun c5 => ?_)
          · skip
            refine lv_iconst (v := nI (0)) X.1 X.2.1 dL_many_42 (by decide) ?_
            refine lv_istore (lv' := [(8, .int (nI (0))), (6, .int (nI (gms F sn pl j))), (7, .int (nI (j))), (0, .ref (ar 0)), (1, .ref (ar 1)), (2, .ref (ar 2)), (3, .ref (ar 9)), (4, .int (nI (sn))), (5, .int (nI (pl)))]) X.1 X.2.1 dL_many_43 hl (by decide) rfl (fun ls hl => ?_)
            refine lv_iload X.1 X.2.1 dL_many_45 (lv_at hl 1 rfl) ?_
            refine lv_iload X.1 X.2.1 dL_many_47 (lv_at hl 0 rfl) ?_
            refine b_if_eq (tgt := 83) X dL_many_49 (by decide) (a := ((0 : Nat) : Int)) (nI_ti (by omega)) (fun c6 => ?_) (fun c6 => ?_)
            · skip
              refine lv_iconst (v := nI (0)) X.1 X.2.1 dL_many_83 (by decide) ?_
              refine lv_iadd X.1 X.2.1 dL_many_84 ?_
              refine lv_top (y := nI (gms F sn pl (j + 1))) (gms_at (by first | exact gmC_0 (fun q => absurd q.1 (by omega)) | exact gmC_0 (fun q => Bool.noConfusion (q.2.symm.trans (by assumption))) | exact gmC_3 (by omega) (by assumption) (by omega) (by omega) | exact gmC_1 (by omega) (by assumption) (by omega) (by omega) | exact gmC_n (by omega) (by omega))) ?_
              refine lv_istore (lv' := [(6, .int (nI (gms F sn pl (j + 1)))), (8, .int (nI (0))), (7, .int (nI (j))), (0, .ref (ar 0)), (1, .ref (ar 1)), (2, .ref (ar 2)), (3, .ref (ar 9)), (4, .int (nI (sn))), (5, .int (nI (pl)))]) X.1 X.2.1 dL_many_85 hl (by decide) rfl (fun ls hl => ?_)
              refine lv_iinc (v := nI (j + 1)) (lv' := [(7, .int (nI (j + 1))), (6, .int (nI (gms F sn pl (j + 1)))), (8, .int (nI (0))), (0, .ref (ar 0)), (1, .ref (ar 1)), (2, .ref (ar 2)), (3, .ref (ar 9)), (4, .int (nI (sn))), (5, .int (nI (pl)))]) X.1 X.2.1 dL_many_87 hl (k := 2) rfl (nI_add (j) 1) (by decide) rfl (fun ls hl => ?_)
              refine lv_goto (tgt := 6) X.1 X.2.1 dL_many_90 (by decide) ?_
              exact ih_loop (j + 1) (by omega) (by omega) _ _ _ h (lv_sub hl [1, 0, 3, 4, 5, 6, 7, 8] rfl)
            · skip
              exact absurd c6 (by first | decide | omega)
          · skip
            refine lv_iconst (v := nI (1)) X.1 X.2.1 dL_many_38 (by decide) ?_
            refine lv_goto (tgt := 43) X.1 X.2.1 dL_many_39 (by decide) ?_
            refine lv_istore (lv' := [(8, .int (nI (1))), (6, .int (nI (gms F sn pl j))), (7, .int (nI (j))), (0, .ref (ar 0)), (1, .ref (ar 1)), (2, .ref (ar 2)), (3, .ref (ar 9)), (4, .int (nI (sn))), (5, .int (nI (pl)))]) X.1 X.2.1 dL_many_43 hl (by decide) rfl (fun ls hl => ?_)
            refine lv_iload X.1 X.2.1 dL_many_45 (lv_at hl 1 rfl) ?_
            refine lv_iload X.1 X.2.1 dL_many_47 (lv_at hl 0 rfl) ?_
            refine b_if_eq (tgt := 83) X dL_many_49 (by decide) (a := ((1 : Nat) : Int)) (nI_ti (by omega)) (fun c7 => ?_) (fun c7 => ?_)
            · skip
              exact absurd c7 (by first | decide | omega)
            · skip
              refine lv_aload_n X.1 X.2.1 dL_many_52 rfl (lv_at hl 4 rfl) ?_
              refine lv_iload X.1 X.2.1 dL_many_53 (lv_at hl 2 rfl) ?_
              refine q_ald X h 1 (by decide) dL_many_55 (i := j) (v := nI (mvS F j)) rfl (by show _ < 60; omega) (fun V r => LR.m1 r (by omega)) ?_
              have b8 := mv_b hI (show j < N 6 by omega)
              refine lv_bipush (v := nI (16)) X.1 X.2.1 dL_many_56 (by decide) ?_
              refine lv_irem X.1 X.2.1 dL_many_58 (by decide) ?_
              refine lv_top (y := nI (F 7 j)) ((pk_rem (by omega) (by omega) (by omega)).trans (congrArg nI b8.2.1)) ?_
              refine lv_iload X.1 X.2.1 dL_many_59 (lv_at hl 8 rfl) ?_
              refine b_icmp_eq (tgt := 79) X dL_many_61 (by decide) (a := ((F 7 j : Nat) : Int)) (b := ((pl : Nat) : Int)) (nI_ti (by omega)) (nI_ti (by omega)) (fun c9 => ?_) (fun c9 => ?_)
              · skip
                refine lv_iconst (v := nI (1)) X.1 X.2.1 dL_many_79 (by decide) ?_
                refine lv_goto (tgt := 84) X.1 X.2.1 dL_many_80 (by decide) ?_
                refine lv_iadd X.1 X.2.1 dL_many_84 ?_
                refine lv_top (y := nI (gms F sn pl (j + 1))) (gms_at (by first | exact gmC_0 (fun q => absurd q.1 (by omega)) | exact gmC_0 (fun q => Bool.noConfusion (q.2.symm.trans (by assumption))) | exact gmC_3 (by omega) (by assumption) (by omega) (by omega) | exact gmC_1 (by omega) (by assumption) (by omega) (by omega) | exact gmC_n (by omega) (by omega))) ?_
                refine lv_istore (lv' := [(6, .int (nI (gms F sn pl (j + 1)))), (8, .int (nI (1))), (7, .int (nI (j))), (0, .ref (ar 0)), (1, .ref (ar 1)), (2, .ref (ar 2)), (3, .ref (ar 9)), (4, .int (nI (sn))), (5, .int (nI (pl)))]) X.1 X.2.1 dL_many_85 hl (by decide) rfl (fun ls hl => ?_)
                refine lv_iinc (v := nI (j + 1)) (lv' := [(7, .int (nI (j + 1))), (6, .int (nI (gms F sn pl (j + 1)))), (8, .int (nI (1))), (0, .ref (ar 0)), (1, .ref (ar 1)), (2, .ref (ar 2)), (3, .ref (ar 9)), (4, .int (nI (sn))), (5, .int (nI (pl)))]) X.1 X.2.1 dL_many_87 hl (k := 2) rfl (nI_add (j) 1) (by decide) rfl (fun ls hl => ?_)
                refine lv_goto (tgt := 6) X.1 X.2.1 dL_many_90 (by decide) ?_
                exact ih_loop (j + 1) (by omega) (by omega) _ _ _ h (lv_sub hl [1, 0, 3, 4, 5, 6, 7, 8] rfl)
              · skip
                refine lv_aload_n X.1 X.2.1 dL_many_64 rfl (lv_at hl 4 rfl) ?_
                refine lv_iload X.1 X.2.1 dL_many_65 (lv_at hl 2 rfl) ?_
                refine q_ald X h 1 (by decide) dL_many_67 (i := j) (v := nI (mvS F j)) rfl (by show _ < 60; omega) (fun V r => LR.m1 r (by omega)) ?_
                have b10 := mv_b hI (show j < N 6 by omega)
                refine lv_bipush (v := nI (16)) X.1 X.2.1 dL_many_68 (by decide) ?_
                refine lv_idiv X.1 X.2.1 dL_many_70 (by decide) ?_
                refine lv_top (y := nI ((mvS F j) / 16)) (pk_div (by omega) (by omega) (by omega)) ?_
                refine lv_bipush (v := nI (16)) X.1 X.2.1 dL_many_71 (by decide) ?_
                refine lv_irem X.1 X.2.1 dL_many_73 (by decide) ?_
                refine lv_top (y := nI (F 8 j)) ((pk_rem (by omega) (by omega) (by omega)).trans (congrArg nI b10.2.2.1)) ?_
                refine lv_iload X.1 X.2.1 dL_many_74 (lv_at hl 8 rfl) ?_
                refine b_icmp_ne (tgt := 83) X dL_many_76 (by decide) (a := ((F 8 j : Nat) : Int)) (b := ((pl : Nat) : Int)) (nI_ti (by omega)) (nI_ti (by omega)) (fun c11 => ?_) (fun c11 => ?_)
                · skip
                  refine lv_iconst (v := nI (0)) X.1 X.2.1 dL_many_83 (by decide) ?_
                  refine lv_iadd X.1 X.2.1 dL_many_84 ?_
                  refine lv_top (y := nI (gms F sn pl (j + 1))) (gms_at (by first | exact gmC_0 (fun q => absurd q.1 (by omega)) | exact gmC_0 (fun q => Bool.noConfusion (q.2.symm.trans (by assumption))) | exact gmC_3 (by omega) (by assumption) (by omega) (by omega) | exact gmC_1 (by omega) (by assumption) (by omega) (by omega) | exact gmC_n (by omega) (by omega))) ?_
                  refine lv_istore (lv' := [(6, .int (nI (gms F sn pl (j + 1)))), (8, .int (nI (1))), (7, .int (nI (j))), (0, .ref (ar 0)), (1, .ref (ar 1)), (2, .ref (ar 2)), (3, .ref (ar 9)), (4, .int (nI (sn))), (5, .int (nI (pl)))]) X.1 X.2.1 dL_many_85 hl (by decide) rfl (fun ls hl => ?_)
                  refine lv_iinc (v := nI (j + 1)) (lv' := [(7, .int (nI (j + 1))), (6, .int (nI (gms F sn pl (j + 1)))), (8, .int (nI (1))), (0, .ref (ar 0)), (1, .ref (ar 1)), (2, .ref (ar 2)), (3, .ref (ar 9)), (4, .int (nI (sn))), (5, .int (nI (pl)))]) X.1 X.2.1 dL_many_87 hl (k := 2) rfl (nI_add (j) 1) (by decide) rfl (fun ls hl => ?_)
                  refine lv_goto (tgt := 6) X.1 X.2.1 dL_many_90 (by decide) ?_
                  exact ih_loop (j + 1) (by omega) (by omega) _ _ _ h (lv_sub hl [1, 0, 3, 4, 5, 6, 7, 8] rfl)
                · skip
                  refine lv_iconst (v := nI (1)) X.1 X.2.1 dL_many_79 (by decide) ?_
                  refine lv_goto (tgt := 84) X.1 X.2.1 dL_many_80 (by decide) ?_
                  refine lv_iadd X.1 X.2.1 dL_many_84 ?_
                  refine lv_top (y := nI (gms F sn pl (j + 1))) (gms_at (by first | exact gmC_0 (fun q => absurd q.1 (by omega)) | exact gmC_0 (fun q => Bool.noConfusion (q.2.symm.trans (by assumption))) | exact gmC_3 (by omega) (by assumption) (by omega) (by omega) | exact gmC_1 (by omega) (by assumption) (by omega) (by omega) | exact gmC_n (by omega) (by omega))) ?_
                  refine lv_istore (lv' := [(6, .int (nI (gms F sn pl (j + 1)))), (8, .int (nI (1))), (7, .int (nI (j))), (0, .ref (ar 0)), (1, .ref (ar 1)), (2, .ref (ar 2)), (3, .ref (ar 9)), (4, .int (nI (sn))), (5, .int (nI (pl)))]) X.1 X.2.1 dL_many_85 hl (by decide) rfl (fun ls hl => ?_)
                  refine lv_iinc (v := nI (j + 1)) (lv' := [(7, .int (nI (j + 1))), (6, .int (nI (gms F sn pl (j + 1)))), (8, .int (nI (1))), (0, .ref (ar 0)), (1, .ref (ar 1)), (2, .ref (ar 2)), (3, .ref (ar 9)), (4, .int (nI (sn))), (5, .int (nI (pl)))]) X.1 X.2.1 dL_many_87 hl (k := 2) rfl (nI_add (j) 1) (by decide) rfl (fun ls hl => ?_)
                  refine lv_goto (tgt := 6) X.1 X.2.1 dL_many_90 (by decide) ?_
                  exact ih_loop (j + 1) (by omega) (by omega) _ _ _ h (lv_sub hl [1, 0, 3, 4, 5, 6, 7, 8] rfl)
  exact loop (N 6 + 1) 0 (by omega) (by omega) _ _ _ h (lv_sub hl [1, 0, 2, 3, 4, 5, 6, 7] rfl)
