set_option maxHeartbeats 4000000 in
set_option maxRecDepth 100000 in
theorem c_L_weight (l : Launch) (G : mG) (x : Nat) (ar : Nat → Nat) (C : LSt) (N : Nat → Nat) (F : Nat → Nat → Nat) (B : Nat → Int32) (sn : Nat) (pl : Nat) (hI : Ih N F) (hp : pl < 16) (hsn : sn < 2000) : QMet l yL_weight cL_weight 7 (some FieldType.int) ({ frames := 2, cells := 0, slots := 0, locals := 52 } : Room) G x ar [.ref (ar 0), .ref (ar 1), .ref (ar 2), .ref (ar 9), .int (nI (sn)), .int (nI (pl))] C (N, F, B) (fun r C' D' => r = some (.int (nI (wS F sn (N 6) pl))) ∧ C = C' ∧ D' = (N, F, B)) := by
  refine QMet.of (by decide) (Nat.le_of_ble_eq_true rfl) ?_
  intro p e s m args below meth c A ls X hr hlocks hS hZ hN h hl
  have hl : lv_has ls 7 [(0, .ref (ar 0)), (1, .ref (ar 1)), (2, .ref (ar 2)), (3, .ref (ar 9)), (4, .int (nI (sn))), (5, .int (nI (pl)))] := hl
  have hn := hI.n
  have h6 := qM.n6 h
  have hw := wS_b hI h6 (s := sn) hp
  refine lv_aload_n X.1 X.2.1 dL_weight_0 rfl (lv_at hl 0 rfl) ?_
  refine lv_aload_n X.1 X.2.1 dL_weight_1 rfl (lv_at hl 1 rfl) ?_
  refine lv_aload_n X.1 X.2.1 dL_weight_2 rfl (lv_at hl 2 rfl) ?_
  refine lv_aload_n X.1 X.2.1 dL_weight_3 rfl (lv_at hl 3 rfl) ?_
  refine lv_iload X.1 X.2.1 dL_weight_4 (lv_at hl 4 rfl) ?_
  refine lv_iload X.1 X.2.1 dL_weight_6 (lv_at hl 5 rfl) ?_
  refine q_call X hS hZ hN h ck_L_77 kst_L_points dL_weight_8 (As := [.ref (ar 0), .ref (ar 1), .ref (ar 2), .ref (ar 9), .int (nI (sn)), .int (nI (pl))]) (c_L_points l G x ar C N F B sn pl hI (by omega) (by omega)) rfl hl rfl (Nat.le_of_ble_eq_true rfl) ⟨Nat.le_of_ble_eq_true rfl, Nat.le_of_ble_eq_true rfl⟩ ⟨Nat.le_of_ble_eq_true rfl, Nat.le_of_ble_eq_true rfl⟩ ?_
  rintro _ _ _ H locs ⟨rfl, rfl, rfl⟩ h
  refine lv_istore (lv' := [(6, .int (nI (pts F sn pl (N 6)))), (0, .ref (ar 0)), (1, .ref (ar 1)), (2, .ref (ar 2)), (3, .ref (ar 9)), (4, .int (nI (sn))), (5, .int (nI (pl)))]) X.1 X.2.1 dL_weight_11 hl (by decide) rfl (fun ls hl => ?_)
  refine lv_iload X.1 X.2.1 dL_weight_13 (lv_at hl 0 rfl) ?_
  refine b_if_ne (tgt := 23) X dL_weight_15 (by decide) (a := ((pts F sn pl (N 6) : Nat) : Int)) (nI_ti (by omega)) (fun c1 => ?_) (fun c1 => ?_)
  · skip
    refine lv_sipush (v := nI (1000)) X.1 X.2.1 dL_weight_23 (by decide) ?_
    refine lv_iload X.1 X.2.1 dL_weight_26 (lv_at hl 0 rfl) ?_
    refine lv_isub X.1 X.2.1 dL_weight_28 ?_
    refine lv_top (y := nI (1000 - pts F sn pl (N 6))) (pk_sub (by omega)) ?_
    refine lv_sipush (v := nI (1000)) X.1 X.2.1 dL_weight_29 (by decide) ?_
    refine lv_imul X.1 X.2.1 dL_weight_32 ?_
    refine lv_top (y := nI ((1000 - pts F sn pl (N 6)) * 1000)) (pk_mul _ _) ?_
    refine lv_aload_n X.1 X.2.1 dL_weight_33 rfl (lv_at hl 1 rfl) ?_
    refine lv_aload_n X.1 X.2.1 dL_weight_34 rfl (lv_at hl 2 rfl) ?_
    refine lv_aload_n X.1 X.2.1 dL_weight_35 rfl (lv_at hl 3 rfl) ?_
    refine lv_aload_n X.1 X.2.1 dL_weight_36 rfl (lv_at hl 4 rfl) ?_
    refine lv_iload X.1 X.2.1 dL_weight_37 (lv_at hl 5 rfl) ?_
    refine lv_iload X.1 X.2.1 dL_weight_39 (lv_at hl 6 rfl) ?_
    refine q_call X hS hZ hN h ck_L_82 kst_L_many dL_weight_41 (As := [.ref (ar 0), .ref (ar 1), .ref (ar 2), .ref (ar 9), .int (nI (sn)), .int (nI (pl))]) (c_L_many l G x ar C N F B sn pl hI (by omega) (by omega)) rfl hl rfl (Nat.le_of_ble_eq_true rfl) ⟨Nat.le_of_ble_eq_true rfl, Nat.le_of_ble_eq_true rfl⟩ ⟨Nat.le_of_ble_eq_true rfl, Nat.le_of_ble_eq_true rfl⟩ ?_
    rintro _ _ _ H locs ⟨rfl, rfl, rfl⟩ h
    refine lv_bipush (v := nI (16)) X.1 X.2.1 dL_weight_44 (by decide) ?_
    refine lv_imul X.1 X.2.1 dL_weight_46 ?_
    refine lv_top (y := nI ((gms F sn pl (N 6)) * 16)) (pk_mul _ _) ?_
    refine lv_iadd X.1 X.2.1 dL_weight_47 ?_
    refine lv_top (y := nI ((1000 - pts F sn pl (N 6)) * 1000 + ((gms F sn pl (N 6)) * 16))) (nI_add _ _) ?_
    refine lv_iload X.1 X.2.1 dL_weight_48 (lv_at hl 6 rfl) ?_
    refine lv_iadd X.1 X.2.1 dL_weight_50 ?_
    refine lv_top (y := nI ((1000 - pts F sn pl (N 6)) * 1000 + ((gms F sn pl (N 6)) * 16) + pl)) (nI_add _ _) ?_
    exact q_iret X hr hlocks h dL_weight_51 ⟨Nat.le_of_ble_eq_true rfl, Nat.le_of_ble_eq_true rfl⟩ (⟨by rw [wS, if_neg (by omega)], rfl, rfl⟩)
  · skip
    refine lv_ldc (own := RL) (index := 81) (v := 1000000) X.1 X.2.1 X.2.2.2.1 (X.2.2.2.2.1.use kco_L_81) dL_weight_18 ?_
    refine lv_top (y := nI 1000000) rfl ?_
    refine lv_goto (tgt := 51) X.1 X.2.1 dL_weight_20 (by decide) ?_
    exact q_iret X hr hlocks h dL_weight_51 ⟨Nat.le_of_ble_eq_true rfl, Nat.le_of_ble_eq_true rfl⟩ (⟨by rw [wS, if_pos (by omega)], rfl, rfl⟩)
set_option maxHeartbeats 4000000 in
set_option maxRecDepth 100000 in
theorem c_L_who (l : Launch) (G : mG) (x : Nat) (ar : Nat → Nat) (C : LSt) (N : Nat → Nat) (F : Nat → Nat → Nat) (B : Nat → Int32) (sn : Nat) (pl : Nat) (hI : Ih N F) (hpl : 1 ≤ pl) (hpl3 : pl ≤ 3) (hsn : sn < 2000) : QMet l yL_who cL_who 12 (some FieldType.int) ({ frames := 3, cells := 0, slots := 0, locals := 78 } : Room) G x ar [.ref (ar 0), .ref (ar 1), .ref (ar 2), .ref (ar 9), .int (nI (sn)), .int (nI (pl))] C (N, F, B) (fun r C' D' => r = some (.int (nI (heirS N F sn pl) - 1)) ∧ C = C' ∧ D' = (N, F, B)) := by
  refine QMet.of (by decide) (Nat.le_of_ble_eq_true rfl) ?_
  intro p e s m args below meth c A ls X hr hlocks hS hZ hN h hl
  have hl : lv_has ls 12 [(0, .ref (ar 0)), (1, .ref (ar 1)), (2, .ref (ar 2)), (3, .ref (ar 9)), (4, .int (nI (sn))), (5, .int (nI (pl)))] := hl
  have hn := hI.n
  have h6 := qM.n6 h
  refine lv_iconst (v := nI (0) - 1) X.1 X.2.1 dL_who_0 (by decide) ?_
  refine lv_istore (lv' := [(6, .int (nI (0) - 1)), (0, .ref (ar 0)), (1, .ref (ar 1)), (2, .ref (ar 2)), (3, .ref (ar 9)), (4, .int (nI (sn))), (5, .int (nI (pl)))]) X.1 X.2.1 dL_who_1 hl (by decide) rfl (fun ls hl => ?_)
  refine lv_iconst (v := nI (0) - 1) X.1 X.2.1 dL_who_3 (by decide) ?_
  refine lv_istore (lv' := [(7, .int (nI (0) - 1)), (6, .int (nI (0) - 1)), (0, .ref (ar 0)), (1, .ref (ar 1)), (2, .ref (ar 2)), (3, .ref (ar 9)), (4, .int (nI (sn))), (5, .int (nI (pl)))]) X.1 X.2.1 dL_who_4 hl (by decide) rfl (fun ls hl => ?_)
  refine lv_iconst (v := nI (0)) X.1 X.2.1 dL_who_6 (by decide) ?_
  refine lv_istore (lv' := [(8, .int (nI (0))), (7, .int (nI (0) - 1)), (6, .int (nI (0) - 1)), (0, .ref (ar 0)), (1, .ref (ar 1)), (2, .ref (ar 2)), (3, .ref (ar 9)), (4, .int (nI (sn))), (5, .int (nI (pl)))]) X.1 X.2.1 dL_who_7 hl (by decide) rfl (fun ls hl => ?_)
  have outer : ∀ (n9 : Nat) (n : Nat), (pl + 1 ≤ n + n9) → (n ≤ pl) → ∀ (H : Heap) (locs : List Loc) (ls : Array Slot), qM G A s x ar C (N, F, B) H locs → lv_has ls 12 [(6, .int (nI ((ouB (wW N F sn) (N 1) n).1) - 1)), (7, .int (nI ((ouB (wW N F sn) (N 1) n).2) - 1)), (8, .int (nI (n))), (0, .ref (ar 0)), (1, .ref (ar 1)), (2, .ref (ar 2)), (3, .ref (ar 9)), (4, .int (nI (sn))), (5, .int (nI (pl)))] → W p l e ({ frames := 3, cells := 0, slots := 0, locals := 78 } : Room) s m args below meth c H locs (0) (0) (QZ G A x ar (fun r C' D' => r = some (.int (nI (heirS N F sn pl) - 1)) ∧ C = C' ∧ D' = (N, F, B)) below args s 0 0) (F0 m 9 ls []) := by
    intro n9
    induction n9 with
    | zero => intro n hm9 hn9; exact absurd hm9 (by omega)
    | succ n9 ih_outer =>
      intro n hm9 hn9 H locs ls h hl
      have hob := ouB_le (wW N F sn) (N 1) n
      have hob2 := ouB_le2 (wW N F sn) (N 1) n
      refine lv_iload X.1 X.2.1 dL_who_9 (lv_at hl 2 rfl) ?_
      refine lv_iload X.1 X.2.1 dL_who_11 (lv_at hl 8 rfl) ?_
      refine b_icmp_ge (tgt := 85) X dL_who_13 (by decide) (a := ((n : Nat) : Int)) (b := ((pl : Nat) : Int)) (nI_ti (by omega)) (nI_ti (by omega)) (fun c1 => ?_) (fun c1 => ?_)
      · skip
        refine lv_iload X.1 X.2.1 dL_who_85 (lv_at hl 1 rfl) ?_
        exact q_iret X hr hlocks h dL_who_87 ⟨Nat.le_of_ble_eq_true rfl, Nat.le_of_ble_eq_true rfl⟩ (⟨by rw [show n = pl by omega, ouB_heir hI h6 sn hpl], rfl, rfl⟩)
      · skip
        obtain ⟨b1, eb⟩ : ∃ b1, (ouB (wW N F sn) (N 1) n).1 = b1 := ⟨_, rfl⟩
        rw [eb] at hl
        have hl : lv_has ls 12 [(6, .int (nI (b1) - 1)), (7, .int (nI ((ouB (wW N F sn) (N 1) n).2) - 1)), (8, .int (nI (n))), (0, .ref (ar 0)), (1, .ref (ar 1)), (2, .ref (ar 2)), (3, .ref (ar 9)), (4, .int (nI (sn))), (5, .int (nI (pl)))] := hl
        refine lv_ldc (own := RL) (index := 81) (v := 1000000) X.1 X.2.1 X.2.2.2.1 (X.2.2.2.2.1.use kco_L_81) dL_who_16 ?_
        refine lv_top (y := nI 1000000) rfl ?_
        refine lv_istore (lv' := [(9, .int (nI (1000000))), (6, .int (nI (b1) - 1)), (7, .int (nI ((ouB (wW N F sn) (N 1) n).2) - 1)), (8, .int (nI (n))), (0, .ref (ar 0)), (1, .ref (ar 1)), (2, .ref (ar 2)), (3, .ref (ar 9)), (4, .int (nI (sn))), (5, .int (nI (pl)))]) X.1 X.2.1 dL_who_18 hl (by decide) rfl (fun ls hl => ?_)
        refine lv_iconst (v := nI (0) - 1) X.1 X.2.1 dL_who_20 (by decide) ?_
        refine lv_istore (lv' := [(7, .int (nI (0) - 1)), (9, .int (nI (1000000))), (6, .int (nI (b1) - 1)), (8, .int (nI (n))), (0, .ref (ar 0)), (1, .ref (ar 1)), (2, .ref (ar 2)), (3, .ref (ar 9)), (4, .int (nI (sn))), (5, .int (nI (pl)))]) X.1 X.2.1 dL_who_21 hl (by decide) rfl (fun ls hl => ?_)
        refine lv_iconst (v := nI (0)) X.1 X.2.1 dL_who_23 (by decide) ?_
        refine lv_istore (lv' := [(10, .int (nI (0))), (7, .int (nI (0) - 1)), (9, .int (nI (1000000))), (6, .int (nI (b1) - 1)), (8, .int (nI (n))), (0, .ref (ar 0)), (1, .ref (ar 1)), (2, .ref (ar 2)), (3, .ref (ar 9)), (4, .int (nI (sn))), (5, .int (nI (pl)))]) X.1 X.2.1 dL_who_24 hl (by decide) rfl (fun ls hl => ?_)
        have hb1 : b1 ≤ 1000001 := by rw [← eb]; exact ouB_le _ _ _
        have inner : ∀ (n9 : Nat) (j : Nat), (N 1 + 1 ≤ j + n9) → (j ≤ N 1) → ∀ (H : Heap) (locs : List Loc) (ls : Array Slot), qM G A s x ar C (N, F, B) H locs → lv_has ls 12 [(9, .int (nI ((inB (wW N F sn) b1 j).1))), (7, .int (nI ((inB (wW N F sn) b1 j).2) - 1)), (10, .int (nI (j))), (6, .int (nI (b1) - 1)), (8, .int (nI (n))), (0, .ref (ar 0)), (1, .ref (ar 1)), (2, .ref (ar 2)), (3, .ref (ar 9)), (4, .int (nI (sn))), (5, .int (nI (pl)))] → W p l e ({ frames := 3, cells := 0, slots := 0, locals := 78 } : Room) s m args below meth c H locs (0) (0) (QZ G A x ar (fun r C' D' => r = some (.int (nI (heirS N F sn pl) - 1)) ∧ C = C' ∧ D' = (N, F, B)) below args s 0 0) (F0 m 26 ls []) := by
          intro n9
          induction n9 with
          | zero => intro j hm9 hj; exact absurd hm9 (by omega)
          | succ n9 ih_inner =>
            intro j hm9 hj H locs ls h hl
            have hin := (inB_sp (wW N F sn) b1 j).2.1
            have hw := fun hj0 : j < N 1 => wS_b hI h6 (s := sn) (p := j) (by omega)
            refine lv_iload X.1 X.2.1 dL_who_26 (lv_at hl 2 rfl) ?_
            refine lv_aload_n X.1 X.2.1 dL_who_28 rfl (lv_at hl 8 rfl) ?_
            refine lv_iconst (v := nI (1)) X.1 X.2.1 dL_who_29 (by decide) ?_
            refine q_ald X h 9 (by decide) dL_who_30 (i := 1) (v := nI (N 1)) rfl (by show _ < 9; omega) (fun V r => LR.g1 r) ?_
            refine b_icmp_ge (tgt := 75) X dL_who_31 (by decide) (a := ((j : Nat) : Int)) (b := ((N 1 : Nat) : Int)) (nI_ti (by omega)) (nI_ti (by omega)) (fun c2 => ?_) (fun c2 => ?_)
            · skip
              have ej : j = N 1 := by omega
              rw [ej, ← eb] at hl
              have hl : lv_has ls 12 [(9, .int (nI ((ouB (wW N F sn) (N 1) (n + 1)).1) - 1)), (7, .int (nI ((ouB (wW N F sn) (N 1) (n + 1)).2) - 1)), (8, .int (nI (n))), (0, .ref (ar 0)), (1, .ref (ar 1)), (2, .ref (ar 2)), (3, .ref (ar 9)), (4, .int (nI (sn))), (5, .int (nI (pl)))] := by
                rw [show (ouB (wW N F sn) (N 1) (n + 1)).1 = (inB (wW N F sn) (ouB (wW N F sn) (N 1) n).1 (N 1)).1 + 1 from rfl, nI_pred]
                exact lv_sub hl [0, 1, 4, 5, 6, 7, 8, 9, 10] rfl
              refine lv_iload X.1 X.2.1 dL_who_75 (lv_at hl 0 rfl) ?_
              refine lv_istore (lv' := [(6, .int (nI ((ouB (wW N F sn) (N 1) (n + 1)).1) - 1)), (9, .int (nI ((ouB (wW N F sn) (N 1) (n + 1)).1) - 1)), (7, .int (nI ((ouB (wW N F sn) (N 1) (n + 1)).2) - 1)), (8, .int (nI (n))), (0, .ref (ar 0)), (1, .ref (ar 1)), (2, .ref (ar 2)), (3, .ref (ar 9)), (4, .int (nI (sn))), (5, .int (nI (pl)))]) X.1 X.2.1 dL_who_77 hl (by decide) rfl (fun ls hl => ?_)
              refine lv_iinc (v := nI (n + 1)) (lv' := [(8, .int (nI (n + 1))), (6, .int (nI ((ouB (wW N F sn) (N 1) (n + 1)).1) - 1)), (9, .int (nI ((ouB (wW N F sn) (N 1) (n + 1)).1) - 1)), (7, .int (nI ((ouB (wW N F sn) (N 1) (n + 1)).2) - 1)), (0, .ref (ar 0)), (1, .ref (ar 1)), (2, .ref (ar 2)), (3, .ref (ar 9)), (4, .int (nI (sn))), (5, .int (nI (pl)))]) X.1 X.2.1 dL_who_79 hl (k := 3) rfl (nI_add (n) 1) (by decide) rfl (fun ls hl => ?_)
              refine lv_goto (tgt := 9) X.1 X.2.1 dL_who_82 (by decide) ?_
              exact ih_outer (n + 1) (by omega) (by omega) _ _ _ h (lv_sub hl [1, 3, 0, 4, 5, 6, 7, 8, 9] rfl)
            · skip
              refine lv_aload_n X.1 X.2.1 dL_who_34 rfl (lv_at hl 5 rfl) ?_
              refine lv_aload_n X.1 X.2.1 dL_who_35 rfl (lv_at hl 6 rfl) ?_
              refine lv_aload_n X.1 X.2.1 dL_who_36 rfl (lv_at hl 7 rfl) ?_
              refine lv_aload_n X.1 X.2.1 dL_who_37 rfl (lv_at hl 8 rfl) ?_
              refine lv_iload X.1 X.2.1 dL_who_38 (lv_at hl 9 rfl) ?_
              refine lv_iload X.1 X.2.1 dL_who_40 (lv_at hl 2 rfl) ?_
              refine q_call X hS hZ hN h ck_L_85 kst_L_weight dL_who_42 (As := [.ref (ar 0), .ref (ar 1), .ref (ar 2), .ref (ar 9), .int (nI (sn)), .int (nI (j))]) (c_L_weight l G x ar C N F B sn j hI (by omega) (by omega)) rfl hl rfl (Nat.le_of_ble_eq_true rfl) ⟨Nat.le_of_ble_eq_true rfl, Nat.le_of_ble_eq_true rfl⟩ ⟨Nat.le_of_ble_eq_true rfl, Nat.le_of_ble_eq_true rfl⟩ ?_
              rintro _ _ _ H locs ⟨rfl, rfl, rfl⟩ h
              have hwj := hw (by omega)
              refine lv_istore (lv' := [(11, .int (nI (wS F sn (N 6) j))), (9, .int (nI ((inB (wW N F sn) b1 j).1))), (7, .int (nI ((inB (wW N F sn) b1 j).2) - 1)), (10, .int (nI (j))), (6, .int (nI (b1) - 1)), (8, .int (nI (n))), (0, .ref (ar 0)), (1, .ref (ar 1)), (2, .ref (ar 2)), (3, .ref (ar 9)), (4, .int (nI (sn))), (5, .int (nI (pl)))]) X.1 X.2.1 dL_who_45 hl (by decide) rfl (fun ls hl => ?_)
              refine lv_iload X.1 X.2.1 dL_who_47 (lv_at hl 0 rfl) ?_
              refine lv_iload X.1 X.2.1 dL_who_49 (lv_at hl 4 rfl) ?_
              refine b_icmp_le (tgt := 69) X dL_who_51 (by decide) (a := ((wS F sn (N 6) j : Nat) : Int)) (b := ((b1 : Nat) : Int) - 1) (nI_ti (by omega)) (eI_ti (by omega)) (fun c3 => ?_) (fun c3 => ?_)
              · skip
                refine lv_iinc (v := nI (j + 1)) (lv' := [(10, .int (nI (j + 1))), (11, .int (nI (wS F sn (N 6) j))), (9, .int (nI ((inB (wW N F sn) b1 j).1))), (7, .int (nI ((inB (wW N F sn) b1 j).2) - 1)), (6, .int (nI (b1) - 1)), (8, .int (nI (n))), (0, .ref (ar 0)), (1, .ref (ar 1)), (2, .ref (ar 2)), (3, .ref (ar 9)), (4, .int (nI (sn))), (5, .int (nI (pl)))]) X.1 X.2.1 dL_who_69 hl (k := 3) rfl (nI_add (j) 1) (by decide) rfl (fun ls hl => ?_)
                refine lv_goto (tgt := 26) X.1 X.2.1 dL_who_72 (by decide) ?_
                have e1 := inB_f (W := wW N F sn) (b := b1) (j := j) (show ¬ (b1 ≤ wS F sn (N 6) j ∧ wS F sn (N 6) j < (inB (wW N F sn) b1 j).1) by omega)
                exact ih_inner (j + 1) (by omega) (by omega) _ _ _ h (by rw [e1]; exact lv_sub hl [2, 3, 0, 4, 5, 6, 7, 8, 9, 10, 11] rfl)
              · skip
                refine lv_iload X.1 X.2.1 dL_who_54 (lv_at hl 0 rfl) ?_
                refine lv_iload X.1 X.2.1 dL_who_56 (lv_at hl 1 rfl) ?_
                refine b_icmp_ge (tgt := 69) X dL_who_58 (by decide) (a := ((wS F sn (N 6) j : Nat) : Int)) (b := (((inB (wW N F sn) b1 j).1 : Nat) : Int)) (nI_ti (by omega)) (nI_ti (by omega)) (fun c4 => ?_) (fun c4 => ?_)
                · skip
                  refine lv_iinc (v := nI (j + 1)) (lv' := [(10, .int (nI (j + 1))), (11, .int (nI (wS F sn (N 6) j))), (9, .int (nI ((inB (wW N F sn) b1 j).1))), (7, .int (nI ((inB (wW N F sn) b1 j).2) - 1)), (6, .int (nI (b1) - 1)), (8, .int (nI (n))), (0, .ref (ar 0)), (1, .ref (ar 1)), (2, .ref (ar 2)), (3, .ref (ar 9)), (4, .int (nI (sn))), (5, .int (nI (pl)))]) X.1 X.2.1 dL_who_69 hl (k := 3) rfl (nI_add (j) 1) (by decide) rfl (fun ls hl => ?_)
                  refine lv_goto (tgt := 26) X.1 X.2.1 dL_who_72 (by decide) ?_
                  have e1 := inB_f (W := wW N F sn) (b := b1) (j := j) (show ¬ (b1 ≤ wS F sn (N 6) j ∧ wS F sn (N 6) j < (inB (wW N F sn) b1 j).1) by omega)
                  exact ih_inner (j + 1) (by omega) (by omega) _ _ _ h (by rw [e1]; exact lv_sub hl [2, 3, 0, 4, 5, 6, 7, 8, 9, 10, 11] rfl)
                · skip
                  refine lv_iload X.1 X.2.1 dL_who_61 (lv_at hl 0 rfl) ?_
                  refine lv_istore (lv' := [(9, .int (nI (wS F sn (N 6) j))), (11, .int (nI (wS F sn (N 6) j))), (7, .int (nI ((inB (wW N F sn) b1 j).2) - 1)), (10, .int (nI (j))), (6, .int (nI (b1) - 1)), (8, .int (nI (n))), (0, .ref (ar 0)), (1, .ref (ar 1)), (2, .ref (ar 2)), (3, .ref (ar 9)), (4, .int (nI (sn))), (5, .int (nI (pl)))]) X.1 X.2.1 dL_who_63 hl (by decide) rfl (fun ls hl => ?_)
                  refine lv_iload X.1 X.2.1 dL_who_65 (lv_at hl 3 rfl) ?_
                  refine lv_istore (lv' := [(7, .int (nI (j))), (9, .int (nI (wS F sn (N 6) j))), (11, .int (nI (wS F sn (N 6) j))), (10, .int (nI (j))), (6, .int (nI (b1) - 1)), (8, .int (nI (n))), (0, .ref (ar 0)), (1, .ref (ar 1)), (2, .ref (ar 2)), (3, .ref (ar 9)), (4, .int (nI (sn))), (5, .int (nI (pl)))]) X.1 X.2.1 dL_who_67 hl (by decide) rfl (fun ls hl => ?_)
                  refine lv_iinc (v := nI (j + 1)) (lv' := [(10, .int (nI (j + 1))), (7, .int (nI (j))), (9, .int (nI (wS F sn (N 6) j))), (11, .int (nI (wS F sn (N 6) j))), (6, .int (nI (b1) - 1)), (8, .int (nI (n))), (0, .ref (ar 0)), (1, .ref (ar 1)), (2, .ref (ar 2)), (3, .ref (ar 9)), (4, .int (nI (sn))), (5, .int (nI (pl)))]) X.1 X.2.1 dL_who_69 hl (k := 3) rfl (nI_add (j) 1) (by decide) rfl (fun ls hl => ?_)
                  refine lv_goto (tgt := 26) X.1 X.2.1 dL_who_72 (by decide) ?_
                  have e1 := inB_t (W := wW N F sn) (b := b1) (j := j) (show b1 ≤ wS F sn (N 6) j by omega) (show wS F sn (N 6) j < (inB (wW N F sn) b1 j).1 by omega)
                  exact ih_inner (j + 1) (by omega) (by omega) _ _ _ h (by rw [e1]; dsimp only; rw [nI_pred]; exact lv_sub hl [2, 1, 0, 4, 5, 6, 7, 8, 9, 10, 11] rfl)
        exact inner (N 1 + 1) 0 (by omega) (by omega) _ _ _ h (lv_sub hl [2, 1, 0, 3, 4, 5, 6, 7, 8, 9, 10] rfl)
  exact outer (pl + 1) 0 (by omega) (by omega) _ _ _ h (lv_sub hl [2, 1, 0, 3, 4, 5, 6, 7, 8] rfl)
set_option maxHeartbeats 4000000 in
set_option maxRecDepth 100000 in
theorem c_L_pays (l : Launch) (G : mG) (x : Nat) (ar : Nat → Nat) (C : LSt) (N : Nat → Nat) (F : Nat → Nat → Nat) (B : Nat → Int32) (f : Nat) (t : Nat) (amt : Nat) (h16 : N 1 ≤ 16) (hf : f ≤ 16) (ht : t ≤ 16) : QMet l yL_pays cL_pays 4 none ({ frames := 0, cells := 0, slots := 0, locals := 0 } : Room) G x ar [.ref (ar 0), .int (nI (f) - 1), .int (nI (t) - 1), .int (nI (amt))] C (N, F, B) (fun r C' D' => r = none ∧ C = C' ∧ D' = (N, F, payS B f t amt)) := by
  refine QMet.of (by decide) (Nat.le_of_ble_eq_true rfl) ?_
  intro p e s m args below meth c A ls X hr hlocks hS hZ hN h hl
  have hl : lv_has ls 4 [(0, .ref (ar 0)), (1, .int (nI (f) - 1)), (2, .int (nI (t) - 1)), (3, .int (nI (amt)))] := hl
  refine lv_iload_n X.1 X.2.1 dL_pays_0 rfl (lv_at hl 1 rfl) ?_
  refine b_if_lt (tgt := 28) X dL_pays_1 (by decide) (a := ((f : Nat) : Int) - 1) (eI_ti (by omega)) (fun c1 => ?_) (fun c1 => ?_)
  · skip
    exact q_vret X hr hlocks h dL_pays_28 ⟨Nat.le_of_ble_eq_true rfl, Nat.le_of_ble_eq_true rfl⟩ (⟨rfl, rfl, by rw [payS, if_pos (by omega)]⟩)
  · skip
    refine lv_iload_n X.1 X.2.1 dL_pays_4 rfl (lv_at hl 2 rfl) ?_
    refine b_if_lt (tgt := 28) X dL_pays_5 (by decide) (a := ((t : Nat) : Int) - 1) (eI_ti (by omega)) (fun c2 => ?_) (fun c2 => ?_)
    · skip
      exact q_vret X hr hlocks h dL_pays_28 ⟨Nat.le_of_ble_eq_true rfl, Nat.le_of_ble_eq_true rfl⟩ (⟨rfl, rfl, by rw [payS, if_pos (by omega)]⟩)
    · skip
      refine lv_aload_n X.1 X.2.1 dL_pays_8 rfl (lv_at hl 0 rfl) ?_
      refine lv_bipush (v := nI (32)) X.1 X.2.1 dL_pays_9 (by decide) ?_
      refine lv_iload_n X.1 X.2.1 dL_pays_11 rfl (lv_at hl 1 rfl) ?_
      refine lv_iadd X.1 X.2.1 dL_pays_12 ?_
      refine lv_top (y := nI (32 + (f - 1))) (add_sh (by omega)) ?_
      refine lv_dup2_11 X.1 X.2.1 dL_pays_13 rfl rfl ?_
      refine q_ald X h 0 (by decide) dL_pays_14 (i := 32 + (f - 1)) (v := B (f - 1)) rfl (by show _ < 48; omega) (fun V r => LR.mon r (by omega)) ?_
      refine lv_iload_n X.1 X.2.1 dL_pays_15 rfl (lv_at hl 3 rfl) ?_
      refine lv_isub X.1 X.2.1 dL_pays_16 ?_
      refine q_ast X h 0 (by decide) dL_pays_17 (i := 32 + (f - 1)) N F ((upd B (f - 1) ((B (f - 1)) - (nI (amt))))) rfl (by show _ < 48; omega) (fun V r => r.wmon h16 (by omega) _) (fun H locs h => ?_)
      refine lv_aload_n X.1 X.2.1 dL_pays_18 rfl (lv_at hl 0 rfl) ?_
      refine lv_bipush (v := nI (32)) X.1 X.2.1 dL_pays_19 (by decide) ?_
      refine lv_iload_n X.1 X.2.1 dL_pays_21 rfl (lv_at hl 2 rfl) ?_
      refine lv_iadd X.1 X.2.1 dL_pays_22 ?_
      refine lv_top (y := nI (32 + (t - 1))) (add_sh (by omega)) ?_
      refine lv_dup2_11 X.1 X.2.1 dL_pays_23 rfl rfl ?_
      refine q_ald X h 0 (by decide) dL_pays_24 (i := 32 + (t - 1)) (v := ((upd B (f - 1) ((B (f - 1)) - (nI (amt))))) (t - 1)) rfl (by show _ < 48; omega) (fun V r => LR.mon r (by omega)) ?_
      refine lv_iload_n X.1 X.2.1 dL_pays_25 rfl (lv_at hl 3 rfl) ?_
      refine lv_iadd X.1 X.2.1 dL_pays_26 ?_
      refine q_ast X h 0 (by decide) dL_pays_27 (i := 32 + (t - 1)) N F ((upd (upd B (f - 1) ((B (f - 1)) - (nI (amt)))) (t - 1) ((((upd B (f - 1) ((B (f - 1)) - (nI (amt))))) (t - 1)) + (nI (amt))))) rfl (by show _ < 48; omega) (fun V r => r.wmon h16 (by omega) _) (fun H locs h => ?_)
      exact q_vret X hr hlocks h dL_pays_28 ⟨Nat.le_of_ble_eq_true rfl, Nat.le_of_ble_eq_true rfl⟩ (⟨rfl, rfl, by rw [payS, if_neg (by omega)]⟩)
