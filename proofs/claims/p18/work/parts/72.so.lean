set_option maxHeartbeats 4000000 in
set_option maxRecDepth 100000 in
theorem c_L_isNumber (l : Launch) (G : mG) (x : Nat) (ar : Nat → Nat) (N : Nat → Nat) (F : Nat → Nat → Nat) (B : Nat → Int32) (k0 : Nat) (a0 : Nat) (v0 : Nat) (hst : l.stackTraces = false) (hI : Iv N F) (hk : k0 < N 13) (ha : a0 < 900) (hv : v0 < 100) (h1 : v0 < 10 → (labL F k0).getD a0 0 = 48 + v0) (h2 : 10 ≤ v0 → (labL F k0).getD a0 0 = 48 + v0 / 10 ∧ (labL F k0).getD (a0 + 1) 0 = 48 + v0 % 10) : QMet l yL_isNumber cL_isNumber 4 (some FieldType.boolean) ({ frames := 8, cells := 6, slots := 52, locals := 128 } : Room) G x ar [.ref x, .int (nI (k0)), .int (nI (a0)), .int (nI (v0))] (N, F, B) (N, F, B) (fun r C' D' => r = some (.int (nI 1)) ∧ (N, F, B) = C' ∧ D' = (N, F, B)) := by
  refine QMet.of (by decide) (Nat.le_of_ble_eq_true rfl) ?_
  intro p e s m args below meth c A ls X hr hlocks hS hZ hN h hl
  have hl : lv_has ls 4 [(0, .ref x), (1, .int (nI (k0))), (2, .int (nI (a0))), (3, .int (nI (v0)))] := hl
  have hn := hI.n
  refine lv_iload_n X.1 X.2.1 dL_isNumber_0 rfl (lv_at hl 3 rfl) ?_
  refine lv_bipush (v := nI (10)) X.1 X.2.1 dL_isNumber_1 (by decide) ?_
  refine b_icmp_ge (tgt := 27) X dL_isNumber_3 (by decide) (a := ((v0 : Nat) : Int)) (b := ((10 : Nat) : Int)) (nI_ti (by omega)) (nI_ti (by omega)) (fun c1 => ?_) (fun c1 => ?_)
  · skip
    refine lv_aload_n X.1 X.2.1 dL_isNumber_27 rfl (lv_at hl 0 rfl) ?_
    refine lv_iload_n X.1 X.2.1 dL_isNumber_28 rfl (lv_at hl 1 rfl) ?_
    refine lv_iload_n X.1 X.2.1 dL_isNumber_29 rfl (lv_at hl 2 rfl) ?_
    refine q_callX (C1 := (N, F, B)) (v := nI (48 + (v0 / 10))) X hS hZ h ck_L_58 ki_X6_label ks_X6_label dL_isNumber_30 (As := [.int (nI (k0)), .int (nI (a0))]) (fun MC cs => x_label (N := N) (F := F) (B := B) (w := 48 + (v0 / 10)) cs hst hI (by omega) (by omega) ((h2 (by omega)).1)) (no_1 (kLabel_0 (N := N) (by omega) (by omega) (by omega))) rfl hl rfl (Nat.le_of_ble_eq_true rfl) ⟨Nat.le_of_ble_eq_true rfl, Nat.le_of_ble_eq_true rfl⟩ ⟨show 0 + 3 ≤ 6 by omega, show 0 + 26 ≤ 52 by omega⟩ (fun H locs h => ?_)
    refine lv_bipush (v := nI (48)) X.1 X.2.1 dL_isNumber_33 (by decide) ?_
    refine lv_iload_n X.1 X.2.1 dL_isNumber_35 rfl (lv_at hl 3 rfl) ?_
    refine lv_bipush (v := nI (10)) X.1 X.2.1 dL_isNumber_36 (by decide) ?_
    refine lv_idiv X.1 X.2.1 dL_isNumber_38 (by decide) ?_
    refine lv_top (y := nI (v0 / 10)) (pk_div (by omega) (by omega) (by omega)) ?_
    refine lv_iadd X.1 X.2.1 dL_isNumber_39 ?_
    refine lv_top (y := nI (48 + (v0 / 10))) (nI_add _ _) ?_
    refine b_icmp_ne (tgt := 65) X dL_isNumber_40 (by decide) (a := ((48 + (v0 / 10) : Nat) : Int)) (b := ((48 + (v0 / 10) : Nat) : Int)) (nI_ti (by omega)) (nI_ti (by omega)) (fun c2 => ?_) (fun c2 => ?_)
    · skip
      exact absurd c2 (by first | decide | omega)
    · skip
      refine lv_aload_n X.1 X.2.1 dL_isNumber_43 rfl (lv_at hl 0 rfl) ?_
      refine lv_iload_n X.1 X.2.1 dL_isNumber_44 rfl (lv_at hl 1 rfl) ?_
      refine lv_iload_n X.1 X.2.1 dL_isNumber_45 rfl (lv_at hl 2 rfl) ?_
      refine lv_iconst (v := nI (1)) X.1 X.2.1 dL_isNumber_46 (by decide) ?_
      refine lv_iadd X.1 X.2.1 dL_isNumber_47 ?_
      refine lv_top (y := nI (a0 + 1)) (nI_add _ _) ?_
      refine q_callX (C1 := (N, F, B)) (v := nI (48 + (v0 % 10))) X hS hZ h ck_L_58 ki_X6_label ks_X6_label dL_isNumber_48 (As := [.int (nI (k0)), .int (nI (a0 + 1))]) (fun MC cs => x_label (N := N) (F := F) (B := B) (w := 48 + (v0 % 10)) cs hst hI (by omega) (by omega) ((h2 (by omega)).2)) (no_1 (kLabel_0 (N := N) (by omega) (by omega) (by omega))) rfl hl rfl (Nat.le_of_ble_eq_true rfl) ⟨Nat.le_of_ble_eq_true rfl, Nat.le_of_ble_eq_true rfl⟩ ⟨show 0 + 3 + 3 ≤ 6 by omega, show 0 + 26 + 26 ≤ 52 by omega⟩ (fun H locs h => ?_)
      refine lv_bipush (v := nI (48)) X.1 X.2.1 dL_isNumber_51 (by decide) ?_
      refine lv_iload_n X.1 X.2.1 dL_isNumber_53 rfl (lv_at hl 3 rfl) ?_
      refine lv_bipush (v := nI (10)) X.1 X.2.1 dL_isNumber_54 (by decide) ?_
      refine lv_irem X.1 X.2.1 dL_isNumber_56 (by decide) ?_
      refine lv_top (y := nI (v0 % 10)) (pk_rem (by omega) (by omega) (by omega)) ?_
      refine lv_iadd X.1 X.2.1 dL_isNumber_57 ?_
      refine lv_top (y := nI (48 + (v0 % 10))) (nI_add _ _) ?_
      refine b_icmp_ne (tgt := 65) X dL_isNumber_58 (by decide) (a := ((48 + (v0 % 10) : Nat) : Int)) (b := ((48 + (v0 % 10) : Nat) : Int)) (nI_ti (by omega)) (nI_ti (by omega)) (fun c3 => ?_) (fun c3 => ?_)
      · skip
        exact absurd c3 (by first | decide | omega)
      · skip
        refine lv_iconst (v := nI (1)) X.1 X.2.1 dL_isNumber_61 (by decide) ?_
        refine lv_goto (tgt := 66) X.1 X.2.1 dL_isNumber_62 (by decide) ?_
        exact q_zret X hr hlocks h dL_isNumber_66 ⟨show 0 + 3 + 3 ≤ 6 by omega, show 0 + 26 + 26 ≤ 52 by omega⟩ (rfl) (⟨rfl, rfl, rfl⟩)
  · skip
    refine lv_aload_n X.1 X.2.1 dL_isNumber_6 rfl (lv_at hl 0 rfl) ?_
    refine lv_iload_n X.1 X.2.1 dL_isNumber_7 rfl (lv_at hl 1 rfl) ?_
    refine lv_iload_n X.1 X.2.1 dL_isNumber_8 rfl (lv_at hl 2 rfl) ?_
    refine q_callX (C1 := (N, F, B)) (v := nI (48 + v0)) X hS hZ h ck_L_58 ki_X6_label ks_X6_label dL_isNumber_9 (As := [.int (nI (k0)), .int (nI (a0))]) (fun MC cs => x_label (N := N) (F := F) (B := B) (w := 48 + v0) cs hst hI (by omega) (by omega) (h1 (by omega))) (no_1 (kLabel_0 (N := N) (by omega) (by omega) (by omega))) rfl hl rfl (Nat.le_of_ble_eq_true rfl) ⟨Nat.le_of_ble_eq_true rfl, Nat.le_of_ble_eq_true rfl⟩ ⟨show 0 + 3 ≤ 6 by omega, show 0 + 26 ≤ 52 by omega⟩ (fun H locs h => ?_)
    refine lv_bipush (v := nI (48)) X.1 X.2.1 dL_isNumber_12 (by decide) ?_
    refine lv_iload_n X.1 X.2.1 dL_isNumber_14 rfl (lv_at hl 3 rfl) ?_
    refine lv_iadd X.1 X.2.1 dL_isNumber_15 ?_
    refine lv_top (y := nI (48 + v0)) (nI_add _ _) ?_
    refine b_icmp_ne (tgt := 23) X dL_isNumber_16 (by decide) (a := ((48 + v0 : Nat) : Int)) (b := ((48 + v0 : Nat) : Int)) (nI_ti (by omega)) (nI_ti (by omega)) (fun c4 => ?_) (fun c4 => ?_)
    · skip
      exact absurd c4 (by first | decide | omega)
    · skip
      refine lv_iconst (v := nI (1)) X.1 X.2.1 dL_isNumber_19 (by decide) ?_
      refine lv_goto (tgt := 66) X.1 X.2.1 dL_isNumber_20 (by decide) ?_
      exact q_zret X hr hlocks h dL_isNumber_66 ⟨show 0 + 3 ≤ 6 by omega, show 0 + 26 ≤ 52 by omega⟩ (rfl) (⟨rfl, rfl, rfl⟩)
set_option maxHeartbeats 4000000 in
set_option maxRecDepth 100000 in
theorem c_L_isLabel (l : Launch) (G : mG) (x : Nat) (ar : Nat → Nat) (N : Nat → Nat) (F : Nat → Nat → Nat) (B : Nat → Int32) (k0 : Nat) (hst : l.stackTraces = false) (hI : Iv N F) (hk : k0 < N 13) : QMet l yL_isLabel cL_isLabel 8 (some FieldType.boolean) ({ frames := 9, cells := 60, slots := 500, locals := 151 } : Room) G x ar [.ref x, .ref (ar 3), .ref (ar 4), .int (nI (k0))] (N, F, B) (N, F, B) (fun r C' D' => r = some (.int (nI 1)) ∧ (N, F, B) = C' ∧ D' = (N, F, B)) := by
  refine QMet.of (by decide) (Nat.le_of_ble_eq_true rfl) ?_
  intro p e s m args below meth c A ls X hr hlocks hS hZ hN h hl
  have hl : lv_has ls 8 [(0, .ref x), (1, .ref (ar 3)), (2, .ref (ar 4)), (3, .int (nI (k0)))] := hl
  have hn := hI.n
  refine lv_aload_n X.1 X.2.1 dL_isLabel_0 rfl (lv_at hl 1 rfl) ?_
  refine lv_iload_n X.1 X.2.1 dL_isLabel_1 rfl (lv_at hl 3 rfl) ?_
  refine q_ald X h 3 (by decide) dL_isLabel_2 (i := k0) (v := nI (kvS F k0)) rfl (by show _ < 36; omega) (fun V r => LR.k3 r (by omega)) ?_
  have b1 := kv_b hI (show k0 < N 13 by omega)
  refine lv_bipush (v := nI (16)) X.1 X.2.1 dL_isLabel_3 (by decide) ?_
  refine lv_irem X.1 X.2.1 dL_isLabel_5 (by decide) ?_
  refine lv_top (y := nI (F 14 k0)) ((pk_rem (by omega) (by omega) (by omega)).trans (congrArg nI b1.2.1)) ?_
  refine lv_istore (lv' := [(4, .int (nI (F 14 k0))), (0, .ref x), (1, .ref (ar 3)), (2, .ref (ar 4)), (3, .int (nI (k0)))]) X.1 X.2.1 dL_isLabel_6 hl (by decide) rfl (fun ls hl => ?_)
  refine lv_aload_n X.1 X.2.1 dL_isLabel_8 rfl (lv_at hl 3 rfl) ?_
  refine lv_iload_n X.1 X.2.1 dL_isLabel_9 rfl (lv_at hl 4 rfl) ?_
  refine q_ald X h 4 (by decide) dL_isLabel_10 (i := k0) (v := nI (hvS F k0)) rfl (by show _ < 36; omega) (fun V r => LR.h4 r (by omega)) ?_
  have b2 := hv_b hI (show k0 < N 13 by omega)
  refine lv_bipush (v := nI (32)) X.1 X.2.1 dL_isLabel_11 (by decide) ?_
  refine lv_idiv X.1 X.2.1 dL_isLabel_13 (by decide) ?_
  refine lv_top (y := nI ((hvS F k0) / 32)) (pk_div (by omega) (by omega) (by omega)) ?_
  refine lv_bipush (v := nI (32)) X.1 X.2.1 dL_isLabel_14 (by decide) ?_
  refine lv_irem X.1 X.2.1 dL_isLabel_16 (by decide) ?_
  refine lv_top (y := nI (F 17 k0)) ((pk_rem (by omega) (by omega) (by omega)).trans (congrArg nI b2.2.2.1)) ?_
  refine lv_iconst (v := nI (1)) X.1 X.2.1 dL_isLabel_17 (by decide) ?_
  refine lv_isub X.1 X.2.1 dL_isLabel_18 ?_
  refine lv_top (y := nI (F 17 k0) - 1) rfl ?_
  refine lv_istore (lv' := [(5, .int (nI (F 17 k0) - 1)), (4, .int (nI (F 14 k0))), (0, .ref x), (1, .ref (ar 3)), (2, .ref (ar 4)), (3, .int (nI (k0)))]) X.1 X.2.1 dL_isLabel_19 hl (by decide) rfl (fun ls hl => ?_)
  refine lv_iload_n X.1 X.2.1 dL_isLabel_21 rfl (lv_at hl 5 rfl) ?_
  refine lv_bipush (v := nI (9)) X.1 X.2.1 dL_isLabel_22 (by decide) ?_
  refine b_icmp_le (tgt := 31) X dL_isLabel_24 (by decide) (a := ((k0 : Nat) : Int)) (b := ((9 : Nat) : Int)) (nI_ti (by omega)) (nI_ti (by omega)) (fun c3 => ?_) (fun c3 => ?_)
  · skip
    refine lv_iconst (v := nI (1)) X.1 X.2.1 dL_isLabel_31 (by decide) ?_
    refine lv_istore (lv' := [(6, .int (nI (1))), (5, .int (nI (F 17 k0) - 1)), (4, .int (nI (F 14 k0))), (0, .ref x), (1, .ref (ar 3)), (2, .ref (ar 4)), (3, .int (nI (k0)))]) X.1 X.2.1 dL_isLabel_32 hl (by decide) rfl (fun ls hl => ?_)
    have hl1 := lab_1 (F := F) (k := k0) (a1 := 1) (by omega) (by rw [if_neg (by omega)]) (by omega)
    refine lv_aload_n X.1 X.2.1 dL_isLabel_34 rfl (lv_at hl 3 rfl) ?_
    refine lv_iload_n X.1 X.2.1 dL_isLabel_35 rfl (lv_at hl 6 rfl) ?_
    refine lv_iconst (v := nI (0)) X.1 X.2.1 dL_isLabel_36 (by decide) ?_
    refine lv_iload_n X.1 X.2.1 dL_isLabel_37 rfl (lv_at hl 6 rfl) ?_
    refine q_call X hS hZ hN h ck_L_99 kst_L_isNumber dL_isLabel_38 (As := [.ref x, .int (nI (k0)), .int (nI (0)), .int (nI (k0))]) (c_L_isNumber l G x ar N F B k0 0 k0 hst hI (by omega) (by omega) (by omega) (hl1.1) (hl1.2.1)) rfl hl rfl (Nat.le_of_ble_eq_true rfl) ⟨Nat.le_of_ble_eq_true rfl, Nat.le_of_ble_eq_true rfl⟩ ⟨show 0 + 6 ≤ 60 by omega, show 0 + 52 ≤ 500 by omega⟩ ?_
    rintro _ _ _ H locs ⟨rfl, rfl, rfl⟩ h
    refine b_if_eq (tgt := 74) X dL_isLabel_41 (by decide) (a := ((1 : Nat) : Int)) (nI_ti (by omega)) (fun c4 => ?_) (fun c4 => ?_)
    · skip
      exact absurd c4 (by first | decide | omega)
    · skip
      refine lv_aload_n X.1 X.2.1 dL_isLabel_44 rfl (lv_at hl 3 rfl) ?_
      refine lv_iload_n X.1 X.2.1 dL_isLabel_45 rfl (lv_at hl 6 rfl) ?_
      refine lv_iload X.1 X.2.1 dL_isLabel_46 (lv_at hl 0 rfl) ?_
      refine q_callX (C1 := (N, F, B)) (v := nI (58)) X hS hZ h ck_L_58 ki_X6_label ks_X6_label dL_isLabel_48 (As := [.int (nI (k0)), .int (nI (1))]) (fun MC cs => x_label (N := N) (F := F) (B := B) (w := 58) cs hst hI (by omega) (by omega) (hl1.2.2.1)) (no_1 (kLabel_0 (N := N) (by omega) (by omega) (by omega))) rfl hl rfl (Nat.le_of_ble_eq_true rfl) ⟨Nat.le_of_ble_eq_true rfl, Nat.le_of_ble_eq_true rfl⟩ ⟨show 0 + 6 + 3 ≤ 60 by omega, show 0 + 52 + 26 ≤ 500 by omega⟩ (fun H locs h => ?_)
      refine lv_bipush (v := nI (58)) X.1 X.2.1 dL_isLabel_51 (by decide) ?_
      refine b_icmp_ne (tgt := 74) X dL_isLabel_53 (by decide) (a := ((58 : Nat) : Int)) (b := ((58 : Nat) : Int)) (nI_ti (by omega)) (nI_ti (by omega)) (fun c5 => ?_) (fun c5 => ?_)
      · skip
        exact absurd c5 (by first | decide | omega)
      · skip
        refine lv_aload_n X.1 X.2.1 dL_isLabel_56 rfl (lv_at hl 3 rfl) ?_
        refine lv_iload_n X.1 X.2.1 dL_isLabel_57 rfl (lv_at hl 6 rfl) ?_
        refine lv_iload X.1 X.2.1 dL_isLabel_58 (lv_at hl 0 rfl) ?_
        refine lv_iconst (v := nI (1)) X.1 X.2.1 dL_isLabel_60 (by decide) ?_
        refine lv_iadd X.1 X.2.1 dL_isLabel_61 ?_
        refine lv_top (y := nI (1 + 1)) (nI_add _ _) ?_
        refine lv_iload X.1 X.2.1 dL_isLabel_62 (lv_at hl 2 rfl) ?_
        refine q_call X hS hZ hN h ck_L_99 kst_L_isNumber dL_isLabel_64 (As := [.ref x, .int (nI (k0)), .int (nI (1 + 1)), .int (nI (F 14 k0))]) (c_L_isNumber l G x ar N F B k0 (1 + 1) (F 14 k0) hst hI (by omega) (by omega) (by omega) (hl1.2.2.2.1) (hl1.2.2.2.2)) rfl hl rfl (Nat.le_of_ble_eq_true rfl) ⟨Nat.le_of_ble_eq_true rfl, Nat.le_of_ble_eq_true rfl⟩ ⟨show 0 + 6 + 3 + 6 ≤ 60 by omega, show 0 + 52 + 26 + 52 ≤ 500 by omega⟩ ?_
        rintro _ _ _ H locs ⟨rfl, rfl, rfl⟩ h
        refine b_if_eq (tgt := 74) X dL_isLabel_67 (by decide) (a := ((1 : Nat) : Int)) (nI_ti (by omega)) (fun c6 => ?_) (fun c6 => ?_)
        · skip
          exact absurd c6 (by first | decide | omega)
        · skip
          refine lv_iconst (v := nI (1)) X.1 X.2.1 dL_isLabel_70 (by decide) ?_
          refine lv_goto (tgt := 75) X.1 X.2.1 dL_isLabel_71 (by decide) ?_
          refine lv_istore (lv' := [(7, .int (nI (1))), (6, .int (nI (1))), (5, .int (nI (F 17 k0) - 1)), (4, .int (nI (F 14 k0))), (0, .ref x), (1, .ref (ar 3)), (2, .ref (ar 4)), (3, .int (nI (k0)))]) X.1 X.2.1 dL_isLabel_75 hl (by decide) rfl (fun ls hl => ?_)
          refine lv_iload X.1 X.2.1 dL_isLabel_77 (lv_at hl 1 rfl) ?_
          refine lv_iload X.1 X.2.1 dL_isLabel_79 (lv_at hl 3 rfl) ?_
          refine lv_bipush (v := nI (9)) X.1 X.2.1 dL_isLabel_81 (by decide) ?_
          refine b_icmp_le (tgt := 90) X dL_isLabel_83 (by decide) (a := ((F 14 k0 : Nat) : Int)) (b := ((9 : Nat) : Int)) (nI_ti (by omega)) (nI_ti (by omega)) (fun c7 => ?_) (fun c7 => ?_)
          · skip
            refine lv_iconst (v := nI (2)) X.1 X.2.1 dL_isLabel_90 (by decide) ?_
            refine lv_iadd X.1 X.2.1 dL_isLabel_91 ?_
            refine lv_top (y := nI (1 + 2)) (nI_add _ _) ?_
            refine lv_istore (lv' := [(6, .int (nI (1 + 2))), (7, .int (nI (1))), (5, .int (nI (F 17 k0) - 1)), (4, .int (nI (F 14 k0))), (0, .ref x), (1, .ref (ar 3)), (2, .ref (ar 4)), (3, .int (nI (k0)))]) X.1 X.2.1 dL_isLabel_92 hl (by decide) rfl (fun ls hl => ?_)
            have hl2 := lab_2 (F := F) (k := k0) (a1 := 1) (a2 := 1 + 2) (by rw [if_neg (by omega)]) (by rw [if_neg (by omega)]) (by omega) (by omega)
            refine lv_iload X.1 X.2.1 dL_isLabel_94 (lv_at hl 1 rfl) ?_
            refine b_if_eq (tgt := 136) X dL_isLabel_96 (by decide) (a := ((1 : Nat) : Int)) (nI_ti (by omega)) (fun c8 => ?_) (fun c8 => ?_)
            · skip
              exact absurd c8 (by first | decide | omega)
            · skip
              refine lv_aload_n X.1 X.2.1 dL_isLabel_99 rfl (lv_at hl 4 rfl) ?_
              refine lv_iload_n X.1 X.2.1 dL_isLabel_100 rfl (lv_at hl 7 rfl) ?_
              refine lv_iload X.1 X.2.1 dL_isLabel_101 (lv_at hl 0 rfl) ?_
              refine q_callX (C1 := (N, F, B)) (v := nI (47)) X hS hZ h ck_L_58 ki_X6_label ks_X6_label dL_isLabel_103 (As := [.int (nI (k0)), .int (nI (1 + 2))]) (fun MC cs => x_label (N := N) (F := F) (B := B) (w := 47) cs hst hI (by omega) (by omega) (hl2.1)) (no_1 (kLabel_0 (N := N) (by omega) (by omega) (by omega))) rfl hl rfl (Nat.le_of_ble_eq_true rfl) ⟨Nat.le_of_ble_eq_true rfl, Nat.le_of_ble_eq_true rfl⟩ ⟨show 0 + 6 + 3 + 6 + 3 ≤ 60 by omega, show 0 + 52 + 26 + 52 + 26 ≤ 500 by omega⟩ (fun H locs h => ?_)
              refine lv_bipush (v := nI (47)) X.1 X.2.1 dL_isLabel_106 (by decide) ?_
              refine b_icmp_ne (tgt := 136) X dL_isLabel_108 (by decide) (a := ((47 : Nat) : Int)) (b := ((47 : Nat) : Int)) (nI_ti (by omega)) (nI_ti (by omega)) (fun c9 => ?_) (fun c9 => ?_)
              · skip
                exact absurd c9 (by first | decide | omega)
              · skip
                refine lv_aload_n X.1 X.2.1 dL_isLabel_111 rfl (lv_at hl 4 rfl) ?_
                refine lv_iload_n X.1 X.2.1 dL_isLabel_112 rfl (lv_at hl 7 rfl) ?_
                refine lv_iload X.1 X.2.1 dL_isLabel_113 (lv_at hl 0 rfl) ?_
                refine lv_iconst (v := nI (1)) X.1 X.2.1 dL_isLabel_115 (by decide) ?_
                refine lv_iadd X.1 X.2.1 dL_isLabel_116 ?_
                refine lv_top (y := nI (1 + 2 + 1)) (nI_add _ _) ?_
                refine q_callX (C1 := (N, F, B)) (v := nI (48 + (F 15 k0))) X hS hZ h ck_L_58 ki_X6_label ks_X6_label dL_isLabel_117 (As := [.int (nI (k0)), .int (nI (1 + 2 + 1))]) (fun MC cs => x_label (N := N) (F := F) (B := B) (w := 48 + (F 15 k0)) cs hst hI (by omega) (by omega) (hl2.2.1)) (no_1 (kLabel_0 (N := N) (by omega) (by omega) (by omega))) rfl hl rfl (Nat.le_of_ble_eq_true rfl) ⟨Nat.le_of_ble_eq_true rfl, Nat.le_of_ble_eq_true rfl⟩ ⟨show 0 + 6 + 3 + 6 + 3 + 3 ≤ 60 by omega, show 0 + 52 + 26 + 52 + 26 + 26 ≤ 500 by omega⟩ (fun H locs h => ?_)
                refine lv_bipush (v := nI (48)) X.1 X.2.1 dL_isLabel_120 (by decide) ?_
                refine lv_aload_n X.1 X.2.1 dL_isLabel_122 rfl (lv_at hl 5 rfl) ?_
                refine lv_iload_n X.1 X.2.1 dL_isLabel_123 rfl (lv_at hl 7 rfl) ?_
                refine q_ald X h 3 (by decide) dL_isLabel_124 (i := k0) (v := nI (kvS F k0)) rfl (by show _ < 36; omega) (fun V r => LR.k3 r (by omega)) ?_
                have b10 := kv_b hI (show k0 < N 13 by omega)
                refine lv_bipush (v := nI (16)) X.1 X.2.1 dL_isLabel_125 (by decide) ?_
                refine lv_idiv X.1 X.2.1 dL_isLabel_127 (by decide) ?_
                refine lv_top (y := nI (F 15 k0)) ((pk_div (by omega) (by omega) (by omega)).trans (congrArg nI b10.2.2.1)) ?_
                refine lv_iadd X.1 X.2.1 dL_isLabel_128 ?_
                refine lv_top (y := nI (48 + (F 15 k0))) (nI_add _ _) ?_
                refine b_icmp_ne (tgt := 136) X dL_isLabel_129 (by decide) (a := ((48 + (F 15 k0) : Nat) : Int)) (b := ((48 + (F 15 k0) : Nat) : Int)) (nI_ti (by omega)) (nI_ti (by omega)) (fun c11 => ?_) (fun c11 => ?_)
                · skip
                  exact absurd c11 (by first | decide | omega)
                · skip
                  refine lv_iconst (v := nI (1)) X.1 X.2.1 dL_isLabel_132 (by decide) ?_
                  refine lv_goto (tgt := 137) X.1 X.2.1 dL_isLabel_133 (by decide) ?_
                  refine lv_istore (lv' := [(7, .int (nI (1))), (6, .int (nI (1 + 2))), (5, .int (nI (F 17 k0) - 1)), (4, .int (nI (F 14 k0))), (0, .ref x), (1, .ref (ar 3)), (2, .ref (ar 4)), (3, .int (nI (k0)))]) X.1 X.2.1 dL_isLabel_137 hl (by decide) rfl (fun ls hl => ?_)
                  refine lv_iload X.1 X.2.1 dL_isLabel_139 (lv_at hl 2 rfl) ?_
                  refine b_if_ge (tgt := 167) X dL_isLabel_141 (by decide) (a := ((F 17 k0 : Nat) : Int) - 1) (eI_ti (by omega)) (fun c12 => ?_) (fun c12 => ?_)
                  · skip
                    refine lv_iload X.1 X.2.1 dL_isLabel_167 (lv_at hl 0 rfl) ?_
                    refine b_if_eq (tgt := 227) X dL_isLabel_169 (by decide) (a := ((1 : Nat) : Int)) (nI_ti (by omega)) (fun c13 => ?_) (fun c13 => ?_)
                    · skip
                      exact absurd c13 (by first | decide | omega)
                    · skip
                      refine lv_aload_n X.1 X.2.1 dL_isLabel_172 rfl (lv_at hl 4 rfl) ?_
                      refine lv_iload_n X.1 X.2.1 dL_isLabel_173 rfl (lv_at hl 7 rfl) ?_
                      refine lv_iload X.1 X.2.1 dL_isLabel_174 (lv_at hl 1 rfl) ?_
                      refine lv_iconst (v := nI (2)) X.1 X.2.1 dL_isLabel_176 (by decide) ?_
                      refine lv_iadd X.1 X.2.1 dL_isLabel_177 ?_
                      refine lv_top (y := nI (1 + 2 + 2)) (nI_add _ _) ?_
                      refine q_callX (C1 := (N, F, B)) (v := nI (64)) X hS hZ h ck_L_58 ki_X6_label ks_X6_label dL_isLabel_178 (As := [.int (nI (k0)), .int (nI (1 + 2 + 2))]) (fun MC cs => x_label (N := N) (F := F) (B := B) (w := 64) cs hst hI (by omega) (by omega) ((hl2.2.2.2 (by omega)).1)) (no_1 (kLabel_0 (N := N) (by omega) (by omega) (by omega))) rfl hl rfl (Nat.le_of_ble_eq_true rfl) ⟨Nat.le_of_ble_eq_true rfl, Nat.le_of_ble_eq_true rfl⟩ ⟨show 0 + 6 + 3 + 6 + 3 + 3 + 3 ≤ 60 by omega, show 0 + 52 + 26 + 52 + 26 + 26 + 26 ≤ 500 by omega⟩ (fun H locs h => ?_)
                      refine lv_bipush (v := nI (64)) X.1 X.2.1 dL_isLabel_181 (by decide) ?_
                      refine b_icmp_ne (tgt := 227) X dL_isLabel_183 (by decide) (a := ((64 : Nat) : Int)) (b := ((64 : Nat) : Int)) (nI_ti (by omega)) (nI_ti (by omega)) (fun c14 => ?_) (fun c14 => ?_)
                      · skip
                        exact absurd c14 (by first | decide | omega)
                      · skip
                        refine lv_aload_n X.1 X.2.1 dL_isLabel_186 rfl (lv_at hl 4 rfl) ?_
                        refine lv_iload_n X.1 X.2.1 dL_isLabel_187 rfl (lv_at hl 7 rfl) ?_
                        refine lv_iload X.1 X.2.1 dL_isLabel_188 (lv_at hl 1 rfl) ?_
                        refine lv_iconst (v := nI (3)) X.1 X.2.1 dL_isLabel_190 (by decide) ?_
                        refine lv_iadd X.1 X.2.1 dL_isLabel_191 ?_
                        refine lv_top (y := nI (1 + 2 + 3)) (nI_add _ _) ?_
                        refine lv_iload X.1 X.2.1 dL_isLabel_192 (lv_at hl 2 rfl) ?_
                        refine lv_top (y := nI (F 17 k0 - 1)) (eI_pos (by omega)) ?_
                        refine q_call X hS hZ hN h ck_L_99 kst_L_isNumber dL_isLabel_194 (As := [.ref x, .int (nI (k0)), .int (nI (1 + 2 + 3)), .int (nI (F 17 k0 - 1))]) (c_L_isNumber l G x ar N F B k0 (1 + 2 + 3) (F 17 k0 - 1) hst hI (by omega) (by omega) (by omega) (fun z => ((hl2.2.2.2 (by omega)).2.1 z).1) (fun z => ⟨((hl2.2.2.2 (by omega)).2.2 z).1, ((hl2.2.2.2 (by omega)).2.2 z).2.1⟩)) rfl hl rfl (Nat.le_of_ble_eq_true rfl) ⟨Nat.le_of_ble_eq_true rfl, Nat.le_of_ble_eq_true rfl⟩ ⟨show 0 + 6 + 3 + 6 + 3 + 3 + 3 + 6 ≤ 60 by omega, show 0 + 52 + 26 + 52 + 26 + 26 + 26 + 52 ≤ 500 by omega⟩ ?_
                        rintro _ _ _ H locs ⟨rfl, rfl, rfl⟩ h
                        refine b_if_eq (tgt := 227) X dL_isLabel_197 (by decide) (a := ((1 : Nat) : Int)) (nI_ti (by omega)) (fun c15 => ?_) (fun c15 => ?_)
                        · skip
                          exact absurd c15 (by first | decide | omega)
                        · skip
                          refine lv_aload_n X.1 X.2.1 dL_isLabel_200 rfl (lv_at hl 4 rfl) ?_
                          refine lv_iload_n X.1 X.2.1 dL_isLabel_201 rfl (lv_at hl 7 rfl) ?_
                          refine lv_iload X.1 X.2.1 dL_isLabel_202 (lv_at hl 1 rfl) ?_
                          refine lv_iload X.1 X.2.1 dL_isLabel_204 (lv_at hl 2 rfl) ?_
                          refine lv_bipush (v := nI (9)) X.1 X.2.1 dL_isLabel_206 (by decide) ?_
                          refine b_icmp_le (tgt := 215) X dL_isLabel_208 (by decide) (a := ((F 17 k0 : Nat) : Int) - 1) (b := ((9 : Nat) : Int)) (eI_ti (by omega)) (nI_ti (by omega)) (fun c16 => ?_) (fun c16 => ?_)
                          · skip
                            refine lv_iconst (v := nI (4)) X.1 X.2.1 dL_isLabel_215 (by decide) ?_
                            refine lv_iadd X.1 X.2.1 dL_isLabel_216 ?_
                            refine lv_top (y := nI (1 + 2 + 4)) (nI_add _ _) ?_
                            refine q_callX (C1 := (N, F, B)) (v := nI (0)) X hS hZ h ck_L_58 ki_X6_label ks_X6_label dL_isLabel_217 (As := [.int (nI (k0)), .int (nI (1 + 2 + 4))]) (fun MC cs => x_label (N := N) (F := F) (B := B) (w := 0) cs hst hI (by omega) (by omega) (((hl2.2.2.2 (by omega)).2.1 (by omega)).2)) (no_1 (kLabel_0 (N := N) (by omega) (by omega) (by omega))) rfl hl rfl (Nat.le_of_ble_eq_true rfl) ⟨Nat.le_of_ble_eq_true rfl, Nat.le_of_ble_eq_true rfl⟩ ⟨show 0 + 6 + 3 + 6 + 3 + 3 + 3 + 6 + 3 ≤ 60 by omega, show 0 + 52 + 26 + 52 + 26 + 26 + 26 + 52 + 26 ≤ 500 by omega⟩ (fun H locs h => ?_)
                            refine b_if_ne (tgt := 227) X dL_isLabel_220 (by decide) (a := ((0 : Nat) : Int)) (nI_ti (by omega)) (fun c17 => ?_) (fun c17 => ?_)
                            · skip
                              exact absurd c17 (by first | decide | omega)
                            · skip
                              refine lv_iconst (v := nI (1)) X.1 X.2.1 dL_isLabel_223 (by decide) ?_
                              refine lv_goto (tgt := 228) X.1 X.2.1 dL_isLabel_224 (by decide) ?_
                              exact q_zret X hr hlocks h dL_isLabel_228 ⟨show 0 + 6 + 3 + 6 + 3 + 3 + 3 + 6 + 3 ≤ 60 by omega, show 0 + 52 + 26 + 52 + 26 + 26 + 26 + 52 + 26 ≤ 500 by omega⟩ (rfl) (⟨rfl, rfl, rfl⟩)
                          · skip
                            refine lv_iconst (v := nI (5)) X.1 X.2.1 dL_isLabel_211 (by decide) ?_
                            refine lv_goto (tgt := 216) X.1 X.2.1 dL_isLabel_212 (by decide) ?_
                            refine lv_iadd X.1 X.2.1 dL_isLabel_216 ?_
                            refine lv_top (y := nI (1 + 2 + 5)) (nI_add _ _) ?_
                            refine q_callX (C1 := (N, F, B)) (v := nI (0)) X hS hZ h ck_L_58 ki_X6_label ks_X6_label dL_isLabel_217 (As := [.int (nI (k0)), .int (nI (1 + 2 + 5))]) (fun MC cs => x_label (N := N) (F := F) (B := B) (w := 0) cs hst hI (by omega) (by omega) (((hl2.2.2.2 (by omega)).2.2 (by omega)).2.2)) (no_1 (kLabel_0 (N := N) (by omega) (by omega) (by omega))) rfl hl rfl (Nat.le_of_ble_eq_true rfl) ⟨Nat.le_of_ble_eq_true rfl, Nat.le_of_ble_eq_true rfl⟩ ⟨show 0 + 6 + 3 + 6 + 3 + 3 + 3 + 6 + 3 ≤ 60 by omega, show 0 + 52 + 26 + 52 + 26 + 26 + 26 + 52 + 26 ≤ 500 by omega⟩ (fun H locs h => ?_)
                            refine b_if_ne (tgt := 227) X dL_isLabel_220 (by decide) (a := ((0 : Nat) : Int)) (nI_ti (by omega)) (fun c18 => ?_) (fun c18 => ?_)
                            · skip
                              exact absurd c18 (by first | decide | omega)
                            · skip
                              refine lv_iconst (v := nI (1)) X.1 X.2.1 dL_isLabel_223 (by decide) ?_
                              refine lv_goto (tgt := 228) X.1 X.2.1 dL_isLabel_224 (by decide) ?_
                              exact q_zret X hr hlocks h dL_isLabel_228 ⟨show 0 + 6 + 3 + 6 + 3 + 3 + 3 + 6 + 3 ≤ 60 by omega, show 0 + 52 + 26 + 52 + 26 + 26 + 26 + 52 + 26 ≤ 500 by omega⟩ (rfl) (⟨rfl, rfl, rfl⟩)
                  · skip
                    refine lv_iload X.1 X.2.1 dL_isLabel_144 (lv_at hl 0 rfl) ?_
                    refine b_if_eq (tgt := 165) X dL_isLabel_146 (by decide) (a := ((1 : Nat) : Int)) (nI_ti (by omega)) (fun c19 => ?_) (fun c19 => ?_)
                    · skip
                      exact absurd c19 (by first | decide | omega)
                    · skip
                      refine lv_aload_n X.1 X.2.1 dL_isLabel_149 rfl (lv_at hl 4 rfl) ?_
                      refine lv_iload_n X.1 X.2.1 dL_isLabel_150 rfl (lv_at hl 7 rfl) ?_
                      refine lv_iload X.1 X.2.1 dL_isLabel_151 (lv_at hl 1 rfl) ?_
                      refine lv_iconst (v := nI (2)) X.1 X.2.1 dL_isLabel_153 (by decide) ?_
                      refine lv_iadd X.1 X.2.1 dL_isLabel_154 ?_
                      refine lv_top (y := nI (1 + 2 + 2)) (nI_add _ _) ?_
                      refine q_callX (C1 := (N, F, B)) (v := nI (0)) X hS hZ h ck_L_58 ki_X6_label ks_X6_label dL_isLabel_155 (As := [.int (nI (k0)), .int (nI (1 + 2 + 2))]) (fun MC cs => x_label (N := N) (F := F) (B := B) (w := 0) cs hst hI (by omega) (by omega) (hl2.2.2.1 (by omega))) (no_1 (kLabel_0 (N := N) (by omega) (by omega) (by omega))) rfl hl rfl (Nat.le_of_ble_eq_true rfl) ⟨Nat.le_of_ble_eq_true rfl, Nat.le_of_ble_eq_true rfl⟩ ⟨show 0 + 6 + 3 + 6 + 3 + 3 + 3 ≤ 60 by omega, show 0 + 52 + 26 + 52 + 26 + 26 + 26 ≤ 500 by omega⟩ (fun H locs h => ?_)
                      refine b_if_ne (tgt := 165) X dL_isLabel_158 (by decide) (a := ((0 : Nat) : Int)) (nI_ti (by omega)) (fun c20 => ?_) (fun c20 => ?_)
                      · skip
                        exact absurd c20 (by first | decide | omega)
                      · skip
                        refine lv_iconst (v := nI (1)) X.1 X.2.1 dL_isLabel_161 (by decide) ?_
                        refine lv_goto (tgt := 166) X.1 X.2.1 dL_isLabel_162 (by decide) ?_
                        exact q_zret X hr hlocks h dL_isLabel_166 ⟨show 0 + 6 + 3 + 6 + 3 + 3 + 3 ≤ 60 by omega, show 0 + 52 + 26 + 52 + 26 + 26 + 26 ≤ 500 by omega⟩ (rfl) (⟨rfl, rfl, rfl⟩)
          · skip
            refine lv_iconst (v := nI (3)) X.1 X.2.1 dL_isLabel_86 (by decide) ?_
            refine lv_goto (tgt := 91) X.1 X.2.1 dL_isLabel_87 (by decide) ?_
            refine lv_iadd X.1 X.2.1 dL_isLabel_91 ?_
            refine lv_top (y := nI (1 + 3)) (nI_add _ _) ?_
            refine lv_istore (lv' := [(6, .int (nI (1 + 3))), (7, .int (nI (1))), (5, .int (nI (F 17 k0) - 1)), (4, .int (nI (F 14 k0))), (0, .ref x), (1, .ref (ar 3)), (2, .ref (ar 4)), (3, .int (nI (k0)))]) X.1 X.2.1 dL_isLabel_92 hl (by decide) rfl (fun ls hl => ?_)
            have hl2 := lab_2 (F := F) (k := k0) (a1 := 1) (a2 := 1 + 3) (by rw [if_neg (by omega)]) (by rw [if_pos (by omega)]) (by omega) (by omega)
            refine lv_iload X.1 X.2.1 dL_isLabel_94 (lv_at hl 1 rfl) ?_
            refine b_if_eq (tgt := 136) X dL_isLabel_96 (by decide) (a := ((1 : Nat) : Int)) (nI_ti (by omega)) (fun c21 => ?_) (fun c21 => ?_)
            · skip
              exact absurd c21 (by first | decide | omega)
            · skip
              refine lv_aload_n X.1 X.2.1 dL_isLabel_99 rfl (lv_at hl 4 rfl) ?_
              refine lv_iload_n X.1 X.2.1 dL_isLabel_100 rfl (lv_at hl 7 rfl) ?_
              refine lv_iload X.1 X.2.1 dL_isLabel_101 (lv_at hl 0 rfl) ?_
              refine q_callX (C1 := (N, F, B)) (v := nI (47)) X hS hZ h ck_L_58 ki_X6_label ks_X6_label dL_isLabel_103 (As := [.int (nI (k0)), .int (nI (1 + 3))]) (fun MC cs => x_label (N := N) (F := F) (B := B) (w := 47) cs hst hI (by omega) (by omega) (hl2.1)) (no_1 (kLabel_0 (N := N) (by omega) (by omega) (by omega))) rfl hl rfl (Nat.le_of_ble_eq_true rfl) ⟨Nat.le_of_ble_eq_true rfl, Nat.le_of_ble_eq_true rfl⟩ ⟨show 0 + 6 + 3 + 6 + 3 ≤ 60 by omega, show 0 + 52 + 26 + 52 + 26 ≤ 500 by omega⟩ (fun H locs h => ?_)
              refine lv_bipush (v := nI (47)) X.1 X.2.1 dL_isLabel_106 (by decide) ?_
              refine b_icmp_ne (tgt := 136) X dL_isLabel_108 (by decide) (a := ((47 : Nat) : Int)) (b := ((47 : Nat) : Int)) (nI_ti (by omega)) (nI_ti (by omega)) (fun c22 => ?_) (fun c22 => ?_)
              · skip
                exact absurd c22 (by first | decide | omega)
              · skip
                refine lv_aload_n X.1 X.2.1 dL_isLabel_111 rfl (lv_at hl 4 rfl) ?_
                refine lv_iload_n X.1 X.2.1 dL_isLabel_112 rfl (lv_at hl 7 rfl) ?_
                refine lv_iload X.1 X.2.1 dL_isLabel_113 (lv_at hl 0 rfl) ?_
                refine lv_iconst (v := nI (1)) X.1 X.2.1 dL_isLabel_115 (by decide) ?_
                refine lv_iadd X.1 X.2.1 dL_isLabel_116 ?_
                refine lv_top (y := nI (1 + 3 + 1)) (nI_add _ _) ?_
                refine q_callX (C1 := (N, F, B)) (v := nI (48 + (F 15 k0))) X hS hZ h ck_L_58 ki_X6_label ks_X6_label dL_isLabel_117 (As := [.int (nI (k0)), .int (nI (1 + 3 + 1))]) (fun MC cs => x_label (N := N) (F := F) (B := B) (w := 48 + (F 15 k0)) cs hst hI (by omega) (by omega) (hl2.2.1)) (no_1 (kLabel_0 (N := N) (by omega) (by omega) (by omega))) rfl hl rfl (Nat.le_of_ble_eq_true rfl) ⟨Nat.le_of_ble_eq_true rfl, Nat.le_of_ble_eq_true rfl⟩ ⟨show 0 + 6 + 3 + 6 + 3 + 3 ≤ 60 by omega, show 0 + 52 + 26 + 52 + 26 + 26 ≤ 500 by omega⟩ (fun H locs h => ?_)
                refine lv_bipush (v := nI (48)) X.1 X.2.1 dL_isLabel_120 (by decide) ?_
                refine lv_aload_n X.1 X.2.1 dL_isLabel_122 rfl (lv_at hl 5 rfl) ?_
                refine lv_iload_n X.1 X.2.1 dL_isLabel_123 rfl (lv_at hl 7 rfl) ?_
                refine q_ald X h 3 (by decide) dL_isLabel_124 (i := k0) (v := nI (kvS F k0)) rfl (by show _ < 36; omega) (fun V r => LR.k3 r (by omega)) ?_
                have b23 := kv_b hI (show k0 < N 13 by omega)
                refine lv_bipush (v := nI (16)) X.1 X.2.1 dL_isLabel_125 (by decide) ?_
                refine lv_idiv X.1 X.2.1 dL_isLabel_127 (by decide) ?_
                refine lv_top (y := nI (F 15 k0)) ((pk_div (by omega) (by omega) (by omega)).trans (congrArg nI b23.2.2.1)) ?_
                refine lv_iadd X.1 X.2.1 dL_isLabel_128 ?_
                refine lv_top (y := nI (48 + (F 15 k0))) (nI_add _ _) ?_
                refine b_icmp_ne (tgt := 136) X dL_isLabel_129 (by decide) (a := ((48 + (F 15 k0) : Nat) : Int)) (b := ((48 + (F 15 k0) : Nat) : Int)) (nI_ti (by omega)) (nI_ti (by omega)) (fun c24 => ?_) (fun c24 => ?_)
                · skip
                  exact absurd c24 (by first | decide | omega)
                · skip
                  refine lv_iconst (v := nI (1)) X.1 X.2.1 dL_isLabel_132 (by decide) ?_
                  refine lv_goto (tgt := 137) X.1 X.2.1 dL_isLabel_133 (by decide) ?_
                  refine lv_istore (lv' := [(7, .int (nI (1))), (6, .int (nI (1 + 3))), (5, .int (nI (F 17 k0) - 1)), (4, .int (nI (F 14 k0))), (0, .ref x), (1, .ref (ar 3)), (2, .ref (ar 4)), (3, .int (nI (k0)))]) X.1 X.2.1 dL_isLabel_137 hl (by decide) rfl (fun ls hl => ?_)
                  refine lv_iload X.1 X.2.1 dL_isLabel_139 (lv_at hl 2 rfl) ?_
                  refine b_if_ge (tgt := 167) X dL_isLabel_141 (by decide) (a := ((F 17 k0 : Nat) : Int) - 1) (eI_ti (by omega)) (fun c25 => ?_) (fun c25 => ?_)
                  · skip
                    refine lv_iload X.1 X.2.1 dL_isLabel_167 (lv_at hl 0 rfl) ?_
                    refine b_if_eq (tgt := 227) X dL_isLabel_169 (by decide) (a := ((1 : Nat) : Int)) (nI_ti (by omega)) (fun c26 => ?_) (fun c26 => ?_)
                    · skip
                      exact absurd c26 (by first | decide | omega)
                    · skip
                      refine lv_aload_n X.1 X.2.1 dL_isLabel_172 rfl (lv_at hl 4 rfl) ?_
                      refine lv_iload_n X.1 X.2.1 dL_isLabel_173 rfl (lv_at hl 7 rfl) ?_
                      refine lv_iload X.1 X.2.1 dL_isLabel_174 (lv_at hl 1 rfl) ?_
                      refine lv_iconst (v := nI (2)) X.1 X.2.1 dL_isLabel_176 (by decide) ?_
                      refine lv_iadd X.1 X.2.1 dL_isLabel_177 ?_
                      refine lv_top (y := nI (1 + 3 + 2)) (nI_add _ _) ?_
                      refine q_callX (C1 := (N, F, B)) (v := nI (64)) X hS hZ h ck_L_58 ki_X6_label ks_X6_label dL_isLabel_178 (As := [.int (nI (k0)), .int (nI (1 + 3 + 2))]) (fun MC cs => x_label (N := N) (F := F) (B := B) (w := 64) cs hst hI (by omega) (by omega) ((hl2.2.2.2 (by omega)).1)) (no_1 (kLabel_0 (N := N) (by omega) (by omega) (by omega))) rfl hl rfl (Nat.le_of_ble_eq_true rfl) ⟨Nat.le_of_ble_eq_true rfl, Nat.le_of_ble_eq_true rfl⟩ ⟨show 0 + 6 + 3 + 6 + 3 + 3 + 3 ≤ 60 by omega, show 0 + 52 + 26 + 52 + 26 + 26 + 26 ≤ 500 by omega⟩ (fun H locs h => ?_)
                      refine lv_bipush (v := nI (64)) X.1 X.2.1 dL_isLabel_181 (by decide) ?_
                      refine b_icmp_ne (tgt := 227) X dL_isLabel_183 (by decide) (a := ((64 : Nat) : Int)) (b := ((64 : Nat) : Int)) (nI_ti (by omega)) (nI_ti (by omega)) (fun c27 => ?_) (fun c27 => ?_)
                      · skip
                        exact absurd c27 (by first | decide | omega)
                      · skip
                        refine lv_aload_n X.1 X.2.1 dL_isLabel_186 rfl (lv_at hl 4 rfl) ?_
                        refine lv_iload_n X.1 X.2.1 dL_isLabel_187 rfl (lv_at hl 7 rfl) ?_
                        refine lv_iload X.1 X.2.1 dL_isLabel_188 (lv_at hl 1 rfl) ?_
                        refine lv_iconst (v := nI (3)) X.1 X.2.1 dL_isLabel_190 (by decide) ?_
                        refine lv_iadd X.1 X.2.1 dL_isLabel_191 ?_
                        refine lv_top (y := nI (1 + 3 + 3)) (nI_add _ _) ?_
                        refine lv_iload X.1 X.2.1 dL_isLabel_192 (lv_at hl 2 rfl) ?_
                        refine lv_top (y := nI (F 17 k0 - 1)) (eI_pos (by omega)) ?_
                        refine q_call X hS hZ hN h ck_L_99 kst_L_isNumber dL_isLabel_194 (As := [.ref x, .int (nI (k0)), .int (nI (1 + 3 + 3)), .int (nI (F 17 k0 - 1))]) (c_L_isNumber l G x ar N F B k0 (1 + 3 + 3) (F 17 k0 - 1) hst hI (by omega) (by omega) (by omega) (fun z => ((hl2.2.2.2 (by omega)).2.1 z).1) (fun z => ⟨((hl2.2.2.2 (by omega)).2.2 z).1, ((hl2.2.2.2 (by omega)).2.2 z).2.1⟩)) rfl hl rfl (Nat.le_of_ble_eq_true rfl) ⟨Nat.le_of_ble_eq_true rfl, Nat.le_of_ble_eq_true rfl⟩ ⟨show 0 + 6 + 3 + 6 + 3 + 3 + 3 + 6 ≤ 60 by omega, show 0 + 52 + 26 + 52 + 26 + 26 + 26 + 52 ≤ 500 by omega⟩ ?_
                        rintro _ _ _ H locs ⟨rfl, rfl, rfl⟩ h
                        refine b_if_eq (tgt := 227) X dL_isLabel_197 (by decide) (a := ((1 : Nat) : Int)) (nI_ti (by omega)) (fun c28 => ?_) (fun c28 => ?_)
                        · skip
                          exact absurd c28 (by first | decide | omega)
                        · skip
                          refine lv_aload_n X.1 X.2.1 dL_isLabel_200 rfl (lv_at hl 4 rfl) ?_
                          refine lv_iload_n X.1 X.2.1 dL_isLabel_201 rfl (lv_at hl 7 rfl) ?_
                          refine lv_iload X.1 X.2.1 dL_isLabel_202 (lv_at hl 1 rfl) ?_
                          refine lv_iload X.1 X.2.1 dL_isLabel_204 (lv_at hl 2 rfl) ?_
                          refine lv_bipush (v := nI (9)) X.1 X.2.1 dL_isLabel_206 (by decide) ?_
                          refine b_icmp_le (tgt := 215) X dL_isLabel_208 (by decide) (a := ((F 17 k0 : Nat) : Int) - 1) (b := ((9 : Nat) : Int)) (eI_ti (by omega)) (nI_ti (by omega)) (fun c29 => ?_) (fun c29 => ?_)
                          · skip
                            refine lv_iconst (v := nI (4)) X.1 X.2.1 dL_isLabel_215 (by decide) ?_
                            refine lv_iadd X.1 X.2.1 dL_isLabel_216 ?_
                            refine lv_top (y := nI (1 + 3 + 4)) (nI_add _ _) ?_
                            refine q_callX (C1 := (N, F, B)) (v := nI (0)) X hS hZ h ck_L_58 ki_X6_label ks_X6_label dL_isLabel_217 (As := [.int (nI (k0)), .int (nI (1 + 3 + 4))]) (fun MC cs => x_label (N := N) (F := F) (B := B) (w := 0) cs hst hI (by omega) (by omega) (((hl2.2.2.2 (by omega)).2.1 (by omega)).2)) (no_1 (kLabel_0 (N := N) (by omega) (by omega) (by omega))) rfl hl rfl (Nat.le_of_ble_eq_true rfl) ⟨Nat.le_of_ble_eq_true rfl, Nat.le_of_ble_eq_true rfl⟩ ⟨show 0 + 6 + 3 + 6 + 3 + 3 + 3 + 6 + 3 ≤ 60 by omega, show 0 + 52 + 26 + 52 + 26 + 26 + 26 + 52 + 26 ≤ 500 by omega⟩ (fun H locs h => ?_)
                            refine b_if_ne (tgt := 227) X dL_isLabel_220 (by decide) (a := ((0 : Nat) : Int)) (nI_ti (by omega)) (fun c30 => ?_) (fun c30 => ?_)
                            · skip
                              exact absurd c30 (by first | decide | omega)
                            · skip
                              refine lv_iconst (v := nI (1)) X.1 X.2.1 dL_isLabel_223 (by decide) ?_
                              refine lv_goto (tgt := 228) X.1 X.2.1 dL_isLabel_224 (by decide) ?_
                              exact q_zret X hr hlocks h dL_isLabel_228 ⟨show 0 + 6 + 3 + 6 + 3 + 3 + 3 + 6 + 3 ≤ 60 by omega, show 0 + 52 + 26 + 52 + 26 + 26 + 26 + 52 + 26 ≤ 500 by omega⟩ (rfl) (⟨rfl, rfl, rfl⟩)
                          · skip
                            refine lv_iconst (v := nI (5)) X.1 X.2.1 dL_isLabel_211 (by decide) ?_
                            refine lv_goto (tgt := 216) X.1 X.2.1 dL_isLabel_212 (by decide) ?_
                            refine lv_iadd X.1 X.2.1 dL_isLabel_216 ?_
                            refine lv_top (y := nI (1 + 3 + 5)) (nI_add _ _) ?_
                            refine q_callX (C1 := (N, F, B)) (v := nI (0)) X hS hZ h ck_L_58 ki_X6_label ks_X6_label dL_isLabel_217 (As := [.int (nI (k0)), .int (nI (1 + 3 + 5))]) (fun MC cs => x_label (N := N) (F := F) (B := B) (w := 0) cs hst hI (by omega) (by omega) (((hl2.2.2.2 (by omega)).2.2 (by omega)).2.2)) (no_1 (kLabel_0 (N := N) (by omega) (by omega) (by omega))) rfl hl rfl (Nat.le_of_ble_eq_true rfl) ⟨Nat.le_of_ble_eq_true rfl, Nat.le_of_ble_eq_true rfl⟩ ⟨show 0 + 6 + 3 + 6 + 3 + 3 + 3 + 6 + 3 ≤ 60 by omega, show 0 + 52 + 26 + 52 + 26 + 26 + 26 + 52 + 26 ≤ 500 by omega⟩ (fun H locs h => ?_)
                            refine b_if_ne (tgt := 227) X dL_isLabel_220 (by decide) (a := ((0 : Nat) : Int)) (nI_ti (by omega)) (fun c31 => ?_) (fun c31 => ?_)
                            · skip
                              exact absurd c31 (by first | decide | omega)
                            · skip
                              refine lv_iconst (v := nI (1)) X.1 X.2.1 dL_isLabel_223 (by decide) ?_
                              refine lv_goto (tgt := 228) X.1 X.2.1 dL_isLabel_224 (by decide) ?_
                              exact q_zret X hr hlocks h dL_isLabel_228 ⟨show 0 + 6 + 3 + 6 + 3 + 3 + 3 + 6 + 3 ≤ 60 by omega, show 0 + 52 + 26 + 52 + 26 + 26 + 26 + 52 + 26 ≤ 500 by omega⟩ (rfl) (⟨rfl, rfl, rfl⟩)
                  · skip
                    refine lv_iload X.1 X.2.1 dL_isLabel_144 (lv_at hl 0 rfl) ?_
                    refine b_if_eq (tgt := 165) X dL_isLabel_146 (by decide) (a := ((1 : Nat) : Int)) (nI_ti (by omega)) (fun c32 => ?_) (fun c32 => ?_)
                    · skip
                      exact absurd c32 (by first | decide | omega)
                    · skip
                      refine lv_aload_n X.1 X.2.1 dL_isLabel_149 rfl (lv_at hl 4 rfl) ?_
                      refine lv_iload_n X.1 X.2.1 dL_isLabel_150 rfl (lv_at hl 7 rfl) ?_
                      refine lv_iload X.1 X.2.1 dL_isLabel_151 (lv_at hl 1 rfl) ?_
                      refine lv_iconst (v := nI (2)) X.1 X.2.1 dL_isLabel_153 (by decide) ?_
                      refine lv_iadd X.1 X.2.1 dL_isLabel_154 ?_
                      refine lv_top (y := nI (1 + 3 + 2)) (nI_add _ _) ?_
                      refine q_callX (C1 := (N, F, B)) (v := nI (0)) X hS hZ h ck_L_58 ki_X6_label ks_X6_label dL_isLabel_155 (As := [.int (nI (k0)), .int (nI (1 + 3 + 2))]) (fun MC cs => x_label (N := N) (F := F) (B := B) (w := 0) cs hst hI (by omega) (by omega) (hl2.2.2.1 (by omega))) (no_1 (kLabel_0 (N := N) (by omega) (by omega) (by omega))) rfl hl rfl (Nat.le_of_ble_eq_true rfl) ⟨Nat.le_of_ble_eq_true rfl, Nat.le_of_ble_eq_true rfl⟩ ⟨show 0 + 6 + 3 + 6 + 3 + 3 + 3 ≤ 60 by omega, show 0 + 52 + 26 + 52 + 26 + 26 + 26 ≤ 500 by omega⟩ (fun H locs h => ?_)
                      refine b_if_ne (tgt := 165) X dL_isLabel_158 (by decide) (a := ((0 : Nat) : Int)) (nI_ti (by omega)) (fun c33 => ?_) (fun c33 => ?_)
                      · skip
                        exact absurd c33 (by first | decide | omega)
                      · skip
                        refine lv_iconst (v := nI (1)) X.1 X.2.1 dL_isLabel_161 (by decide) ?_
                        refine lv_goto (tgt := 166) X.1 X.2.1 dL_isLabel_162 (by decide) ?_
                        exact q_zret X hr hlocks h dL_isLabel_166 ⟨show 0 + 6 + 3 + 6 + 3 + 3 + 3 ≤ 60 by omega, show 0 + 52 + 26 + 52 + 26 + 26 + 26 ≤ 500 by omega⟩ (rfl) (⟨rfl, rfl, rfl⟩)
  · skip
    refine lv_iconst (v := nI (2)) X.1 X.2.1 dL_isLabel_27 (by decide) ?_
    refine lv_goto (tgt := 32) X.1 X.2.1 dL_isLabel_28 (by decide) ?_
    refine lv_istore (lv' := [(6, .int (nI (2))), (5, .int (nI (F 17 k0) - 1)), (4, .int (nI (F 14 k0))), (0, .ref x), (1, .ref (ar 3)), (2, .ref (ar 4)), (3, .int (nI (k0)))]) X.1 X.2.1 dL_isLabel_32 hl (by decide) rfl (fun ls hl => ?_)
    have hl1 := lab_1 (F := F) (k := k0) (a1 := 2) (by omega) (by rw [if_pos (by omega)]) (by omega)
    refine lv_aload_n X.1 X.2.1 dL_isLabel_34 rfl (lv_at hl 3 rfl) ?_
    refine lv_iload_n X.1 X.2.1 dL_isLabel_35 rfl (lv_at hl 6 rfl) ?_
    refine lv_iconst (v := nI (0)) X.1 X.2.1 dL_isLabel_36 (by decide) ?_
    refine lv_iload_n X.1 X.2.1 dL_isLabel_37 rfl (lv_at hl 6 rfl) ?_
    refine q_call X hS hZ hN h ck_L_99 kst_L_isNumber dL_isLabel_38 (As := [.ref x, .int (nI (k0)), .int (nI (0)), .int (nI (k0))]) (c_L_isNumber l G x ar N F B k0 0 k0 hst hI (by omega) (by omega) (by omega) (hl1.1) (hl1.2.1)) rfl hl rfl (Nat.le_of_ble_eq_true rfl) ⟨Nat.le_of_ble_eq_true rfl, Nat.le_of_ble_eq_true rfl⟩ ⟨show 0 + 6 ≤ 60 by omega, show 0 + 52 ≤ 500 by omega⟩ ?_
    rintro _ _ _ H locs ⟨rfl, rfl, rfl⟩ h
    refine b_if_eq (tgt := 74) X dL_isLabel_41 (by decide) (a := ((1 : Nat) : Int)) (nI_ti (by omega)) (fun c34 => ?_) (fun c34 => ?_)
    · skip
      exact absurd c34 (by first | decide | omega)
    · skip
      refine lv_aload_n X.1 X.2.1 dL_isLabel_44 rfl (lv_at hl 3 rfl) ?_
      refine lv_iload_n X.1 X.2.1 dL_isLabel_45 rfl (lv_at hl 6 rfl) ?_
      refine lv_iload X.1 X.2.1 dL_isLabel_46 (lv_at hl 0 rfl) ?_
      refine q_callX (C1 := (N, F, B)) (v := nI (58)) X hS hZ h ck_L_58 ki_X6_label ks_X6_label dL_isLabel_48 (As := [.int (nI (k0)), .int (nI (2))]) (fun MC cs => x_label (N := N) (F := F) (B := B) (w := 58) cs hst hI (by omega) (by omega) (hl1.2.2.1)) (no_1 (kLabel_0 (N := N) (by omega) (by omega) (by omega))) rfl hl rfl (Nat.le_of_ble_eq_true rfl) ⟨Nat.le_of_ble_eq_true rfl, Nat.le_of_ble_eq_true rfl⟩ ⟨show 0 + 6 + 3 ≤ 60 by omega, show 0 + 52 + 26 ≤ 500 by omega⟩ (fun H locs h => ?_)
      refine lv_bipush (v := nI (58)) X.1 X.2.1 dL_isLabel_51 (by decide) ?_
      refine b_icmp_ne (tgt := 74) X dL_isLabel_53 (by decide) (a := ((58 : Nat) : Int)) (b := ((58 : Nat) : Int)) (nI_ti (by omega)) (nI_ti (by omega)) (fun c35 => ?_) (fun c35 => ?_)
      · skip
        exact absurd c35 (by first | decide | omega)
      · skip
        refine lv_aload_n X.1 X.2.1 dL_isLabel_56 rfl (lv_at hl 3 rfl) ?_
        refine lv_iload_n X.1 X.2.1 dL_isLabel_57 rfl (lv_at hl 6 rfl) ?_
        refine lv_iload X.1 X.2.1 dL_isLabel_58 (lv_at hl 0 rfl) ?_
        refine lv_iconst (v := nI (1)) X.1 X.2.1 dL_isLabel_60 (by decide) ?_
        refine lv_iadd X.1 X.2.1 dL_isLabel_61 ?_
        refine lv_top (y := nI (2 + 1)) (nI_add _ _) ?_
        refine lv_iload X.1 X.2.1 dL_isLabel_62 (lv_at hl 2 rfl) ?_
        refine q_call X hS hZ hN h ck_L_99 kst_L_isNumber dL_isLabel_64 (As := [.ref x, .int (nI (k0)), .int (nI (2 + 1)), .int (nI (F 14 k0))]) (c_L_isNumber l G x ar N F B k0 (2 + 1) (F 14 k0) hst hI (by omega) (by omega) (by omega) (hl1.2.2.2.1) (hl1.2.2.2.2)) rfl hl rfl (Nat.le_of_ble_eq_true rfl) ⟨Nat.le_of_ble_eq_true rfl, Nat.le_of_ble_eq_true rfl⟩ ⟨show 0 + 6 + 3 + 6 ≤ 60 by omega, show 0 + 52 + 26 + 52 ≤ 500 by omega⟩ ?_
        rintro _ _ _ H locs ⟨rfl, rfl, rfl⟩ h
        refine b_if_eq (tgt := 74) X dL_isLabel_67 (by decide) (a := ((1 : Nat) : Int)) (nI_ti (by omega)) (fun c36 => ?_) (fun c36 => ?_)
        · skip
          exact absurd c36 (by first | decide | omega)
        · skip
          refine lv_iconst (v := nI (1)) X.1 X.2.1 dL_isLabel_70 (by decide) ?_
          refine lv_goto (tgt := 75) X.1 X.2.1 dL_isLabel_71 (by decide) ?_
          refine lv_istore (lv' := [(7, .int (nI (1))), (6, .int (nI (2))), (5, .int (nI (F 17 k0) - 1)), (4, .int (nI (F 14 k0))), (0, .ref x), (1, .ref (ar 3)), (2, .ref (ar 4)), (3, .int (nI (k0)))]) X.1 X.2.1 dL_isLabel_75 hl (by decide) rfl (fun ls hl => ?_)
          refine lv_iload X.1 X.2.1 dL_isLabel_77 (lv_at hl 1 rfl) ?_
          refine lv_iload X.1 X.2.1 dL_isLabel_79 (lv_at hl 3 rfl) ?_
          refine lv_bipush (v := nI (9)) X.1 X.2.1 dL_isLabel_81 (by decide) ?_
          refine b_icmp_le (tgt := 90) X dL_isLabel_83 (by decide) (a := ((F 14 k0 : Nat) : Int)) (b := ((9 : Nat) : Int)) (nI_ti (by omega)) (nI_ti (by omega)) (fun c37 => ?_) (fun c37 => ?_)
          · skip
            refine lv_iconst (v := nI (2)) X.1 X.2.1 dL_isLabel_90 (by decide) ?_
            refine lv_iadd X.1 X.2.1 dL_isLabel_91 ?_
            refine lv_top (y := nI (2 + 2)) (nI_add _ _) ?_
            refine lv_istore (lv' := [(6, .int (nI (2 + 2))), (7, .int (nI (1))), (5, .int (nI (F 17 k0) - 1)), (4, .int (nI (F 14 k0))), (0, .ref x), (1, .ref (ar 3)), (2, .ref (ar 4)), (3, .int (nI (k0)))]) X.1 X.2.1 dL_isLabel_92 hl (by decide) rfl (fun ls hl => ?_)
            have hl2 := lab_2 (F := F) (k := k0) (a1 := 2) (a2 := 2 + 2) (by rw [if_pos (by omega)]) (by rw [if_neg (by omega)]) (by omega) (by omega)
            refine lv_iload X.1 X.2.1 dL_isLabel_94 (lv_at hl 1 rfl) ?_
            refine b_if_eq (tgt := 136) X dL_isLabel_96 (by decide) (a := ((1 : Nat) : Int)) (nI_ti (by omega)) (fun c38 => ?_) (fun c38 => ?_)
            · skip
              exact absurd c38 (by first | decide | omega)
            · skip
              refine lv_aload_n X.1 X.2.1 dL_isLabel_99 rfl (lv_at hl 4 rfl) ?_
              refine lv_iload_n X.1 X.2.1 dL_isLabel_100 rfl (lv_at hl 7 rfl) ?_
              refine lv_iload X.1 X.2.1 dL_isLabel_101 (lv_at hl 0 rfl) ?_
              refine q_callX (C1 := (N, F, B)) (v := nI (47)) X hS hZ h ck_L_58 ki_X6_label ks_X6_label dL_isLabel_103 (As := [.int (nI (k0)), .int (nI (2 + 2))]) (fun MC cs => x_label (N := N) (F := F) (B := B) (w := 47) cs hst hI (by omega) (by omega) (hl2.1)) (no_1 (kLabel_0 (N := N) (by omega) (by omega) (by omega))) rfl hl rfl (Nat.le_of_ble_eq_true rfl) ⟨Nat.le_of_ble_eq_true rfl, Nat.le_of_ble_eq_true rfl⟩ ⟨show 0 + 6 + 3 + 6 + 3 ≤ 60 by omega, show 0 + 52 + 26 + 52 + 26 ≤ 500 by omega⟩ (fun H locs h => ?_)
              refine lv_bipush (v := nI (47)) X.1 X.2.1 dL_isLabel_106 (by decide) ?_
              refine b_icmp_ne (tgt := 136) X dL_isLabel_108 (by decide) (a := ((47 : Nat) : Int)) (b := ((47 : Nat) : Int)) (nI_ti (by omega)) (nI_ti (by omega)) (fun c39 => ?_) (fun c39 => ?_)
              · skip
                exact absurd c39 (by first | decide | omega)
              · skip
                refine lv_aload_n X.1 X.2.1 dL_isLabel_111 rfl (lv_at hl 4 rfl) ?_
                refine lv_iload_n X.1 X.2.1 dL_isLabel_112 rfl (lv_at hl 7 rfl) ?_
                refine lv_iload X.1 X.2.1 dL_isLabel_113 (lv_at hl 0 rfl) ?_
                refine lv_iconst (v := nI (1)) X.1 X.2.1 dL_isLabel_115 (by decide) ?_
                refine lv_iadd X.1 X.2.1 dL_isLabel_116 ?_
                refine lv_top (y := nI (2 + 2 + 1)) (nI_add _ _) ?_
                refine q_callX (C1 := (N, F, B)) (v := nI (48 + (F 15 k0))) X hS hZ h ck_L_58 ki_X6_label ks_X6_label dL_isLabel_117 (As := [.int (nI (k0)), .int (nI (2 + 2 + 1))]) (fun MC cs => x_label (N := N) (F := F) (B := B) (w := 48 + (F 15 k0)) cs hst hI (by omega) (by omega) (hl2.2.1)) (no_1 (kLabel_0 (N := N) (by omega) (by omega) (by omega))) rfl hl rfl (Nat.le_of_ble_eq_true rfl) ⟨Nat.le_of_ble_eq_true rfl, Nat.le_of_ble_eq_true rfl⟩ ⟨show 0 + 6 + 3 + 6 + 3 + 3 ≤ 60 by omega, show 0 + 52 + 26 + 52 + 26 + 26 ≤ 500 by omega⟩ (fun H locs h => ?_)
                refine lv_bipush (v := nI (48)) X.1 X.2.1 dL_isLabel_120 (by decide) ?_
                refine lv_aload_n X.1 X.2.1 dL_isLabel_122 rfl (lv_at hl 5 rfl) ?_
                refine lv_iload_n X.1 X.2.1 dL_isLabel_123 rfl (lv_at hl 7 rfl) ?_
                refine q_ald X h 3 (by decide) dL_isLabel_124 (i := k0) (v := nI (kvS F k0)) rfl (by show _ < 36; omega) (fun V r => LR.k3 r (by omega)) ?_
                have b40 := kv_b hI (show k0 < N 13 by omega)
                refine lv_bipush (v := nI (16)) X.1 X.2.1 dL_isLabel_125 (by decide) ?_
                refine lv_idiv X.1 X.2.1 dL_isLabel_127 (by decide) ?_
                refine lv_top (y := nI (F 15 k0)) ((pk_div (by omega) (by omega) (by omega)).trans (congrArg nI b40.2.2.1)) ?_
                refine lv_iadd X.1 X.2.1 dL_isLabel_128 ?_
                refine lv_top (y := nI (48 + (F 15 k0))) (nI_add _ _) ?_
                refine b_icmp_ne (tgt := 136) X dL_isLabel_129 (by decide) (a := ((48 + (F 15 k0) : Nat) : Int)) (b := ((48 + (F 15 k0) : Nat) : Int)) (nI_ti (by omega)) (nI_ti (by omega)) (fun c41 => ?_) (fun c41 => ?_)
                · skip
                  exact absurd c41 (by first | decide | omega)
                · skip
                  refine lv_iconst (v := nI (1)) X.1 X.2.1 dL_isLabel_132 (by decide) ?_
                  refine lv_goto (tgt := 137) X.1 X.2.1 dL_isLabel_133 (by decide) ?_
                  refine lv_istore (lv' := [(7, .int (nI (1))), (6, .int (nI (2 + 2))), (5, .int (nI (F 17 k0) - 1)), (4, .int (nI (F 14 k0))), (0, .ref x), (1, .ref (ar 3)), (2, .ref (ar 4)), (3, .int (nI (k0)))]) X.1 X.2.1 dL_isLabel_137 hl (by decide) rfl (fun ls hl => ?_)
                  refine lv_iload X.1 X.2.1 dL_isLabel_139 (lv_at hl 2 rfl) ?_
                  refine b_if_ge (tgt := 167) X dL_isLabel_141 (by decide) (a := ((F 17 k0 : Nat) : Int) - 1) (eI_ti (by omega)) (fun c42 => ?_) (fun c42 => ?_)
                  · skip
                    refine lv_iload X.1 X.2.1 dL_isLabel_167 (lv_at hl 0 rfl) ?_
                    refine b_if_eq (tgt := 227) X dL_isLabel_169 (by decide) (a := ((1 : Nat) : Int)) (nI_ti (by omega)) (fun c43 => ?_) (fun c43 => ?_)
                    · skip
                      exact absurd c43 (by first | decide | omega)
                    · skip
                      refine lv_aload_n X.1 X.2.1 dL_isLabel_172 rfl (lv_at hl 4 rfl) ?_
                      refine lv_iload_n X.1 X.2.1 dL_isLabel_173 rfl (lv_at hl 7 rfl) ?_
                      refine lv_iload X.1 X.2.1 dL_isLabel_174 (lv_at hl 1 rfl) ?_
                      refine lv_iconst (v := nI (2)) X.1 X.2.1 dL_isLabel_176 (by decide) ?_
                      refine lv_iadd X.1 X.2.1 dL_isLabel_177 ?_
                      refine lv_top (y := nI (2 + 2 + 2)) (nI_add _ _) ?_
                      refine q_callX (C1 := (N, F, B)) (v := nI (64)) X hS hZ h ck_L_58 ki_X6_label ks_X6_label dL_isLabel_178 (As := [.int (nI (k0)), .int (nI (2 + 2 + 2))]) (fun MC cs => x_label (N := N) (F := F) (B := B) (w := 64) cs hst hI (by omega) (by omega) ((hl2.2.2.2 (by omega)).1)) (no_1 (kLabel_0 (N := N) (by omega) (by omega) (by omega))) rfl hl rfl (Nat.le_of_ble_eq_true rfl) ⟨Nat.le_of_ble_eq_true rfl, Nat.le_of_ble_eq_true rfl⟩ ⟨show 0 + 6 + 3 + 6 + 3 + 3 + 3 ≤ 60 by omega, show 0 + 52 + 26 + 52 + 26 + 26 + 26 ≤ 500 by omega⟩ (fun H locs h => ?_)
                      refine lv_bipush (v := nI (64)) X.1 X.2.1 dL_isLabel_181 (by decide) ?_
                      refine b_icmp_ne (tgt := 227) X dL_isLabel_183 (by decide) (a := ((64 : Nat) : Int)) (b := ((64 : Nat) : Int)) (nI_ti (by omega)) (nI_ti (by omega)) (fun c44 => ?_) (fun c44 => ?_)
                      · skip
                        exact absurd c44 (by first | decide | omega)
                      · skip
                        refine lv_aload_n X.1 X.2.1 dL_isLabel_186 rfl (lv_at hl 4 rfl) ?_
                        refine lv_iload_n X.1 X.2.1 dL_isLabel_187 rfl (lv_at hl 7 rfl) ?_
                        refine lv_iload X.1 X.2.1 dL_isLabel_188 (lv_at hl 1 rfl) ?_
                        refine lv_iconst (v := nI (3)) X.1 X.2.1 dL_isLabel_190 (by decide) ?_
                        refine lv_iadd X.1 X.2.1 dL_isLabel_191 ?_
                        refine lv_top (y := nI (2 + 2 + 3)) (nI_add _ _) ?_
                        refine lv_iload X.1 X.2.1 dL_isLabel_192 (lv_at hl 2 rfl) ?_
                        refine lv_top (y := nI (F 17 k0 - 1)) (eI_pos (by omega)) ?_
                        refine q_call X hS hZ hN h ck_L_99 kst_L_isNumber dL_isLabel_194 (As := [.ref x, .int (nI (k0)), .int (nI (2 + 2 + 3)), .int (nI (F 17 k0 - 1))]) (c_L_isNumber l G x ar N F B k0 (2 + 2 + 3) (F 17 k0 - 1) hst hI (by omega) (by omega) (by omega) (fun z => ((hl2.2.2.2 (by omega)).2.1 z).1) (fun z => ⟨((hl2.2.2.2 (by omega)).2.2 z).1, ((hl2.2.2.2 (by omega)).2.2 z).2.1⟩)) rfl hl rfl (Nat.le_of_ble_eq_true rfl) ⟨Nat.le_of_ble_eq_true rfl, Nat.le_of_ble_eq_true rfl⟩ ⟨show 0 + 6 + 3 + 6 + 3 + 3 + 3 + 6 ≤ 60 by omega, show 0 + 52 + 26 + 52 + 26 + 26 + 26 + 52 ≤ 500 by omega⟩ ?_
                        rintro _ _ _ H locs ⟨rfl, rfl, rfl⟩ h
                        refine b_if_eq (tgt := 227) X dL_isLabel_197 (by decide) (a := ((1 : Nat) : Int)) (nI_ti (by omega)) (fun c45 => ?_) (fun c45 => ?_)
                        · skip
                          exact absurd c45 (by first | decide | omega)
                        · skip
                          refine lv_aload_n X.1 X.2.1 dL_isLabel_200 rfl (lv_at hl 4 rfl) ?_
                          refine lv_iload_n X.1 X.2.1 dL_isLabel_201 rfl (lv_at hl 7 rfl) ?_
                          refine lv_iload X.1 X.2.1 dL_isLabel_202 (lv_at hl 1 rfl) ?_
                          refine lv_iload X.1 X.2.1 dL_isLabel_204 (lv_at hl 2 rfl) ?_
                          refine lv_bipush (v := nI (9)) X.1 X.2.1 dL_isLabel_206 (by decide) ?_
                          refine b_icmp_le (tgt := 215) X dL_isLabel_208 (by decide) (a := ((F 17 k0 : Nat) : Int) - 1) (b := ((9 : Nat) : Int)) (eI_ti (by omega)) (nI_ti (by omega)) (fun c46 => ?_) (fun c46 => ?_)
                          · skip
                            refine lv_iconst (v := nI (4)) X.1 X.2.1 dL_isLabel_215 (by decide) ?_
                            refine lv_iadd X.1 X.2.1 dL_isLabel_216 ?_
                            refine lv_top (y := nI (2 + 2 + 4)) (nI_add _ _) ?_
                            refine q_callX (C1 := (N, F, B)) (v := nI (0)) X hS hZ h ck_L_58 ki_X6_label ks_X6_label dL_isLabel_217 (As := [.int (nI (k0)), .int (nI (2 + 2 + 4))]) (fun MC cs => x_label (N := N) (F := F) (B := B) (w := 0) cs hst hI (by omega) (by omega) (((hl2.2.2.2 (by omega)).2.1 (by omega)).2)) (no_1 (kLabel_0 (N := N) (by omega) (by omega) (by omega))) rfl hl rfl (Nat.le_of_ble_eq_true rfl) ⟨Nat.le_of_ble_eq_true rfl, Nat.le_of_ble_eq_true rfl⟩ ⟨show 0 + 6 + 3 + 6 + 3 + 3 + 3 + 6 + 3 ≤ 60 by omega, show 0 + 52 + 26 + 52 + 26 + 26 + 26 + 52 + 26 ≤ 500 by omega⟩ (fun H locs h => ?_)
                            refine b_if_ne (tgt := 227) X dL_isLabel_220 (by decide) (a := ((0 : Nat) : Int)) (nI_ti (by omega)) (fun c47 => ?_) (fun c47 => ?_)
                            · skip
                              exact absurd c47 (by first | decide | omega)
                            · skip
                              refine lv_iconst (v := nI (1)) X.1 X.2.1 dL_isLabel_223 (by decide) ?_
                              refine lv_goto (tgt := 228) X.1 X.2.1 dL_isLabel_224 (by decide) ?_
                              exact q_zret X hr hlocks h dL_isLabel_228 ⟨show 0 + 6 + 3 + 6 + 3 + 3 + 3 + 6 + 3 ≤ 60 by omega, show 0 + 52 + 26 + 52 + 26 + 26 + 26 + 52 + 26 ≤ 500 by omega⟩ (rfl) (⟨rfl, rfl, rfl⟩)
                          · skip
                            refine lv_iconst (v := nI (5)) X.1 X.2.1 dL_isLabel_211 (by decide) ?_
                            refine lv_goto (tgt := 216) X.1 X.2.1 dL_isLabel_212 (by decide) ?_
                            refine lv_iadd X.1 X.2.1 dL_isLabel_216 ?_
                            refine lv_top (y := nI (2 + 2 + 5)) (nI_add _ _) ?_
                            refine q_callX (C1 := (N, F, B)) (v := nI (0)) X hS hZ h ck_L_58 ki_X6_label ks_X6_label dL_isLabel_217 (As := [.int (nI (k0)), .int (nI (2 + 2 + 5))]) (fun MC cs => x_label (N := N) (F := F) (B := B) (w := 0) cs hst hI (by omega) (by omega) (((hl2.2.2.2 (by omega)).2.2 (by omega)).2.2)) (no_1 (kLabel_0 (N := N) (by omega) (by omega) (by omega))) rfl hl rfl (Nat.le_of_ble_eq_true rfl) ⟨Nat.le_of_ble_eq_true rfl, Nat.le_of_ble_eq_true rfl⟩ ⟨show 0 + 6 + 3 + 6 + 3 + 3 + 3 + 6 + 3 ≤ 60 by omega, show 0 + 52 + 26 + 52 + 26 + 26 + 26 + 52 + 26 ≤ 500 by omega⟩ (fun H locs h => ?_)
                            refine b_if_ne (tgt := 227) X dL_isLabel_220 (by decide) (a := ((0 : Nat) : Int)) (nI_ti (by omega)) (fun c48 => ?_) (fun c48 => ?_)
                            · skip
                              exact absurd c48 (by first | decide | omega)
                            · skip
                              refine lv_iconst (v := nI (1)) X.1 X.2.1 dL_isLabel_223 (by decide) ?_
                              refine lv_goto (tgt := 228) X.1 X.2.1 dL_isLabel_224 (by decide) ?_
                              exact q_zret X hr hlocks h dL_isLabel_228 ⟨show 0 + 6 + 3 + 6 + 3 + 3 + 3 + 6 + 3 ≤ 60 by omega, show 0 + 52 + 26 + 52 + 26 + 26 + 26 + 52 + 26 ≤ 500 by omega⟩ (rfl) (⟨rfl, rfl, rfl⟩)
                  · skip
                    refine lv_iload X.1 X.2.1 dL_isLabel_144 (lv_at hl 0 rfl) ?_
                    refine b_if_eq (tgt := 165) X dL_isLabel_146 (by decide) (a := ((1 : Nat) : Int)) (nI_ti (by omega)) (fun c49 => ?_) (fun c49 => ?_)
                    · skip
                      exact absurd c49 (by first | decide | omega)
                    · skip
                      refine lv_aload_n X.1 X.2.1 dL_isLabel_149 rfl (lv_at hl 4 rfl) ?_
                      refine lv_iload_n X.1 X.2.1 dL_isLabel_150 rfl (lv_at hl 7 rfl) ?_
                      refine lv_iload X.1 X.2.1 dL_isLabel_151 (lv_at hl 1 rfl) ?_
                      refine lv_iconst (v := nI (2)) X.1 X.2.1 dL_isLabel_153 (by decide) ?_
                      refine lv_iadd X.1 X.2.1 dL_isLabel_154 ?_
                      refine lv_top (y := nI (2 + 2 + 2)) (nI_add _ _) ?_
                      refine q_callX (C1 := (N, F, B)) (v := nI (0)) X hS hZ h ck_L_58 ki_X6_label ks_X6_label dL_isLabel_155 (As := [.int (nI (k0)), .int (nI (2 + 2 + 2))]) (fun MC cs => x_label (N := N) (F := F) (B := B) (w := 0) cs hst hI (by omega) (by omega) (hl2.2.2.1 (by omega))) (no_1 (kLabel_0 (N := N) (by omega) (by omega) (by omega))) rfl hl rfl (Nat.le_of_ble_eq_true rfl) ⟨Nat.le_of_ble_eq_true rfl, Nat.le_of_ble_eq_true rfl⟩ ⟨show 0 + 6 + 3 + 6 + 3 + 3 + 3 ≤ 60 by omega, show 0 + 52 + 26 + 52 + 26 + 26 + 26 ≤ 500 by omega⟩ (fun H locs h => ?_)
                      refine b_if_ne (tgt := 165) X dL_isLabel_158 (by decide) (a := ((0 : Nat) : Int)) (nI_ti (by omega)) (fun c50 => ?_) (fun c50 => ?_)
                      · skip
                        exact absurd c50 (by first | decide | omega)
                      · skip
                        refine lv_iconst (v := nI (1)) X.1 X.2.1 dL_isLabel_161 (by decide) ?_
                        refine lv_goto (tgt := 166) X.1 X.2.1 dL_isLabel_162 (by decide) ?_
                        exact q_zret X hr hlocks h dL_isLabel_166 ⟨show 0 + 6 + 3 + 6 + 3 + 3 + 3 ≤ 60 by omega, show 0 + 52 + 26 + 52 + 26 + 26 + 26 ≤ 500 by omega⟩ (rfl) (⟨rfl, rfl, rfl⟩)
          · skip
            refine lv_iconst (v := nI (3)) X.1 X.2.1 dL_isLabel_86 (by decide) ?_
            refine lv_goto (tgt := 91) X.1 X.2.1 dL_isLabel_87 (by decide) ?_
            refine lv_iadd X.1 X.2.1 dL_isLabel_91 ?_
            refine lv_top (y := nI (2 + 3)) (nI_add _ _) ?_
            refine lv_istore (lv' := [(6, .int (nI (2 + 3))), (7, .int (nI (1))), (5, .int (nI (F 17 k0) - 1)), (4, .int (nI (F 14 k0))), (0, .ref x), (1, .ref (ar 3)), (2, .ref (ar 4)), (3, .int (nI (k0)))]) X.1 X.2.1 dL_isLabel_92 hl (by decide) rfl (fun ls hl => ?_)
            have hl2 := lab_2 (F := F) (k := k0) (a1 := 2) (a2 := 2 + 3) (by rw [if_pos (by omega)]) (by rw [if_pos (by omega)]) (by omega) (by omega)
            refine lv_iload X.1 X.2.1 dL_isLabel_94 (lv_at hl 1 rfl) ?_
            refine b_if_eq (tgt := 136) X dL_isLabel_96 (by decide) (a := ((1 : Nat) : Int)) (nI_ti (by omega)) (fun c51 => ?_) (fun c51 => ?_)
            · skip
              exact absurd c51 (by first | decide | omega)
            · skip
              refine lv_aload_n X.1 X.2.1 dL_isLabel_99 rfl (lv_at hl 4 rfl) ?_
              refine lv_iload_n X.1 X.2.1 dL_isLabel_100 rfl (lv_at hl 7 rfl) ?_
              refine lv_iload X.1 X.2.1 dL_isLabel_101 (lv_at hl 0 rfl) ?_
              refine q_callX (C1 := (N, F, B)) (v := nI (47)) X hS hZ h ck_L_58 ki_X6_label ks_X6_label dL_isLabel_103 (As := [.int (nI (k0)), .int (nI (2 + 3))]) (fun MC cs => x_label (N := N) (F := F) (B := B) (w := 47) cs hst hI (by omega) (by omega) (hl2.1)) (no_1 (kLabel_0 (N := N) (by omega) (by omega) (by omega))) rfl hl rfl (Nat.le_of_ble_eq_true rfl) ⟨Nat.le_of_ble_eq_true rfl, Nat.le_of_ble_eq_true rfl⟩ ⟨show 0 + 6 + 3 + 6 + 3 ≤ 60 by omega, show 0 + 52 + 26 + 52 + 26 ≤ 500 by omega⟩ (fun H locs h => ?_)
              refine lv_bipush (v := nI (47)) X.1 X.2.1 dL_isLabel_106 (by decide) ?_
              refine b_icmp_ne (tgt := 136) X dL_isLabel_108 (by decide) (a := ((47 : Nat) : Int)) (b := ((47 : Nat) : Int)) (nI_ti (by omega)) (nI_ti (by omega)) (fun c52 => ?_) (fun c52 => ?_)
              · skip
                exact absurd c52 (by first | decide | omega)
              · skip
                refine lv_aload_n X.1 X.2.1 dL_isLabel_111 rfl (lv_at hl 4 rfl) ?_
                refine lv_iload_n X.1 X.2.1 dL_isLabel_112 rfl (lv_at hl 7 rfl) ?_
                refine lv_iload X.1 X.2.1 dL_isLabel_113 (lv_at hl 0 rfl) ?_
                refine lv_iconst (v := nI (1)) X.1 X.2.1 dL_isLabel_115 (by decide) ?_
                refine lv_iadd X.1 X.2.1 dL_isLabel_116 ?_
                refine lv_top (y := nI (2 + 3 + 1)) (nI_add _ _) ?_
                refine q_callX (C1 := (N, F, B)) (v := nI (48 + (F 15 k0))) X hS hZ h ck_L_58 ki_X6_label ks_X6_label dL_isLabel_117 (As := [.int (nI (k0)), .int (nI (2 + 3 + 1))]) (fun MC cs => x_label (N := N) (F := F) (B := B) (w := 48 + (F 15 k0)) cs hst hI (by omega) (by omega) (hl2.2.1)) (no_1 (kLabel_0 (N := N) (by omega) (by omega) (by omega))) rfl hl rfl (Nat.le_of_ble_eq_true rfl) ⟨Nat.le_of_ble_eq_true rfl, Nat.le_of_ble_eq_true rfl⟩ ⟨show 0 + 6 + 3 + 6 + 3 + 3 ≤ 60 by omega, show 0 + 52 + 26 + 52 + 26 + 26 ≤ 500 by omega⟩ (fun H locs h => ?_)
                refine lv_bipush (v := nI (48)) X.1 X.2.1 dL_isLabel_120 (by decide) ?_
                refine lv_aload_n X.1 X.2.1 dL_isLabel_122 rfl (lv_at hl 5 rfl) ?_
                refine lv_iload_n X.1 X.2.1 dL_isLabel_123 rfl (lv_at hl 7 rfl) ?_
                refine q_ald X h 3 (by decide) dL_isLabel_124 (i := k0) (v := nI (kvS F k0)) rfl (by show _ < 36; omega) (fun V r => LR.k3 r (by omega)) ?_
                have b53 := kv_b hI (show k0 < N 13 by omega)
                refine lv_bipush (v := nI (16)) X.1 X.2.1 dL_isLabel_125 (by decide) ?_
                refine lv_idiv X.1 X.2.1 dL_isLabel_127 (by decide) ?_
                refine lv_top (y := nI (F 15 k0)) ((pk_div (by omega) (by omega) (by omega)).trans (congrArg nI b53.2.2.1)) ?_
                refine lv_iadd X.1 X.2.1 dL_isLabel_128 ?_
                refine lv_top (y := nI (48 + (F 15 k0))) (nI_add _ _) ?_
                refine b_icmp_ne (tgt := 136) X dL_isLabel_129 (by decide) (a := ((48 + (F 15 k0) : Nat) : Int)) (b := ((48 + (F 15 k0) : Nat) : Int)) (nI_ti (by omega)) (nI_ti (by omega)) (fun c54 => ?_) (fun c54 => ?_)
                · skip
                  exact absurd c54 (by first | decide | omega)
                · skip
                  refine lv_iconst (v := nI (1)) X.1 X.2.1 dL_isLabel_132 (by decide) ?_
                  refine lv_goto (tgt := 137) X.1 X.2.1 dL_isLabel_133 (by decide) ?_
                  refine lv_istore (lv' := [(7, .int (nI (1))), (6, .int (nI (2 + 3))), (5, .int (nI (F 17 k0) - 1)), (4, .int (nI (F 14 k0))), (0, .ref x), (1, .ref (ar 3)), (2, .ref (ar 4)), (3, .int (nI (k0)))]) X.1 X.2.1 dL_isLabel_137 hl (by decide) rfl (fun ls hl => ?_)
                  refine lv_iload X.1 X.2.1 dL_isLabel_139 (lv_at hl 2 rfl) ?_
                  refine b_if_ge (tgt := 167) X dL_isLabel_141 (by decide) (a := ((F 17 k0 : Nat) : Int) - 1) (eI_ti (by omega)) (fun c55 => ?_) (fun c55 => ?_)
                  · skip
                    refine lv_iload X.1 X.2.1 dL_isLabel_167 (lv_at hl 0 rfl) ?_
                    refine b_if_eq (tgt := 227) X dL_isLabel_169 (by decide) (a := ((1 : Nat) : Int)) (nI_ti (by omega)) (fun c56 => ?_) (fun c56 => ?_)
                    · skip
                      exact absurd c56 (by first | decide | omega)
                    · skip
                      refine lv_aload_n X.1 X.2.1 dL_isLabel_172 rfl (lv_at hl 4 rfl) ?_
                      refine lv_iload_n X.1 X.2.1 dL_isLabel_173 rfl (lv_at hl 7 rfl) ?_
                      refine lv_iload X.1 X.2.1 dL_isLabel_174 (lv_at hl 1 rfl) ?_
                      refine lv_iconst (v := nI (2)) X.1 X.2.1 dL_isLabel_176 (by decide) ?_
                      refine lv_iadd X.1 X.2.1 dL_isLabel_177 ?_
                      refine lv_top (y := nI (2 + 3 + 2)) (nI_add _ _) ?_
                      refine q_callX (C1 := (N, F, B)) (v := nI (64)) X hS hZ h ck_L_58 ki_X6_label ks_X6_label dL_isLabel_178 (As := [.int (nI (k0)), .int (nI (2 + 3 + 2))]) (fun MC cs => x_label (N := N) (F := F) (B := B) (w := 64) cs hst hI (by omega) (by omega) ((hl2.2.2.2 (by omega)).1)) (no_1 (kLabel_0 (N := N) (by omega) (by omega) (by omega))) rfl hl rfl (Nat.le_of_ble_eq_true rfl) ⟨Nat.le_of_ble_eq_true rfl, Nat.le_of_ble_eq_true rfl⟩ ⟨show 0 + 6 + 3 + 6 + 3 + 3 + 3 ≤ 60 by omega, show 0 + 52 + 26 + 52 + 26 + 26 + 26 ≤ 500 by omega⟩ (fun H locs h => ?_)
                      refine lv_bipush (v := nI (64)) X.1 X.2.1 dL_isLabel_181 (by decide) ?_
                      refine b_icmp_ne (tgt := 227) X dL_isLabel_183 (by decide) (a := ((64 : Nat) : Int)) (b := ((64 : Nat) : Int)) (nI_ti (by omega)) (nI_ti (by omega)) (fun c57 => ?_) (fun c57 => ?_)
                      · skip
                        exact absurd c57 (by first | decide | omega)
                      · skip
                        refine lv_aload_n X.1 X.2.1 dL_isLabel_186 rfl (lv_at hl 4 rfl) ?_
                        refine lv_iload_n X.1 X.2.1 dL_isLabel_187 rfl (lv_at hl 7 rfl) ?_
                        refine lv_iload X.1 X.2.1 dL_isLabel_188 (lv_at hl 1 rfl) ?_
                        refine lv_iconst (v := nI (3)) X.1 X.2.1 dL_isLabel_190 (by decide) ?_
                        refine lv_iadd X.1 X.2.1 dL_isLabel_191 ?_
                        refine lv_top (y := nI (2 + 3 + 3)) (nI_add _ _) ?_
                        refine lv_iload X.1 X.2.1 dL_isLabel_192 (lv_at hl 2 rfl) ?_
                        refine lv_top (y := nI (F 17 k0 - 1)) (eI_pos (by omega)) ?_
                        refine q_call X hS hZ hN h ck_L_99 kst_L_isNumber dL_isLabel_194 (As := [.ref x, .int (nI (k0)), .int (nI (2 + 3 + 3)), .int (nI (F 17 k0 - 1))]) (c_L_isNumber l G x ar N F B k0 (2 + 3 + 3) (F 17 k0 - 1) hst hI (by omega) (by omega) (by omega) (fun z => ((hl2.2.2.2 (by omega)).2.1 z).1) (fun z => ⟨((hl2.2.2.2 (by omega)).2.2 z).1, ((hl2.2.2.2 (by omega)).2.2 z).2.1⟩)) rfl hl rfl (Nat.le_of_ble_eq_true rfl) ⟨Nat.le_of_ble_eq_true rfl, Nat.le_of_ble_eq_true rfl⟩ ⟨show 0 + 6 + 3 + 6 + 3 + 3 + 3 + 6 ≤ 60 by omega, show 0 + 52 + 26 + 52 + 26 + 26 + 26 + 52 ≤ 500 by omega⟩ ?_
                        rintro _ _ _ H locs ⟨rfl, rfl, rfl⟩ h
                        refine b_if_eq (tgt := 227) X dL_isLabel_197 (by decide) (a := ((1 : Nat) : Int)) (nI_ti (by omega)) (fun c58 => ?_) (fun c58 => ?_)
                        · skip
                          exact absurd c58 (by first | decide | omega)
                        · skip
                          refine lv_aload_n X.1 X.2.1 dL_isLabel_200 rfl (lv_at hl 4 rfl) ?_
                          refine lv_iload_n X.1 X.2.1 dL_isLabel_201 rfl (lv_at hl 7 rfl) ?_
                          refine lv_iload X.1 X.2.1 dL_isLabel_202 (lv_at hl 1 rfl) ?_
                          refine lv_iload X.1 X.2.1 dL_isLabel_204 (lv_at hl 2 rfl) ?_
                          refine lv_bipush (v := nI (9)) X.1 X.2.1 dL_isLabel_206 (by decide) ?_
                          refine b_icmp_le (tgt := 215) X dL_isLabel_208 (by decide) (a := ((F 17 k0 : Nat) : Int) - 1) (b := ((9 : Nat) : Int)) (eI_ti (by omega)) (nI_ti (by omega)) (fun c59 => ?_) (fun c59 => ?_)
                          · skip
                            refine lv_iconst (v := nI (4)) X.1 X.2.1 dL_isLabel_215 (by decide) ?_
                            refine lv_iadd X.1 X.2.1 dL_isLabel_216 ?_
                            refine lv_top (y := nI (2 + 3 + 4)) (nI_add _ _) ?_
                            refine q_callX (C1 := (N, F, B)) (v := nI (0)) X hS hZ h ck_L_58 ki_X6_label ks_X6_label dL_isLabel_217 (As := [.int (nI (k0)), .int (nI (2 + 3 + 4))]) (fun MC cs => x_label (N := N) (F := F) (B := B) (w := 0) cs hst hI (by omega) (by omega) (((hl2.2.2.2 (by omega)).2.1 (by omega)).2)) (no_1 (kLabel_0 (N := N) (by omega) (by omega) (by omega))) rfl hl rfl (Nat.le_of_ble_eq_true rfl) ⟨Nat.le_of_ble_eq_true rfl, Nat.le_of_ble_eq_true rfl⟩ ⟨show 0 + 6 + 3 + 6 + 3 + 3 + 3 + 6 + 3 ≤ 60 by omega, show 0 + 52 + 26 + 52 + 26 + 26 + 26 + 52 + 26 ≤ 500 by omega⟩ (fun H locs h => ?_)
                            refine b_if_ne (tgt := 227) X dL_isLabel_220 (by decide) (a := ((0 : Nat) : Int)) (nI_ti (by omega)) (fun c60 => ?_) (fun c60 => ?_)
                            · skip
                              exact absurd c60 (by first | decide | omega)
                            · skip
                              refine lv_iconst (v := nI (1)) X.1 X.2.1 dL_isLabel_223 (by decide) ?_
                              refine lv_goto (tgt := 228) X.1 X.2.1 dL_isLabel_224 (by decide) ?_
                              exact q_zret X hr hlocks h dL_isLabel_228 ⟨show 0 + 6 + 3 + 6 + 3 + 3 + 3 + 6 + 3 ≤ 60 by omega, show 0 + 52 + 26 + 52 + 26 + 26 + 26 + 52 + 26 ≤ 500 by omega⟩ (rfl) (⟨rfl, rfl, rfl⟩)
                          · skip
                            refine lv_iconst (v := nI (5)) X.1 X.2.1 dL_isLabel_211 (by decide) ?_
                            refine lv_goto (tgt := 216) X.1 X.2.1 dL_isLabel_212 (by decide) ?_
                            refine lv_iadd X.1 X.2.1 dL_isLabel_216 ?_
                            refine lv_top (y := nI (2 + 3 + 5)) (nI_add _ _) ?_
                            refine q_callX (C1 := (N, F, B)) (v := nI (0)) X hS hZ h ck_L_58 ki_X6_label ks_X6_label dL_isLabel_217 (As := [.int (nI (k0)), .int (nI (2 + 3 + 5))]) (fun MC cs => x_label (N := N) (F := F) (B := B) (w := 0) cs hst hI (by omega) (by omega) (((hl2.2.2.2 (by omega)).2.2 (by omega)).2.2)) (no_1 (kLabel_0 (N := N) (by omega) (by omega) (by omega))) rfl hl rfl (Nat.le_of_ble_eq_true rfl) ⟨Nat.le_of_ble_eq_true rfl, Nat.le_of_ble_eq_true rfl⟩ ⟨show 0 + 6 + 3 + 6 + 3 + 3 + 3 + 6 + 3 ≤ 60 by omega, show 0 + 52 + 26 + 52 + 26 + 26 + 26 + 52 + 26 ≤ 500 by omega⟩ (fun H locs h => ?_)
                            refine b_if_ne (tgt := 227) X dL_isLabel_220 (by decide) (a := ((0 : Nat) : Int)) (nI_ti (by omega)) (fun c61 => ?_) (fun c61 => ?_)
                            · skip
                              exact absurd c61 (by first | decide | omega)
                            · skip
                              refine lv_iconst (v := nI (1)) X.1 X.2.1 dL_isLabel_223 (by decide) ?_
                              refine lv_goto (tgt := 228) X.1 X.2.1 dL_isLabel_224 (by decide) ?_
                              exact q_zret X hr hlocks h dL_isLabel_228 ⟨show 0 + 6 + 3 + 6 + 3 + 3 + 3 + 6 + 3 ≤ 60 by omega, show 0 + 52 + 26 + 52 + 26 + 26 + 26 + 52 + 26 ≤ 500 by omega⟩ (rfl) (⟨rfl, rfl, rfl⟩)
                  · skip
                    refine lv_iload X.1 X.2.1 dL_isLabel_144 (lv_at hl 0 rfl) ?_
                    refine b_if_eq (tgt := 165) X dL_isLabel_146 (by decide) (a := ((1 : Nat) : Int)) (nI_ti (by omega)) (fun c62 => ?_) (fun c62 => ?_)
                    · skip
                      exact absurd c62 (by first | decide | omega)
                    · skip
                      refine lv_aload_n X.1 X.2.1 dL_isLabel_149 rfl (lv_at hl 4 rfl) ?_
                      refine lv_iload_n X.1 X.2.1 dL_isLabel_150 rfl (lv_at hl 7 rfl) ?_
                      refine lv_iload X.1 X.2.1 dL_isLabel_151 (lv_at hl 1 rfl) ?_
                      refine lv_iconst (v := nI (2)) X.1 X.2.1 dL_isLabel_153 (by decide) ?_
                      refine lv_iadd X.1 X.2.1 dL_isLabel_154 ?_
                      refine lv_top (y := nI (2 + 3 + 2)) (nI_add _ _) ?_
                      refine q_callX (C1 := (N, F, B)) (v := nI (0)) X hS hZ h ck_L_58 ki_X6_label ks_X6_label dL_isLabel_155 (As := [.int (nI (k0)), .int (nI (2 + 3 + 2))]) (fun MC cs => x_label (N := N) (F := F) (B := B) (w := 0) cs hst hI (by omega) (by omega) (hl2.2.2.1 (by omega))) (no_1 (kLabel_0 (N := N) (by omega) (by omega) (by omega))) rfl hl rfl (Nat.le_of_ble_eq_true rfl) ⟨Nat.le_of_ble_eq_true rfl, Nat.le_of_ble_eq_true rfl⟩ ⟨show 0 + 6 + 3 + 6 + 3 + 3 + 3 ≤ 60 by omega, show 0 + 52 + 26 + 52 + 26 + 26 + 26 ≤ 500 by omega⟩ (fun H locs h => ?_)
                      refine b_if_ne (tgt := 165) X dL_isLabel_158 (by decide) (a := ((0 : Nat) : Int)) (nI_ti (by omega)) (fun c63 => ?_) (fun c63 => ?_)
                      · skip
                        exact absurd c63 (by first | decide | omega)
                      · skip
                        refine lv_iconst (v := nI (1)) X.1 X.2.1 dL_isLabel_161 (by decide) ?_
                        refine lv_goto (tgt := 166) X.1 X.2.1 dL_isLabel_162 (by decide) ?_
                        exact q_zret X hr hlocks h dL_isLabel_166 ⟨show 0 + 6 + 3 + 6 + 3 + 3 + 3 ≤ 60 by omega, show 0 + 52 + 26 + 52 + 26 + 26 + 26 ≤ 500 by omega⟩ (rfl) (⟨rfl, rfl, rfl⟩)
set_option maxHeartbeats 4000000 in
set_option maxRecDepth 100000 in
theorem c_L_isSo (l : Launch) (G : mG) (x : Nat) (ar : Nat → Nat) (N : Nat → Nat) (F : Nat → Nat → Nat) (B : Nat → Int32) (one : Nat) (hst : l.stackTraces = false) (hI : Iv N F) (hJ : Jv N F B) (hone : one < 60000) : QMet l yL_isSo cL_isSo 17 (some FieldType.boolean) ({ frames := 9, cells := 1000, slots := 6000, locals := 154 } : Room) G x ar [.ref x, .ref (ar 0), .ref (ar 1), .ref (ar 2), .ref (ar 3), .ref (ar 4), .ref (ar 5), .ref (ar 6), .ref (ar 7), .ref (ar 9), .int (nI (one))] (N, F, B) (N, F, B) (fun r C' D' => r = some (.int (nI 1)) ∧ (N, F, B) = C' ∧ D' = (N, F, B)) := by
  refine QMet.of (by decide) (Nat.le_of_ble_eq_true rfl) ?_
  intro p e s m args below meth c A ls X hr hlocks hS hZ hN h hl
  have hl : lv_has ls 17 [(0, .ref x), (1, .ref (ar 0)), (2, .ref (ar 1)), (3, .ref (ar 2)), (4, .ref (ar 3)), (5, .ref (ar 4)), (6, .ref (ar 5)), (7, .ref (ar 6)), (8, .ref (ar 7)), (9, .ref (ar 9)), (10, .int (nI (one)))] := hl
  have hn := hI.n
  have h6 := qM.n6 h
  refine lv_iconst (v := nI (1)) X.1 X.2.1 dL_isSo_0 (by decide) ?_
  refine lv_istore (lv' := [(11, .int (nI (1))), (0, .ref x), (1, .ref (ar 0)), (2, .ref (ar 1)), (3, .ref (ar 2)), (4, .ref (ar 3)), (5, .ref (ar 4)), (6, .ref (ar 5)), (7, .ref (ar 6)), (8, .ref (ar 7)), (9, .ref (ar 9)), (10, .int (nI (one)))]) X.1 X.2.1 dL_isSo_1 hl (by decide) rfl (fun ls hl => ?_)
  refine lv_iload X.1 X.2.1 dL_isSo_3 (lv_at hl 11 rfl) ?_
  refine lv_iconst (v := nI (3)) X.1 X.2.1 dL_isSo_5 (by decide) ?_
  refine lv_irem X.1 X.2.1 dL_isSo_6 (by decide) ?_
  refine lv_top (y := nI (one % 3)) (pk_rem (by omega) (by omega) (by omega)) ?_
  refine lv_istore (lv' := [(12, .int (nI (one % 3))), (11, .int (nI (1))), (0, .ref x), (1, .ref (ar 0)), (2, .ref (ar 1)), (3, .ref (ar 2)), (4, .ref (ar 3)), (5, .ref (ar 4)), (6, .ref (ar 5)), (7, .ref (ar 6)), (8, .ref (ar 7)), (9, .ref (ar 9)), (10, .int (nI (one)))]) X.1 X.2.1 dL_isSo_7 hl (by decide) rfl (fun ls hl => ?_)
  have lone : ∀ (n9 : Nat) (j0 : Nat), (N 6 + 3 ≤ j0 + n9) → (j0 < N 6 + 3) → ∀ (H : Heap) (locs : List Loc) (ls : Array Slot), qM G A s x ar (N, F, B) (N, F, B) H locs → lv_has ls 17 [(11, .int (nI (1))), (12, .int (nI (j0))), (0, .ref x), (1, .ref (ar 0)), (2, .ref (ar 1)), (3, .ref (ar 2)), (4, .ref (ar 3)), (5, .ref (ar 4)), (6, .ref (ar 5)), (7, .ref (ar 6)), (8, .ref (ar 7)), (9, .ref (ar 9)), (10, .int (nI (one)))] → W p l e ({ frames := 9, cells := 1000, slots := 6000, locals := 154 } : Room) s m args below meth c H locs (j0) (6 * j0) (QZ G A x ar (fun r C' D' => r = some (.int (nI 1)) ∧ (N, F, B) = C' ∧ D' = (N, F, B)) below args s 1000 6000) (F0 m 9 ls []) := by
    intro n9
    induction n9 with
    | zero => intro j0 hm9 hj0; exact absurd hm9 (by omega)
    | succ n9 ih_lone =>
      intro j0 hm9 hj0 H locs ls h hl
      refine lv_iload X.1 X.2.1 dL_isSo_9 (lv_at hl 1 rfl) ?_
      refine lv_aload X.1 X.2.1 dL_isSo_11 (lv_at hl 11 rfl) ?_
      refine lv_iconst (v := nI (2)) X.1 X.2.1 dL_isSo_13 (by decide) ?_
      refine q_ald X h 9 (by decide) dL_isSo_14 (i := 2) (v := nI (N 6)) rfl (by show _ < 9; omega) (fun V r => LR.g2 r) ?_
      refine b_icmp_ge (tgt := 53) X dL_isSo_15 (by decide) (a := ((j0 : Nat) : Int)) (b := ((N 6 : Nat) : Int)) (nI_ti (by omega)) (nI_ti (by omega)) (fun c1 => ?_) (fun c1 => ?_)
      · skip
        refine lv_iload X.1 X.2.1 dL_isSo_53 (lv_at hl 12 rfl) ?_
        refine lv_aload X.1 X.2.1 dL_isSo_55 (lv_at hl 11 rfl) ?_
        refine lv_iconst (v := nI (3)) X.1 X.2.1 dL_isSo_57 (by decide) ?_
        refine q_ald X h 9 (by decide) dL_isSo_58 (i := 3) (v := nI (N 12)) rfl (by show _ < 9; omega) (fun V r => LR.g3 r) ?_
        refine lv_iconst (v := nI (1)) X.1 X.2.1 dL_isSo_59 (by decide) ?_
        refine lv_iadd X.1 X.2.1 dL_isSo_60 ?_
        refine lv_top (y := nI (N 12 + 1)) (nI_add _ _) ?_
        refine lv_irem X.1 X.2.1 dL_isSo_61 (nI_n0 (by omega) (by omega)) ?_
        refine lv_top (y := nI (one % (N 12 + 1))) (pk_rem (by omega) (by omega) (by omega)) ?_
        have hr2 := Nat.mod_lt one (show 0 < N 12 + 1 by omega)
        generalize one % (N 12 + 1) = r2 at hr2 ⊢
        refine lv_istore (lv' := [(12, .int (nI (r2))), (11, .int (nI (1))), (0, .ref x), (1, .ref (ar 0)), (2, .ref (ar 1)), (3, .ref (ar 2)), (4, .ref (ar 3)), (5, .ref (ar 4)), (6, .ref (ar 5)), (7, .ref (ar 6)), (8, .ref (ar 7)), (9, .ref (ar 9)), (10, .int (nI (one)))]) X.1 X.2.1 dL_isSo_62 hl (by decide) rfl (fun ls hl => ?_)
        refine lv_iconst (v := nI (0)) X.1 X.2.1 dL_isSo_64 (by decide) ?_
        refine lv_istore (lv' := [(13, .int (nI (0))), (12, .int (nI (r2))), (11, .int (nI (1))), (0, .ref x), (1, .ref (ar 0)), (2, .ref (ar 1)), (3, .ref (ar 2)), (4, .ref (ar 3)), (5, .ref (ar 4)), (6, .ref (ar 5)), (7, .ref (ar 6)), (8, .ref (ar 7)), (9, .ref (ar 9)), (10, .int (nI (one)))]) X.1 X.2.1 dL_isSo_65 hl (by decide) rfl (fun ls hl => ?_)
        have ltwo : ∀ (n9 : Nat) (j1 : Nat), (N 1 + 1 ≤ j1 + n9) → (j1 ≤ N 1) → ∀ (H : Heap) (locs : List Loc) (ls : Array Slot), qM G A s x ar (N, F, B) (N, F, B) H locs → lv_has ls 17 [(11, .int (nI (1))), (12, .int (nI (r2))), (13, .int (nI (j1))), (0, .ref x), (1, .ref (ar 0)), (2, .ref (ar 1)), (3, .ref (ar 2)), (4, .ref (ar 3)), (5, .ref (ar 4)), (6, .ref (ar 5)), (7, .ref (ar 6)), (8, .ref (ar 7)), (9, .ref (ar 9)), (10, .int (nI (one)))] → W p l e ({ frames := 9, cells := 1000, slots := 6000, locals := 154 } : Room) s m args below meth c H locs (100 + 10 * j1) (600 + 60 * j1) (QZ G A x ar (fun r C' D' => r = some (.int (nI 1)) ∧ (N, F, B) = C' ∧ D' = (N, F, B)) below args s 1000 6000) (F0 m 67 ls []) := by
          intro n9
          induction n9 with
          | zero => intro j1 hm9 hj1; exact absurd hm9 (by omega)
          | succ n9 ih_ltwo =>
            intro j1 hm9 hj1 H locs ls h hl
            refine lv_iload X.1 X.2.1 dL_isSo_67 (lv_at hl 2 rfl) ?_
            refine lv_aload X.1 X.2.1 dL_isSo_69 (lv_at hl 12 rfl) ?_
            refine lv_iconst (v := nI (1)) X.1 X.2.1 dL_isSo_71 (by decide) ?_
            refine q_ald X h 9 (by decide) dL_isSo_72 (i := 1) (v := nI (N 1)) rfl (by show _ < 9; omega) (fun V r => LR.g1 r) ?_
            refine b_icmp_ge (tgt := 245) X dL_isSo_73 (by decide) (a := ((j1 : Nat) : Int)) (b := ((N 1 : Nat) : Int)) (nI_ti (by omega)) (nI_ti (by omega)) (fun c3 => ?_) (fun c3 => ?_)
            · skip
              refine lv_iconst (v := nI (0)) X.1 X.2.1 dL_isSo_245 (by decide) ?_
              refine lv_istore (lv' := [(13, .int (nI (0))), (11, .int (nI (1))), (12, .int (nI (r2))), (0, .ref x), (1, .ref (ar 0)), (2, .ref (ar 1)), (3, .ref (ar 2)), (4, .ref (ar 3)), (5, .ref (ar 4)), (6, .ref (ar 5)), (7, .ref (ar 6)), (8, .ref (ar 7)), (9, .ref (ar 9)), (10, .int (nI (one)))]) X.1 X.2.1 dL_isSo_246 hl (by decide) rfl (fun ls hl => ?_)
              have lthree : ∀ (n9 : Nat) (k1 : Nat), (N 13 + 1 ≤ k1 + n9) → (k1 ≤ N 13) → ∀ (H : Heap) (locs : List Loc) (ls : Array Slot), qM G A s x ar (N, F, B) (N, F, B) H locs → lv_has ls 17 [(11, .int (nI (1))), (13, .int (nI (k1))), (0, .ref x), (1, .ref (ar 0)), (2, .ref (ar 1)), (3, .ref (ar 2)), (4, .ref (ar 3)), (5, .ref (ar 4)), (6, .ref (ar 5)), (7, .ref (ar 6)), (8, .ref (ar 7)), (9, .ref (ar 9)), (10, .int (nI (one)))] → W p l e ({ frames := 9, cells := 1000, slots := 6000, locals := 154 } : Room) s m args below meth c H locs (300 + 14 * k1) (1600 + 84 * k1) (QZ G A x ar (fun r C' D' => r = some (.int (nI 1)) ∧ (N, F, B) = C' ∧ D' = (N, F, B)) below args s 1000 6000) (F0 m 248 ls []) := by
                intro n9
                induction n9 with
                | zero => intro k1 hm9 hk1; exact absurd hm9 (by omega)
                | succ n9 ih_lthree =>
                  intro k1 hm9 hk1 H locs ls h hl
                  refine lv_iload X.1 X.2.1 dL_isSo_248 (lv_at hl 1 rfl) ?_
                  refine lv_aload X.1 X.2.1 dL_isSo_250 (lv_at hl 11 rfl) ?_
                  refine lv_iconst (v := nI (4)) X.1 X.2.1 dL_isSo_252 (by decide) ?_
                  refine q_ald X h 9 (by decide) dL_isSo_253 (i := 4) (v := nI (N 13)) rfl (by show _ < 9; omega) (fun V r => LR.g4 r) ?_
                  refine b_icmp_ge (tgt := 453) X dL_isSo_254 (by decide) (a := ((k1 : Nat) : Int)) (b := ((N 13 : Nat) : Int)) (nI_ti (by omega)) (nI_ti (by omega)) (fun c4 => ?_) (fun c4 => ?_)
                  · skip
                    refine lv_iload X.1 X.2.1 dL_isSo_453 (lv_at hl 0 rfl) ?_
                    refine b_if_eq (tgt := 515) X dL_isSo_455 (by decide) (a := ((1 : Nat) : Int)) (nI_ti (by omega)) (fun c5 => ?_) (fun c5 => ?_)
                    · skip
                      exact absurd c5 (by first | decide | omega)
                    · skip
                      refine lv_aload_n X.1 X.2.1 dL_isSo_458 rfl (lv_at hl 2 rfl) ?_
                      refine lv_bipush (v := nI (11)) X.1 X.2.1 dL_isSo_459 (by decide) ?_
                      refine lv_aload X.1 X.2.1 dL_isSo_461 (lv_at hl 11 rfl) ?_
                      refine lv_iconst (v := nI (3)) X.1 X.2.1 dL_isSo_463 (by decide) ?_
                      refine q_ald X h 9 (by decide) dL_isSo_464 (i := 3) (v := nI (N 12)) rfl (by show _ < 9; omega) (fun V r => LR.g3 r) ?_
                      refine lv_iconst (v := nI (1)) X.1 X.2.1 dL_isSo_465 (by decide) ?_
                      refine lv_iadd X.1 X.2.1 dL_isSo_466 ?_
                      refine lv_top (y := nI (N 12 + 1)) (nI_add _ _) ?_
                      refine lv_iconst (v := nI (0)) X.1 X.2.1 dL_isSo_467 (by decide) ?_
                      refine lv_iconst (v := nI (0)) X.1 X.2.1 dL_isSo_468 (by decide) ?_
                      refine q_callL X hS hZ hN h kcw_L_does kini_L (by decide) kar_L_does kml_L_does kst_L_does dL_isSo_469 (As := [.ref x, .int (nI (11)), .int (nI (N 12 + 1)), .int (nI (0)), .int (nI (0))]) ((c_L_does_ranked l G x ar N F B (N, F, B) (nI (N 12 + 1)) (nI (0)) (nI (0)) hst hI).k (k := 1) (kRanked_1 (N := N) (by omega) _ _) (w := (-3000000)) rfl (C2 := (N, F, B)) rfl) rfl hl rfl (Nat.le_of_ble_eq_true rfl) ⟨Nat.le_of_ble_eq_true rfl, Nat.le_of_ble_eq_true rfl⟩ ⟨show 300 + 14 * k1 + 3 ≤ 1000 by omega, show 1600 + 84 * k1 + 18 ≤ 6000 by omega⟩ ?_
                      rintro _ _ _ H locs ⟨rfl, rfl, rfl⟩ h
                      refine lv_ldc (own := RL) (index := 64) (v := (-3000000)) X.1 X.2.1 X.2.2.2.1 (X.2.2.2.2.1.use kco_L_64) dL_isSo_472 ?_
                      refine b_icmp_ne (tgt := 515) X dL_isSo_474 (by decide) (a := (-3000000)) (b := (-3000000)) ((by decide)) ((by decide)) (fun c6 => ?_) (fun c6 => ?_)
                      · skip
                        exact absurd c6 (by first | decide | omega)
                      · skip
                        refine lv_aload_n X.1 X.2.1 dL_isSo_477 rfl (lv_at hl 2 rfl) ?_
                        refine lv_bipush (v := nI (12)) X.1 X.2.1 dL_isSo_478 (by decide) ?_
                        refine lv_aload X.1 X.2.1 dL_isSo_480 (lv_at hl 11 rfl) ?_
                        refine lv_iconst (v := nI (4)) X.1 X.2.1 dL_isSo_482 (by decide) ?_
                        refine q_ald X h 9 (by decide) dL_isSo_483 (i := 4) (v := nI (N 13)) rfl (by show _ < 9; omega) (fun V r => LR.g4 r) ?_
                        refine lv_iconst (v := nI (0)) X.1 X.2.1 dL_isSo_484 (by decide) ?_
                        refine lv_iconst (v := nI (0)) X.1 X.2.1 dL_isSo_485 (by decide) ?_
                        refine q_callL X hS hZ hN h kcw_L_does kini_L (by decide) kar_L_does kml_L_does kst_L_does dL_isSo_486 (As := [.ref x, .int (nI (12)), .int (nI (N 13)), .int (nI (0)), .int (nI (0))]) ((c_L_does_skinOf l G x ar N F B (N, F, B) (nI (N 13)) (nI (0)) (nI (0)) hst hI hJ).k (k := 1) (kSkinOf_1 (N := N) (by omega) _) (w := (-3000000)) rfl (C2 := (N, F, B)) rfl) rfl hl rfl (Nat.le_of_ble_eq_true rfl) ⟨Nat.le_of_ble_eq_true rfl, Nat.le_of_ble_eq_true rfl⟩ ⟨show 300 + 14 * k1 + 3 + 2 ≤ 1000 by omega, show 1600 + 84 * k1 + 18 + 12 ≤ 6000 by omega⟩ ?_
                        rintro _ _ _ H locs ⟨rfl, rfl, rfl⟩ h
                        refine lv_ldc (own := RL) (index := 64) (v := (-3000000)) X.1 X.2.1 X.2.2.2.1 (X.2.2.2.2.1.use kco_L_64) dL_isSo_489 ?_
                        refine b_icmp_ne (tgt := 515) X dL_isSo_491 (by decide) (a := (-3000000)) (b := (-3000000)) ((by decide)) ((by decide)) (fun c7 => ?_) (fun c7 => ?_)
                        · skip
                          exact absurd c7 (by first | decide | omega)
                        · skip
                          refine lv_aload_n X.1 X.2.1 dL_isSo_494 rfl (lv_at hl 2 rfl) ?_
                          refine lv_bipush (v := nI (10)) X.1 X.2.1 dL_isSo_495 (by decide) ?_
                          refine lv_aload X.1 X.2.1 dL_isSo_497 (lv_at hl 11 rfl) ?_
                          refine lv_iconst (v := nI (2)) X.1 X.2.1 dL_isSo_499 (by decide) ?_
                          refine q_ald X h 9 (by decide) dL_isSo_500 (i := 2) (v := nI (N 6)) rfl (by show _ < 9; omega) (fun V r => LR.g2 r) ?_
                          refine lv_iconst (v := nI (0)) X.1 X.2.1 dL_isSo_501 (by decide) ?_
                          refine lv_iconst (v := nI (0)) X.1 X.2.1 dL_isSo_502 (by decide) ?_
                          refine q_callL X hS hZ hN h kcw_L_does kini_L (by decide) kar_L_does kml_L_does kst_L_does dL_isSo_503 (As := [.ref x, .int (nI (10)), .int (nI (N 6)), .int (nI (0)), .int (nI (0))]) ((c_L_does_stands l G x ar N F B (N, F, B) (nI (N 6)) (nI (0)) (nI (0)) hst hI).k (k := 1) (kOne_1 (by omega)) (w := (-3000000)) rfl (C2 := (N, F, B)) rfl) rfl hl rfl (Nat.le_of_ble_eq_true rfl) ⟨Nat.le_of_ble_eq_true rfl, Nat.le_of_ble_eq_true rfl⟩ ⟨show 300 + 14 * k1 + 3 + 2 + 1 ≤ 1000 by omega, show 1600 + 84 * k1 + 18 + 12 + 6 ≤ 6000 by omega⟩ ?_
                          rintro _ _ _ H locs ⟨rfl, rfl, rfl⟩ h
                          refine lv_ldc (own := RL) (index := 64) (v := (-3000000)) X.1 X.2.1 X.2.2.2.1 (X.2.2.2.2.1.use kco_L_64) dL_isSo_506 ?_
                          refine b_icmp_ne (tgt := 515) X dL_isSo_508 (by decide) (a := (-3000000)) (b := (-3000000)) ((by decide)) ((by decide)) (fun c8 => ?_) (fun c8 => ?_)
                          · skip
                            exact absurd c8 (by first | decide | omega)
                          · skip
                            refine lv_iconst (v := nI (1)) X.1 X.2.1 dL_isSo_511 (by decide) ?_
                            refine lv_goto (tgt := 516) X.1 X.2.1 dL_isSo_512 (by decide) ?_
                            exact q_zret X hr hlocks h dL_isSo_516 ⟨show 300 + 14 * k1 + 3 + 2 + 1 ≤ 1000 by omega, show 1600 + 84 * k1 + 18 + 12 + 6 ≤ 6000 by omega⟩ (rfl) (⟨rfl, rfl, rfl⟩)
                  · skip
                    refine lv_iload X.1 X.2.1 dL_isSo_257 (lv_at hl 0 rfl) ?_
                    refine b_if_eq (tgt := 453) X dL_isSo_259 (by decide) (a := ((1 : Nat) : Int)) (nI_ti (by omega)) (fun c9 => ?_) (fun c9 => ?_)
                    · skip
                      exact absurd c9 (by first | decide | omega)
                    · skip
                      refine lv_aload X.1 X.2.1 dL_isSo_262 (lv_at hl 7 rfl) ?_
                      refine lv_iload X.1 X.2.1 dL_isSo_264 (lv_at hl 1 rfl) ?_
                      refine q_ald X h 4 (by decide) dL_isSo_266 (i := k1) (v := nI (hvS F k1)) rfl (by show _ < 36; omega) (fun V r => LR.h4 r (by omega)) ?_
                      have b10 := hv_b hI (show k1 < N 13 by omega)
                      refine lv_bipush (v := nI (32)) X.1 X.2.1 dL_isSo_267 (by decide) ?_
                      refine lv_idiv X.1 X.2.1 dL_isSo_269 (by decide) ?_
                      refine lv_top (y := nI ((hvS F k1) / 32)) (pk_div (by omega) (by omega) (by omega)) ?_
                      refine lv_bipush (v := nI (32)) X.1 X.2.1 dL_isSo_270 (by decide) ?_
                      refine lv_irem X.1 X.2.1 dL_isSo_272 (by decide) ?_
                      refine lv_top (y := nI (F 17 k1)) ((pk_rem (by omega) (by omega) (by omega)).trans (congrArg nI b10.2.2.1)) ?_
                      refine lv_iconst (v := nI (1)) X.1 X.2.1 dL_isSo_273 (by decide) ?_
                      refine lv_isub X.1 X.2.1 dL_isSo_274 ?_
                      refine lv_top (y := nI (F 17 k1) - 1) rfl ?_
                      refine lv_istore (lv' := [(14, .int (nI (F 17 k1) - 1)), (11, .int (nI (1))), (13, .int (nI (k1))), (0, .ref x), (1, .ref (ar 0)), (2, .ref (ar 1)), (3, .ref (ar 2)), (4, .ref (ar 3)), (5, .ref (ar 4)), (6, .ref (ar 5)), (7, .ref (ar 6)), (8, .ref (ar 7)), (9, .ref (ar 9)), (10, .int (nI (one)))]) X.1 X.2.1 dL_isSo_275 hl (by decide) rfl (fun ls hl => ?_)
                      refine lv_aload X.1 X.2.1 dL_isSo_277 (lv_at hl 8 rfl) ?_
                      refine lv_iload X.1 X.2.1 dL_isSo_279 (lv_at hl 2 rfl) ?_
                      refine q_ald X h 4 (by decide) dL_isSo_281 (i := k1) (v := nI (hvS F k1)) rfl (by show _ < 36; omega) (fun V r => LR.h4 r (by omega)) ?_
                      have b11 := hv_b hI (show k1 < N 13 by omega)
                      refine lv_sipush (v := nI (1024)) X.1 X.2.1 dL_isSo_282 (by decide) ?_
                      refine lv_idiv X.1 X.2.1 dL_isSo_285 (by decide) ?_
                      refine lv_top (y := nI (F 18 k1)) ((pk_div (by omega) (by omega) (by omega)).trans (congrArg nI b11.2.2.2.1)) ?_
                      refine lv_iconst (v := nI (1)) X.1 X.2.1 dL_isSo_286 (by decide) ?_
                      refine lv_isub X.1 X.2.1 dL_isSo_287 ?_
                      refine lv_top (y := nI (F 18 k1) - 1) rfl ?_
                      refine lv_istore (lv' := [(15, .int (nI (F 18 k1) - 1)), (14, .int (nI (F 17 k1) - 1)), (11, .int (nI (1))), (13, .int (nI (k1))), (0, .ref x), (1, .ref (ar 0)), (2, .ref (ar 1)), (3, .ref (ar 2)), (4, .ref (ar 3)), (5, .ref (ar 4)), (6, .ref (ar 5)), (7, .ref (ar 6)), (8, .ref (ar 7)), (9, .ref (ar 9)), (10, .int (nI (one)))]) X.1 X.2.1 dL_isSo_288 hl (by decide) rfl (fun ls hl => ?_)
                      have K319 : ∀ (H : Heap) (locs : List Loc) (ls : Array Slot), qM G A s x ar (N, F, B) (N, F, B) H locs → lv_has ls 17 [(15, .int (nI (F 18 k1) - 1)), (14, .int (nI (F 17 k1) - 1)), (11, .int (nI (1))), (13, .int (nI (k1))), (0, .ref x), (1, .ref (ar 0)), (2, .ref (ar 1)), (3, .ref (ar 2)), (4, .ref (ar 3)), (5, .ref (ar 4)), (6, .ref (ar 5)), (7, .ref (ar 6)), (8, .ref (ar 7)), (9, .ref (ar 9)), (10, .int (nI (one)))] → W p l e ({ frames := 9, cells := 1000, slots := 6000, locals := 154 } : Room) s m args below meth c H locs (300 + 14 * k1) (1600 + 84 * k1) (QZ G A x ar (fun r C' D' => r = some (.int (nI 1)) ∧ (N, F, B) = C' ∧ D' = (N, F, B)) below args s 1000 6000) (F0 m 319 ls [.int (nI (userS N F k1) - 1)]) := by
                        intro  H locs ls h hl
                        have hus : userS N F k1 ≤ 16 := by unfold userS; split <;> omega
                        refine lv_istore (lv' := [(16, .int (nI (userS N F k1) - 1)), (15, .int (nI (F 18 k1) - 1)), (14, .int (nI (F 17 k1) - 1)), (11, .int (nI (1))), (13, .int (nI (k1))), (0, .ref x), (1, .ref (ar 0)), (2, .ref (ar 1)), (3, .ref (ar 2)), (4, .ref (ar 3)), (5, .ref (ar 4)), (6, .ref (ar 5)), (7, .ref (ar 6)), (8, .ref (ar 7)), (9, .ref (ar 9)), (10, .int (nI (one)))]) X.1 X.2.1 dL_isSo_319 hl (by decide) rfl (fun ls hl => ?_)
                        refine lv_aload_n X.1 X.2.1 dL_isSo_321 rfl (lv_at hl 5 rfl) ?_
                        refine lv_iload X.1 X.2.1 dL_isSo_322 (lv_at hl 4 rfl) ?_
                        refine lv_iconst (v := nI (0)) X.1 X.2.1 dL_isSo_324 (by decide) ?_
                        refine q_callX (C1 := (N, F, B)) (v := nI (F 17 k1) - 1) X hS hZ h ck_L_52 ki_X6_skinOf ks_X6_skinOf dL_isSo_325 (As := [.int (nI (k1)), .int (nI (0))]) (fun MC cs => x_skinOf (N := N) (F := F) (B := B) (w := 0) cs hst hI hJ (by omega) (by omega)) (no_2 (kSkinOf_0 (N := N) (by omega) (by omega) (by omega))) rfl hl rfl (Nat.le_of_ble_eq_true rfl) ⟨Nat.le_of_ble_eq_true rfl, Nat.le_of_ble_eq_true rfl⟩ ⟨show 300 + 14 * k1 + 2 ≤ 1000 by omega, show 1600 + 84 * k1 + 12 ≤ 6000 by omega⟩ (fun H locs h => ?_)
                        refine lv_iload X.1 X.2.1 dL_isSo_328 (lv_at hl 2 rfl) ?_
                        refine b_icmp_ne (tgt := 444) X dL_isSo_330 (by decide) (a := ((F 17 k1 : Nat) : Int) - 1) (b := ((F 17 k1 : Nat) : Int) - 1) (eI_ti (by omega)) (eI_ti (by omega)) (fun c12 => ?_) (fun c12 => ?_)
                        · skip
                          exact absurd c12 (by first | decide | omega)
                        · skip
                          refine lv_aload_n X.1 X.2.1 dL_isSo_333 rfl (lv_at hl 5 rfl) ?_
                          refine lv_iload X.1 X.2.1 dL_isSo_334 (lv_at hl 4 rfl) ?_
                          refine lv_iconst (v := nI (1)) X.1 X.2.1 dL_isSo_336 (by decide) ?_
                          refine q_callX (C1 := (N, F, B)) (v := nI (F 16 k1) - 1) X hS hZ h ck_L_52 ki_X6_skinOf ks_X6_skinOf dL_isSo_337 (As := [.int (nI (k1)), .int (nI (1))]) (fun MC cs => x_skinOf (N := N) (F := F) (B := B) (w := 1) cs hst hI hJ (by omega) (by omega)) (no_2 (kSkinOf_0 (N := N) (by omega) (by omega) (by omega))) rfl hl rfl (Nat.le_of_ble_eq_true rfl) ⟨Nat.le_of_ble_eq_true rfl, Nat.le_of_ble_eq_true rfl⟩ ⟨show 300 + 14 * k1 + 2 + 2 ≤ 1000 by omega, show 1600 + 84 * k1 + 12 + 12 ≤ 6000 by omega⟩ (fun H locs h => ?_)
                          refine lv_aload X.1 X.2.1 dL_isSo_340 (lv_at hl 10 rfl) ?_
                          refine lv_iload X.1 X.2.1 dL_isSo_342 (lv_at hl 4 rfl) ?_
                          refine q_ald X h 4 (by decide) dL_isSo_344 (i := k1) (v := nI (hvS F k1)) rfl (by show _ < 36; omega) (fun V r => LR.h4 r (by omega)) ?_
                          have b13 := hv_b hI (show k1 < N 13 by omega)
                          refine lv_bipush (v := nI (32)) X.1 X.2.1 dL_isSo_345 (by decide) ?_
                          refine lv_irem X.1 X.2.1 dL_isSo_347 (by decide) ?_
                          refine lv_top (y := nI (F 16 k1)) ((pk_rem (by omega) (by omega) (by omega)).trans (congrArg nI b13.2.1)) ?_
                          refine lv_iconst (v := nI (1)) X.1 X.2.1 dL_isSo_348 (by decide) ?_
                          refine lv_isub X.1 X.2.1 dL_isSo_349 ?_
                          refine lv_top (y := nI (F 16 k1) - 1) rfl ?_
                          refine b_icmp_ne (tgt := 444) X dL_isSo_350 (by decide) (a := ((F 16 k1 : Nat) : Int) - 1) (b := ((F 16 k1 : Nat) : Int) - 1) (eI_ti (by omega)) (eI_ti (by omega)) (fun c14 => ?_) (fun c14 => ?_)
                          · skip
                            exact absurd c14 (by first | decide | omega)
                          · skip
                            refine lv_aload_n X.1 X.2.1 dL_isSo_353 rfl (lv_at hl 5 rfl) ?_
                            refine lv_iload X.1 X.2.1 dL_isSo_354 (lv_at hl 4 rfl) ?_
                            refine lv_iconst (v := nI (2)) X.1 X.2.1 dL_isSo_356 (by decide) ?_
                            refine q_callX (C1 := (N, F, B)) (v := nI (userS N F k1) - 1) X hS hZ h ck_L_52 ki_X6_skinOf ks_X6_skinOf dL_isSo_357 (As := [.int (nI (k1)), .int (nI (2))]) (fun MC cs => x_skinOf (N := N) (F := F) (B := B) (w := 2) cs hst hI hJ (by omega) (by omega)) (no_2 (kSkinOf_0 (N := N) (by omega) (by omega) (by omega))) rfl hl rfl (Nat.le_of_ble_eq_true rfl) ⟨Nat.le_of_ble_eq_true rfl, Nat.le_of_ble_eq_true rfl⟩ ⟨show 300 + 14 * k1 + 2 + 2 + 2 ≤ 1000 by omega, show 1600 + 84 * k1 + 12 + 12 + 12 ≤ 6000 by omega⟩ (fun H locs h => ?_)
                            refine lv_iload X.1 X.2.1 dL_isSo_360 (lv_at hl 0 rfl) ?_
                            refine b_icmp_ne (tgt := 444) X dL_isSo_362 (by decide) (a := ((userS N F k1 : Nat) : Int) - 1) (b := ((userS N F k1 : Nat) : Int) - 1) (eI_ti (by omega)) (eI_ti (by omega)) (fun c15 => ?_) (fun c15 => ?_)
                            · skip
                              exact absurd c15 (by first | decide | omega)
                            · skip
                              refine lv_aload_n X.1 X.2.1 dL_isSo_365 rfl (lv_at hl 5 rfl) ?_
                              refine lv_iload X.1 X.2.1 dL_isSo_366 (lv_at hl 4 rfl) ?_
                              refine lv_iconst (v := nI (3)) X.1 X.2.1 dL_isSo_368 (by decide) ?_
                              refine q_callX (C1 := (N, F, B)) (v := nI (F 14 k1)) X hS hZ h ck_L_52 ki_X6_skinOf ks_X6_skinOf dL_isSo_369 (As := [.int (nI (k1)), .int (nI (3))]) (fun MC cs => x_skinOf (N := N) (F := F) (B := B) (w := 3) cs hst hI hJ (by omega) (by omega)) (no_2 (kSkinOf_0 (N := N) (by omega) (by omega) (by omega))) rfl hl rfl (Nat.le_of_ble_eq_true rfl) ⟨Nat.le_of_ble_eq_true rfl, Nat.le_of_ble_eq_true rfl⟩ ⟨show 300 + 14 * k1 + 2 + 2 + 2 + 2 ≤ 1000 by omega, show 1600 + 84 * k1 + 12 + 12 + 12 + 12 ≤ 6000 by omega⟩ (fun H locs h => ?_)
                              refine lv_aload X.1 X.2.1 dL_isSo_372 (lv_at hl 9 rfl) ?_
                              refine lv_iload X.1 X.2.1 dL_isSo_374 (lv_at hl 4 rfl) ?_
                              refine q_ald X h 3 (by decide) dL_isSo_376 (i := k1) (v := nI (kvS F k1)) rfl (by show _ < 36; omega) (fun V r => LR.k3 r (by omega)) ?_
                              have b16 := kv_b hI (show k1 < N 13 by omega)
                              refine lv_bipush (v := nI (16)) X.1 X.2.1 dL_isSo_377 (by decide) ?_
                              refine lv_irem X.1 X.2.1 dL_isSo_379 (by decide) ?_
                              refine lv_top (y := nI (F 14 k1)) ((pk_rem (by omega) (by omega) (by omega)).trans (congrArg nI b16.2.1)) ?_
                              refine b_icmp_ne (tgt := 444) X dL_isSo_380 (by decide) (a := ((F 14 k1 : Nat) : Int)) (b := ((F 14 k1 : Nat) : Int)) (nI_ti (by omega)) (nI_ti (by omega)) (fun c17 => ?_) (fun c17 => ?_)
                              · skip
                                exact absurd c17 (by first | decide | omega)
                              · skip
                                refine lv_aload_n X.1 X.2.1 dL_isSo_383 rfl (lv_at hl 5 rfl) ?_
                                refine lv_iload X.1 X.2.1 dL_isSo_384 (lv_at hl 4 rfl) ?_
                                refine lv_iconst (v := nI (4)) X.1 X.2.1 dL_isSo_386 (by decide) ?_
                                refine q_callX (C1 := (N, F, B)) (v := nI (F 15 k1)) X hS hZ h ck_L_52 ki_X6_skinOf ks_X6_skinOf dL_isSo_387 (As := [.int (nI (k1)), .int (nI (4))]) (fun MC cs => x_skinOf (N := N) (F := F) (B := B) (w := 4) cs hst hI hJ (by omega) (by omega)) (no_2 (kSkinOf_0 (N := N) (by omega) (by omega) (by omega))) rfl hl rfl (Nat.le_of_ble_eq_true rfl) ⟨Nat.le_of_ble_eq_true rfl, Nat.le_of_ble_eq_true rfl⟩ ⟨show 300 + 14 * k1 + 2 + 2 + 2 + 2 + 2 ≤ 1000 by omega, show 1600 + 84 * k1 + 12 + 12 + 12 + 12 + 12 ≤ 6000 by omega⟩ (fun H locs h => ?_)
                                refine lv_aload X.1 X.2.1 dL_isSo_390 (lv_at hl 9 rfl) ?_
                                refine lv_iload X.1 X.2.1 dL_isSo_392 (lv_at hl 4 rfl) ?_
                                refine q_ald X h 3 (by decide) dL_isSo_394 (i := k1) (v := nI (kvS F k1)) rfl (by show _ < 36; omega) (fun V r => LR.k3 r (by omega)) ?_
                                have b18 := kv_b hI (show k1 < N 13 by omega)
                                refine lv_bipush (v := nI (16)) X.1 X.2.1 dL_isSo_395 (by decide) ?_
                                refine lv_idiv X.1 X.2.1 dL_isSo_397 (by decide) ?_
                                refine lv_top (y := nI (F 15 k1)) ((pk_div (by omega) (by omega) (by omega)).trans (congrArg nI b18.2.2.1)) ?_
                                refine b_icmp_ne (tgt := 444) X dL_isSo_398 (by decide) (a := ((F 15 k1 : Nat) : Int)) (b := ((F 15 k1 : Nat) : Int)) (nI_ti (by omega)) (nI_ti (by omega)) (fun c19 => ?_) (fun c19 => ?_)
                                · skip
                                  exact absurd c19 (by first | decide | omega)
                                · skip
                                  refine lv_aload_n X.1 X.2.1 dL_isSo_401 rfl (lv_at hl 5 rfl) ?_
                                  refine lv_iload X.1 X.2.1 dL_isSo_402 (lv_at hl 4 rfl) ?_
                                  refine lv_iconst (v := nI (5)) X.1 X.2.1 dL_isSo_404 (by decide) ?_
                                  refine q_callX (C1 := (N, F, B)) (v := nI (F 21 k1)) X hS hZ h ck_L_52 ki_X6_skinOf ks_X6_skinOf dL_isSo_405 (As := [.int (nI (k1)), .int (nI (5))]) (fun MC cs => x_skinOf (N := N) (F := F) (B := B) (w := 5) cs hst hI hJ (by omega) (by omega)) (no_2 (kSkinOf_0 (N := N) (by omega) (by omega) (by omega))) rfl hl rfl (Nat.le_of_ble_eq_true rfl) ⟨Nat.le_of_ble_eq_true rfl, Nat.le_of_ble_eq_true rfl⟩ ⟨show 300 + 14 * k1 + 2 + 2 + 2 + 2 + 2 + 2 ≤ 1000 by omega, show 1600 + 84 * k1 + 12 + 12 + 12 + 12 + 12 + 12 ≤ 6000 by omega⟩ (fun H locs h => ?_)
                                  refine lv_aload X.1 X.2.1 dL_isSo_408 (lv_at hl 13 rfl) ?_
                                  refine lv_iload X.1 X.2.1 dL_isSo_410 (lv_at hl 4 rfl) ?_
                                  refine q_ald X h 7 (by decide) dL_isSo_412 (i := k1) (v := nI (F 21 (k1))) rfl (by show _ < 36; omega) (fun V r => LR.n7 r (by omega) (by omega)) ?_
                                  have b20 := hI.k (k := k1) (by omega)
                                  refine b_icmp_ne (tgt := 444) X dL_isSo_413 (by decide) (a := ((F 21 k1 : Nat) : Int)) (b := ((F 21 (k1) : Nat) : Int)) (nI_ti (by omega)) (nI_ti (by omega)) (fun c21 => ?_) (fun c21 => ?_)
                                  · skip
                                    exact absurd c21 (by first | decide | omega)
                                  · skip
                                    have hfs := fS_sp F k1
                                    refine lv_aload_n X.1 X.2.1 dL_isSo_416 rfl (lv_at hl 5 rfl) ?_
                                    refine lv_iload X.1 X.2.1 dL_isSo_417 (lv_at hl 4 rfl) ?_
                                    refine lv_bipush (v := nI (6)) X.1 X.2.1 dL_isSo_419 (by decide) ?_
                                    refine q_callX (C1 := (N, F, B)) (v := nI (fS F k1)) X hS hZ h ck_L_52 ki_X6_skinOf ks_X6_skinOf dL_isSo_421 (As := [.int (nI (k1)), .int (nI (6))]) (fun MC cs => x_skinOf (N := N) (F := F) (B := B) (w := 6) cs hst hI hJ (by omega) (by omega)) (no_2 (kSkinOf_0 (N := N) (by omega) (by omega) (by omega))) rfl hl rfl (Nat.le_of_ble_eq_true rfl) ⟨Nat.le_of_ble_eq_true rfl, Nat.le_of_ble_eq_true rfl⟩ ⟨show 300 + 14 * k1 + 2 + 2 + 2 + 2 + 2 + 2 + 2 ≤ 1000 by omega, show 1600 + 84 * k1 + 12 + 12 + 12 + 12 + 12 + 12 + 12 ≤ 6000 by omega⟩ (fun H locs h => ?_)
                                    refine lv_aload X.1 X.2.1 dL_isSo_424 (lv_at hl 12 rfl) ?_
                                    refine lv_iload X.1 X.2.1 dL_isSo_426 (lv_at hl 4 rfl) ?_
                                    refine q_ald X h 6 (by decide) dL_isSo_428 (i := k1) (v := nI (F 20 (k1))) rfl (by show _ < 36; omega) (fun V r => LR.f6 r (by omega) (by omega)) ?_
                                    have b22 := hI.k (k := k1) (by omega)
                                    refine b_if_le (tgt := 436) X dL_isSo_429 (by decide) (a := ((F 20 (k1) : Nat) : Int)) (nI_ti (by omega)) (fun c23 => ?_) (fun c23 => ?_)
                                    · skip
                                      refine lv_iconst (v := nI (0)) X.1 X.2.1 dL_isSo_436 (by decide) ?_
                                      refine b_icmp_ne (tgt := 444) X dL_isSo_437 (by decide) (a := ((fS F k1 : Nat) : Int)) (b := ((0 : Nat) : Int)) (nI_ti (by omega)) (nI_ti (by omega)) (fun c24 => ?_) (fun c24 => ?_)
                                      · skip
                                        exact absurd c24 (by omega)
                                      · skip
                                        refine lv_iconst (v := nI (1)) X.1 X.2.1 dL_isSo_440 (by decide) ?_
                                        refine lv_goto (tgt := 445) X.1 X.2.1 dL_isSo_441 (by decide) ?_
                                        refine lv_istore (lv' := [(11, .int (nI (1))), (16, .int (nI (userS N F k1) - 1)), (15, .int (nI (F 18 k1) - 1)), (14, .int (nI (F 17 k1) - 1)), (13, .int (nI (k1))), (0, .ref x), (1, .ref (ar 0)), (2, .ref (ar 1)), (3, .ref (ar 2)), (4, .ref (ar 3)), (5, .ref (ar 4)), (6, .ref (ar 5)), (7, .ref (ar 6)), (8, .ref (ar 7)), (9, .ref (ar 9)), (10, .int (nI (one)))]) X.1 X.2.1 dL_isSo_445 hl (by decide) rfl (fun ls hl => ?_)
                                        refine lv_iinc (v := nI (k1 + 1)) (lv' := [(13, .int (nI (k1 + 1))), (11, .int (nI (1))), (16, .int (nI (userS N F k1) - 1)), (15, .int (nI (F 18 k1) - 1)), (14, .int (nI (F 17 k1) - 1)), (0, .ref x), (1, .ref (ar 0)), (2, .ref (ar 1)), (3, .ref (ar 2)), (4, .ref (ar 3)), (5, .ref (ar 4)), (6, .ref (ar 5)), (7, .ref (ar 6)), (8, .ref (ar 7)), (9, .ref (ar 9)), (10, .int (nI (one)))]) X.1 X.2.1 dL_isSo_447 hl (k := 4) rfl (nI_add (k1) 1) (by decide) rfl (fun ls hl => ?_)
                                        refine lv_goto (tgt := 248) X.1 X.2.1 dL_isSo_450 (by decide) ?_
                                        refine W.widen (k := 300 + 14 * (k1 + 1)) (n := 1600 + 84 * (k1 + 1)) (show 300 + 14 * k1 + 2 + 2 + 2 + 2 + 2 + 2 + 2 ≤ 300 + 14 * (k1 + 1) by omega) (show 1600 + 84 * k1 + 12 + 12 + 12 + 12 + 12 + 12 + 12 ≤ 1600 + 84 * (k1 + 1) by omega) ?_
                                        exact ih_lthree (k1 + 1) (by omega) (by omega) _ _ _ h (lv_sub hl [1, 0, 5, 6, 7, 8, 9, 10, 11, 12, 13, 14, 15] rfl)
                                    · skip
                                      refine lv_iconst (v := nI (1)) X.1 X.2.1 dL_isSo_432 (by decide) ?_
                                      refine lv_goto (tgt := 437) X.1 X.2.1 dL_isSo_433 (by decide) ?_
                                      refine b_icmp_ne (tgt := 444) X dL_isSo_437 (by decide) (a := ((fS F k1 : Nat) : Int)) (b := ((1 : Nat) : Int)) (nI_ti (by omega)) (nI_ti (by omega)) (fun c25 => ?_) (fun c25 => ?_)
                                      · skip
                                        exact absurd c25 (by omega)
                                      · skip
                                        refine lv_iconst (v := nI (1)) X.1 X.2.1 dL_isSo_440 (by decide) ?_
                                        refine lv_goto (tgt := 445) X.1 X.2.1 dL_isSo_441 (by decide) ?_
                                        refine lv_istore (lv' := [(11, .int (nI (1))), (16, .int (nI (userS N F k1) - 1)), (15, .int (nI (F 18 k1) - 1)), (14, .int (nI (F 17 k1) - 1)), (13, .int (nI (k1))), (0, .ref x), (1, .ref (ar 0)), (2, .ref (ar 1)), (3, .ref (ar 2)), (4, .ref (ar 3)), (5, .ref (ar 4)), (6, .ref (ar 5)), (7, .ref (ar 6)), (8, .ref (ar 7)), (9, .ref (ar 9)), (10, .int (nI (one)))]) X.1 X.2.1 dL_isSo_445 hl (by decide) rfl (fun ls hl => ?_)
                                        refine lv_iinc (v := nI (k1 + 1)) (lv' := [(13, .int (nI (k1 + 1))), (11, .int (nI (1))), (16, .int (nI (userS N F k1) - 1)), (15, .int (nI (F 18 k1) - 1)), (14, .int (nI (F 17 k1) - 1)), (0, .ref x), (1, .ref (ar 0)), (2, .ref (ar 1)), (3, .ref (ar 2)), (4, .ref (ar 3)), (5, .ref (ar 4)), (6, .ref (ar 5)), (7, .ref (ar 6)), (8, .ref (ar 7)), (9, .ref (ar 9)), (10, .int (nI (one)))]) X.1 X.2.1 dL_isSo_447 hl (k := 4) rfl (nI_add (k1) 1) (by decide) rfl (fun ls hl => ?_)
                                        refine lv_goto (tgt := 248) X.1 X.2.1 dL_isSo_450 (by decide) ?_
                                        refine W.widen (k := 300 + 14 * (k1 + 1)) (n := 1600 + 84 * (k1 + 1)) (show 300 + 14 * k1 + 2 + 2 + 2 + 2 + 2 + 2 + 2 ≤ 300 + 14 * (k1 + 1) by omega) (show 1600 + 84 * k1 + 12 + 12 + 12 + 12 + 12 + 12 + 12 ≤ 1600 + 84 * (k1 + 1) by omega) ?_
                                        exact ih_lthree (k1 + 1) (by omega) (by omega) _ _ _ h (lv_sub hl [1, 0, 5, 6, 7, 8, 9, 10, 11, 12, 13, 14, 15] rfl)
                      refine lv_iload X.1 X.2.1 dL_isSo_290 (lv_at hl 1 rfl) ?_
                      refine b_if_lt (tgt := 317) X dL_isSo_292 (by decide) (a := ((F 17 k1 : Nat) : Int) - 1) (eI_ti (by omega)) (fun c26 => ?_) (fun c26 => ?_)
                      · skip
                        refine lv_iload X.1 X.2.1 dL_isSo_317 (lv_at hl 1 rfl) ?_
                        refine lv_top (y := nI (userS N F k1) - 1) (by rw [userS, if_neg (by omega)]) ?_
                        exact K319   _ _ _ h (lv_sub hl [0, 1, 2, 3, 4, 5, 6, 7, 8, 9, 10, 11, 12, 13, 14] rfl)
                      · skip
                        refine lv_iload X.1 X.2.1 dL_isSo_295 (lv_at hl 0 rfl) ?_
                        refine b_if_lt (tgt := 317) X dL_isSo_297 (by decide) (a := ((F 18 k1 : Nat) : Int) - 1) (eI_ti (by omega)) (fun c27 => ?_) (fun c27 => ?_)
                        · skip
                          refine lv_iload X.1 X.2.1 dL_isSo_317 (lv_at hl 1 rfl) ?_
                          refine lv_top (y := nI (userS N F k1) - 1) (by rw [userS, if_neg (by omega)]) ?_
                          exact K319   _ _ _ h (lv_sub hl [0, 1, 2, 3, 4, 5, 6, 7, 8, 9, 10, 11, 12, 13, 14] rfl)
                        · skip
                          refine lv_aload X.1 X.2.1 dL_isSo_300 (lv_at hl 13 rfl) ?_
                          refine lv_iconst (v := nI (0)) X.1 X.2.1 dL_isSo_302 (by decide) ?_
                          refine q_ald X h 9 (by decide) dL_isSo_303 (i := 0) (v := nI (N 0)) rfl (by show _ < 9; omega) (fun V r => LR.g0 r) ?_
                          refine lv_aload X.1 X.2.1 dL_isSo_304 (lv_at hl 10 rfl) ?_
                          refine lv_iload X.1 X.2.1 dL_isSo_306 (lv_at hl 3 rfl) ?_
                          refine q_ald X h 5 (by decide) dL_isSo_308 (i := k1) (v := nI (F 19 (k1))) rfl (by show _ < 36; omega) (fun V r => LR.u5 r (by omega)) ?_
                          have b28 := hI.k (k := k1) (by omega)
                          refine b_icmp_gt (tgt := 317) X dL_isSo_309 (by decide) (a := ((N 0 : Nat) : Int)) (b := ((F 19 (k1) : Nat) : Int)) (nI_ti (by omega)) (nI_ti (by omega)) (fun c29 => ?_) (fun c29 => ?_)
                          · skip
                            refine lv_iload X.1 X.2.1 dL_isSo_317 (lv_at hl 1 rfl) ?_
                            refine lv_top (y := nI (userS N F k1) - 1) (by rw [userS, if_neg (by omega)]) ?_
                            exact K319   _ _ _ h (lv_sub hl [0, 1, 2, 3, 4, 5, 6, 7, 8, 9, 10, 11, 12, 13, 14] rfl)
                          · skip
                            refine lv_iload X.1 X.2.1 dL_isSo_312 (lv_at hl 0 rfl) ?_
                            refine lv_goto (tgt := 319) X.1 X.2.1 dL_isSo_314 (by decide) ?_
                            refine lv_top (y := nI (userS N F k1) - 1) (by rw [userS, if_pos (by omega)]) ?_
                            exact K319   _ _ _ h (lv_sub hl [0, 1, 2, 3, 4, 5, 6, 7, 8, 9, 10, 11, 12, 13, 14] rfl)
              refine W.widen (k := 300 + 14 * 0) (n := 1600 + 84 * 0) (show 100 + 10 * j1 ≤ 300 + 14 * 0 by omega) (show 600 + 60 * j1 ≤ 1600 + 84 * 0 by omega) ?_
              exact lthree (N 13 + 1) 0 (by omega) (by omega) _ _ _ h (lv_sub hl [1, 0, 3, 4, 5, 6, 7, 8, 9, 10, 11, 12, 13] rfl)
            · skip
              refine lv_iload X.1 X.2.1 dL_isSo_76 (lv_at hl 0 rfl) ?_
              refine b_if_eq (tgt := 245) X dL_isSo_78 (by decide) (a := ((1 : Nat) : Int)) (nI_ti (by omega)) (fun c30 => ?_) (fun c30 => ?_)
              · skip
                exact absurd c30 (by first | decide | omega)
              · skip
                refine lv_aload_n X.1 X.2.1 dL_isSo_81 rfl (lv_at hl 4 rfl) ?_
                refine lv_aload_n X.1 X.2.1 dL_isSo_82 rfl (lv_at hl 5 rfl) ?_
                refine lv_aload_n X.1 X.2.1 dL_isSo_83 rfl (lv_at hl 6 rfl) ?_
                refine lv_aload X.1 X.2.1 dL_isSo_84 (lv_at hl 12 rfl) ?_
                refine lv_iload X.1 X.2.1 dL_isSo_86 (lv_at hl 1 rfl) ?_
                refine lv_iload X.1 X.2.1 dL_isSo_88 (lv_at hl 2 rfl) ?_
                refine q_call X hS hZ hN h ck_L_85 kst_L_weight dL_isSo_90 (As := [.ref (ar 0), .ref (ar 1), .ref (ar 2), .ref (ar 9), .int (nI (r2)), .int (nI (j1))]) (c_L_weight l G x ar (N, F, B) N F B r2 j1 (hI).ih (by omega) (by omega)) rfl hl rfl (Nat.le_of_ble_eq_true rfl) ⟨Nat.le_of_ble_eq_true rfl, Nat.le_of_ble_eq_true rfl⟩ ⟨show 100 + 10 * j1 + 0 ≤ 1000 by omega, show 600 + 60 * j1 + 0 ≤ 6000 by omega⟩ ?_
                rintro _ _ _ H locs ⟨rfl, rfl, rfl⟩ h
                have hwj := wS_b hI.ih h6 (s := r2) (p := j1) (by omega)
                refine lv_istore (lv' := [(14, .int (nI (wS F r2 (N 6) j1))), (11, .int (nI (1))), (12, .int (nI (r2))), (13, .int (nI (j1))), (0, .ref x), (1, .ref (ar 0)), (2, .ref (ar 1)), (3, .ref (ar 2)), (4, .ref (ar 3)), (5, .ref (ar 4)), (6, .ref (ar 5)), (7, .ref (ar 6)), (8, .ref (ar 7)), (9, .ref (ar 9)), (10, .int (nI (one)))]) X.1 X.2.1 dL_isSo_93 hl (by decide) rfl (fun ls hl => ?_)
                refine lv_iconst (v := nI (1)) X.1 X.2.1 dL_isSo_95 (by decide) ?_
                refine lv_istore (lv' := [(15, .int (nI (1))), (14, .int (nI (wS F r2 (N 6) j1))), (11, .int (nI (1))), (12, .int (nI (r2))), (13, .int (nI (j1))), (0, .ref x), (1, .ref (ar 0)), (2, .ref (ar 1)), (3, .ref (ar 2)), (4, .ref (ar 3)), (5, .ref (ar 4)), (6, .ref (ar 5)), (7, .ref (ar 6)), (8, .ref (ar 7)), (9, .ref (ar 9)), (10, .int (nI (one)))]) X.1 X.2.1 dL_isSo_96 hl (by decide) rfl (fun ls hl => ?_)
                refine lv_iconst (v := nI (0)) X.1 X.2.1 dL_isSo_98 (by decide) ?_
                refine lv_istore (lv' := [(16, .int (nI (0))), (15, .int (nI (1))), (14, .int (nI (wS F r2 (N 6) j1))), (11, .int (nI (1))), (12, .int (nI (r2))), (13, .int (nI (j1))), (0, .ref x), (1, .ref (ar 0)), (2, .ref (ar 1)), (3, .ref (ar 2)), (4, .ref (ar 3)), (5, .ref (ar 4)), (6, .ref (ar 5)), (7, .ref (ar 6)), (8, .ref (ar 7)), (9, .ref (ar 9)), (10, .int (nI (one)))]) X.1 X.2.1 dL_isSo_99 hl (by decide) rfl (fun ls hl => ?_)
                have inner : ∀ (n9 : Nat) (i0 : Nat), (N 1 + 1 ≤ i0 + n9) → (i0 ≤ N 1) → ∀ (H : Heap) (locs : List Loc) (ls : Array Slot), qM G A s x ar (N, F, B) (N, F, B) H locs → lv_has ls 17 [(15, .int (nI (1 + cnt (wW N F r2) i0 (wS F r2 (N 6) j1)))), (16, .int (nI (i0))), (14, .int (nI (wS F r2 (N 6) j1))), (11, .int (nI (1))), (12, .int (nI (r2))), (13, .int (nI (j1))), (0, .ref x), (1, .ref (ar 0)), (2, .ref (ar 1)), (3, .ref (ar 2)), (4, .ref (ar 3)), (5, .ref (ar 4)), (6, .ref (ar 5)), (7, .ref (ar 6)), (8, .ref (ar 7)), (9, .ref (ar 9)), (10, .int (nI (one)))] → W p l e ({ frames := 9, cells := 1000, slots := 6000, locals := 154 } : Room) s m args below meth c H locs (100 + 10 * j1) (600 + 60 * j1) (QZ G A x ar (fun r C' D' => r = some (.int (nI 1)) ∧ (N, F, B) = C' ∧ D' = (N, F, B)) below args s 1000 6000) (F0 m 101 ls []) := by
                  intro n9
                  induction n9 with
                  | zero => intro i0 hm9 hi0; exact absurd hm9 (by omega)
                  | succ n9 ih_inner =>
                    intro i0 hm9 hi0 H locs ls h hl
                    have hcl := cnt_le (W := wW N F r2) (n := i0) (b := wS F r2 (N 6) j1)
                    refine lv_iload X.1 X.2.1 dL_isSo_101 (lv_at hl 1 rfl) ?_
                    refine lv_aload X.1 X.2.1 dL_isSo_103 (lv_at hl 15 rfl) ?_
                    refine lv_iconst (v := nI (1)) X.1 X.2.1 dL_isSo_105 (by decide) ?_
                    refine q_ald X h 9 (by decide) dL_isSo_106 (i := 1) (v := nI (N 1)) rfl (by show _ < 9; omega) (fun V r => LR.g1 r) ?_
                    refine b_icmp_ge (tgt := 143) X dL_isSo_107 (by decide) (a := ((i0 : Nat) : Int)) (b := ((N 1 : Nat) : Int)) (nI_ti (by omega)) (nI_ti (by omega)) (fun c31 => ?_) (fun c31 => ?_)
                    · skip
                      have ei : i0 = N 1 := by omega
                      subst ei
                      have hrk := rkS_b hI h6 (sn := r2) (q := j1) (by omega)
                      have hpb := pts_le F r2 j1 (n := N 6) (by omega)
                      have hgb := gms_le F r2 j1 (n := N 6) (by omega)
                      refine lv_aload_n X.1 X.2.1 dL_isSo_143 rfl (lv_at hl 6 rfl) ?_
                      refine lv_iload X.1 X.2.1 dL_isSo_144 (lv_at hl 5 rfl) ?_
                      refine q_callX (C1 := (N, F, B)) (v := B j1) X hS hZ h ck_L_55 ki_X6_money ks_X6_money dL_isSo_146 (As := [.int (nI (j1))]) (fun MC cs => x_money (N := N) (F := F) (B := B) cs hst hI (show j1 < N 1 by omega)) (no_1 (kOne_0 (show j1 < N 1 by omega) (by omega))) rfl hl rfl (Nat.le_of_ble_eq_true rfl) ⟨Nat.le_of_ble_eq_true rfl, Nat.le_of_ble_eq_true rfl⟩ ⟨show 100 + 10 * j1 + 1 ≤ 1000 by omega, show 600 + 60 * j1 + 6 ≤ 6000 by omega⟩ (fun H locs h => ?_)
                      refine lv_aload_n X.1 X.2.1 dL_isSo_149 rfl (lv_at hl 7 rfl) ?_
                      refine lv_bipush (v := nI (32)) X.1 X.2.1 dL_isSo_150 (by decide) ?_
                      refine lv_iload X.1 X.2.1 dL_isSo_152 (lv_at hl 5 rfl) ?_
                      refine lv_iadd X.1 X.2.1 dL_isSo_154 ?_
                      refine lv_top (y := nI (32 + j1)) (nI_add _ _) ?_
                      refine q_ald X h 0 (by decide) dL_isSo_155 (i := 32 + j1) (v := B j1) rfl (by show _ < 48; omega) (fun V r => LR.mon r (by omega)) ?_
                      refine b_icmp_ne (tgt := 236) X dL_isSo_156 (by decide) (a := (B j1).toInt) (b := (B j1).toInt) (rfl) (rfl) (fun c32 => ?_) (fun c32 => ?_)
                      · skip
                        exact absurd c32 (by first | decide | omega)
                      · skip
                        refine lv_aload_n X.1 X.2.1 dL_isSo_159 rfl (lv_at hl 6 rfl) ?_
                        refine lv_iload X.1 X.2.1 dL_isSo_160 (lv_at hl 4 rfl) ?_
                        refine lv_iload X.1 X.2.1 dL_isSo_162 (lv_at hl 5 rfl) ?_
                        refine lv_iconst (v := nI (0)) X.1 X.2.1 dL_isSo_164 (by decide) ?_
                        refine q_callX (C1 := (N, F, B)) (v := nI (pts F r2 j1 (N 6))) X hS hZ h ck_L_49 ki_X6_ranked ks_X6_ranked dL_isSo_165 (As := [.int (nI (r2)), .int (nI (j1)), .int (nI (0))]) (fun MC cs => x_ranked (N := N) (F := F) (B := B) (w := 0) cs hst hI (by omega) (by omega) (by omega)) (no_2 (kRanked_0 (N := N) (by omega) (by omega) (by omega) (by omega) (by omega))) rfl hl rfl (Nat.le_of_ble_eq_true rfl) ⟨Nat.le_of_ble_eq_true rfl, Nat.le_of_ble_eq_true rfl⟩ ⟨show 100 + 10 * j1 + 1 + 3 ≤ 1000 by omega, show 600 + 60 * j1 + 6 + 18 ≤ 6000 by omega⟩ (fun H locs h => ?_)
                        refine lv_aload_n X.1 X.2.1 dL_isSo_168 rfl (lv_at hl 7 rfl) ?_
                        refine lv_aload_n X.1 X.2.1 dL_isSo_169 rfl (lv_at hl 8 rfl) ?_
                        refine lv_aload_n X.1 X.2.1 dL_isSo_170 rfl (lv_at hl 9 rfl) ?_
                        refine lv_aload X.1 X.2.1 dL_isSo_171 (lv_at hl 15 rfl) ?_
                        refine lv_iload X.1 X.2.1 dL_isSo_173 (lv_at hl 4 rfl) ?_
                        refine lv_iload X.1 X.2.1 dL_isSo_175 (lv_at hl 5 rfl) ?_
                        refine q_call X hS hZ hN h ck_L_77 kst_L_points dL_isSo_177 (As := [.ref (ar 0), .ref (ar 1), .ref (ar 2), .ref (ar 9), .int (nI (r2)), .int (nI (j1))]) (c_L_points l G x ar (N, F, B) N F B r2 j1 (hI).ih (by omega) (by omega)) rfl hl rfl (Nat.le_of_ble_eq_true rfl) ⟨Nat.le_of_ble_eq_true rfl, Nat.le_of_ble_eq_true rfl⟩ ⟨show 100 + 10 * j1 + 1 + 3 + 0 ≤ 1000 by omega, show 600 + 60 * j1 + 6 + 18 + 0 ≤ 6000 by omega⟩ ?_
                        rintro _ _ _ H locs ⟨rfl, rfl, rfl⟩ h
                        refine b_icmp_ne (tgt := 236) X dL_isSo_180 (by decide) (a := ((pts F r2 j1 (N 6) : Nat) : Int)) (b := ((pts F r2 j1 (N 6) : Nat) : Int)) (nI_ti (by omega)) (nI_ti (by omega)) (fun c33 => ?_) (fun c33 => ?_)
                        · skip
                          exact absurd c33 (by first | decide | omega)
                        · skip
                          refine lv_aload_n X.1 X.2.1 dL_isSo_183 rfl (lv_at hl 6 rfl) ?_
                          refine lv_iload X.1 X.2.1 dL_isSo_184 (lv_at hl 4 rfl) ?_
                          refine lv_iload X.1 X.2.1 dL_isSo_186 (lv_at hl 5 rfl) ?_
                          refine lv_iconst (v := nI (1)) X.1 X.2.1 dL_isSo_188 (by decide) ?_
                          refine q_callX (C1 := (N, F, B)) (v := nI (gms F r2 j1 (N 6))) X hS hZ h ck_L_49 ki_X6_ranked ks_X6_ranked dL_isSo_189 (As := [.int (nI (r2)), .int (nI (j1)), .int (nI (1))]) (fun MC cs => x_ranked (N := N) (F := F) (B := B) (w := 1) cs hst hI (by omega) (by omega) (by omega)) (no_2 (kRanked_0 (N := N) (by omega) (by omega) (by omega) (by omega) (by omega))) rfl hl rfl (Nat.le_of_ble_eq_true rfl) ⟨Nat.le_of_ble_eq_true rfl, Nat.le_of_ble_eq_true rfl⟩ ⟨show 100 + 10 * j1 + 1 + 3 + 3 ≤ 1000 by omega, show 600 + 60 * j1 + 6 + 18 + 18 ≤ 6000 by omega⟩ (fun H locs h => ?_)
                          refine lv_aload_n X.1 X.2.1 dL_isSo_192 rfl (lv_at hl 7 rfl) ?_
                          refine lv_aload_n X.1 X.2.1 dL_isSo_193 rfl (lv_at hl 8 rfl) ?_
                          refine lv_aload_n X.1 X.2.1 dL_isSo_194 rfl (lv_at hl 9 rfl) ?_
                          refine lv_aload X.1 X.2.1 dL_isSo_195 (lv_at hl 15 rfl) ?_
                          refine lv_iload X.1 X.2.1 dL_isSo_197 (lv_at hl 4 rfl) ?_
                          refine lv_iload X.1 X.2.1 dL_isSo_199 (lv_at hl 5 rfl) ?_
                          refine q_call X hS hZ hN h ck_L_82 kst_L_many dL_isSo_201 (As := [.ref (ar 0), .ref (ar 1), .ref (ar 2), .ref (ar 9), .int (nI (r2)), .int (nI (j1))]) (c_L_many l G x ar (N, F, B) N F B r2 j1 (hI).ih (by omega) (by omega)) rfl hl rfl (Nat.le_of_ble_eq_true rfl) ⟨Nat.le_of_ble_eq_true rfl, Nat.le_of_ble_eq_true rfl⟩ ⟨show 100 + 10 * j1 + 1 + 3 + 3 + 0 ≤ 1000 by omega, show 600 + 60 * j1 + 6 + 18 + 18 + 0 ≤ 6000 by omega⟩ ?_
                          rintro _ _ _ H locs ⟨rfl, rfl, rfl⟩ h
                          refine b_icmp_ne (tgt := 236) X dL_isSo_204 (by decide) (a := ((gms F r2 j1 (N 6) : Nat) : Int)) (b := ((gms F r2 j1 (N 6) : Nat) : Int)) (nI_ti (by omega)) (nI_ti (by omega)) (fun c34 => ?_) (fun c34 => ?_)
                          · skip
                            exact absurd c34 (by first | decide | omega)
                          · skip
                            refine lv_aload_n X.1 X.2.1 dL_isSo_207 rfl (lv_at hl 6 rfl) ?_
                            refine lv_iload X.1 X.2.1 dL_isSo_208 (lv_at hl 4 rfl) ?_
                            refine lv_iload X.1 X.2.1 dL_isSo_210 (lv_at hl 5 rfl) ?_
                            refine lv_iconst (v := nI (2)) X.1 X.2.1 dL_isSo_212 (by decide) ?_
                            refine q_callX (C1 := (N, F, B)) (v := nI (rkS N F r2 j1)) X hS hZ h ck_L_49 ki_X6_ranked ks_X6_ranked dL_isSo_213 (As := [.int (nI (r2)), .int (nI (j1)), .int (nI (2))]) (fun MC cs => x_ranked (N := N) (F := F) (B := B) (w := 2) cs hst hI (by omega) (by omega) (by omega)) (no_2 (kRanked_0 (N := N) (by omega) (by omega) (by omega) (by omega) (by omega))) rfl hl rfl (Nat.le_of_ble_eq_true rfl) ⟨Nat.le_of_ble_eq_true rfl, Nat.le_of_ble_eq_true rfl⟩ ⟨show 100 + 10 * j1 + 1 + 3 + 3 + 3 ≤ 1000 by omega, show 600 + 60 * j1 + 6 + 18 + 18 + 18 ≤ 6000 by omega⟩ (fun H locs h => ?_)
                            refine lv_iload X.1 X.2.1 dL_isSo_216 (lv_at hl 2 rfl) ?_
                            refine lv_ldc (own := RL) (index := 81) (v := 1000000) X.1 X.2.1 X.2.2.2.1 (X.2.2.2.2.1.use kco_L_81) dL_isSo_218 ?_
                            refine lv_top (y := nI 1000000) rfl ?_
                            refine b_icmp_ne (tgt := 227) X dL_isSo_220 (by decide) (a := ((wS F r2 (N 6) j1 : Nat) : Int)) (b := ((1000000 : Nat) : Int)) (nI_ti (by omega)) (nI_ti (by omega)) (fun c35 => ?_) (fun c35 => ?_)
                            · skip
                              refine lv_iload X.1 X.2.1 dL_isSo_227 (lv_at hl 0 rfl) ?_
                              refine b_icmp_ne (tgt := 236) X dL_isSo_229 (by decide) (a := ((rkS N F r2 j1 : Nat) : Int)) (b := ((1 + cnt (wW N F r2) (N 1) (wS F r2 (N 6) j1) : Nat) : Int)) (nI_ti (by omega)) (nI_ti (by omega)) (fun c36 => ?_) (fun c36 => ?_)
                              · skip
                                exact absurd c36 (by omega)
                              · skip
                                refine lv_iconst (v := nI (1)) X.1 X.2.1 dL_isSo_232 (by decide) ?_
                                refine lv_goto (tgt := 237) X.1 X.2.1 dL_isSo_233 (by decide) ?_
                                refine lv_istore (lv' := [(11, .int (nI (1))), (15, .int (nI (1 + cnt (wW N F r2) (N 1) (wS F r2 (N 6) j1)))), (16, .int (nI (N 1))), (14, .int (nI (wS F r2 (N 6) j1))), (12, .int (nI (r2))), (13, .int (nI (j1))), (0, .ref x), (1, .ref (ar 0)), (2, .ref (ar 1)), (3, .ref (ar 2)), (4, .ref (ar 3)), (5, .ref (ar 4)), (6, .ref (ar 5)), (7, .ref (ar 6)), (8, .ref (ar 7)), (9, .ref (ar 9)), (10, .int (nI (one)))]) X.1 X.2.1 dL_isSo_237 hl (by decide) rfl (fun ls hl => ?_)
                                refine lv_iinc (v := nI (j1 + 1)) (lv' := [(13, .int (nI (j1 + 1))), (11, .int (nI (1))), (15, .int (nI (1 + cnt (wW N F r2) (N 1) (wS F r2 (N 6) j1)))), (16, .int (nI (N 1))), (14, .int (nI (wS F r2 (N 6) j1))), (12, .int (nI (r2))), (0, .ref x), (1, .ref (ar 0)), (2, .ref (ar 1)), (3, .ref (ar 2)), (4, .ref (ar 3)), (5, .ref (ar 4)), (6, .ref (ar 5)), (7, .ref (ar 6)), (8, .ref (ar 7)), (9, .ref (ar 9)), (10, .int (nI (one)))]) X.1 X.2.1 dL_isSo_239 hl (k := 5) rfl (nI_add (j1) 1) (by decide) rfl (fun ls hl => ?_)
                                refine lv_goto (tgt := 67) X.1 X.2.1 dL_isSo_242 (by decide) ?_
                                refine W.widen (k := 100 + 10 * (j1 + 1)) (n := 600 + 60 * (j1 + 1)) (show 100 + 10 * j1 + 1 + 3 + 3 + 3 ≤ 100 + 10 * (j1 + 1) by omega) (show 600 + 60 * j1 + 6 + 18 + 18 + 18 ≤ 600 + 60 * (j1 + 1) by omega) ?_
                                exact ih_ltwo (j1 + 1) (by omega) (by omega) _ _ _ h (lv_sub hl [1, 5, 0, 6, 7, 8, 9, 10, 11, 12, 13, 14, 15, 16] rfl)
                            · skip
                              refine lv_iconst (v := nI (0)) X.1 X.2.1 dL_isSo_223 (by decide) ?_
                              refine lv_goto (tgt := 229) X.1 X.2.1 dL_isSo_224 (by decide) ?_
                              refine b_icmp_ne (tgt := 236) X dL_isSo_229 (by decide) (a := ((rkS N F r2 j1 : Nat) : Int)) (b := ((0 : Nat) : Int)) (nI_ti (by omega)) (nI_ti (by omega)) (fun c37 => ?_) (fun c37 => ?_)
                              · skip
                                exact absurd c37 (by omega)
                              · skip
                                refine lv_iconst (v := nI (1)) X.1 X.2.1 dL_isSo_232 (by decide) ?_
                                refine lv_goto (tgt := 237) X.1 X.2.1 dL_isSo_233 (by decide) ?_
                                refine lv_istore (lv' := [(11, .int (nI (1))), (15, .int (nI (1 + cnt (wW N F r2) (N 1) (wS F r2 (N 6) j1)))), (16, .int (nI (N 1))), (14, .int (nI (wS F r2 (N 6) j1))), (12, .int (nI (r2))), (13, .int (nI (j1))), (0, .ref x), (1, .ref (ar 0)), (2, .ref (ar 1)), (3, .ref (ar 2)), (4, .ref (ar 3)), (5, .ref (ar 4)), (6, .ref (ar 5)), (7, .ref (ar 6)), (8, .ref (ar 7)), (9, .ref (ar 9)), (10, .int (nI (one)))]) X.1 X.2.1 dL_isSo_237 hl (by decide) rfl (fun ls hl => ?_)
                                refine lv_iinc (v := nI (j1 + 1)) (lv' := [(13, .int (nI (j1 + 1))), (11, .int (nI (1))), (15, .int (nI (1 + cnt (wW N F r2) (N 1) (wS F r2 (N 6) j1)))), (16, .int (nI (N 1))), (14, .int (nI (wS F r2 (N 6) j1))), (12, .int (nI (r2))), (0, .ref x), (1, .ref (ar 0)), (2, .ref (ar 1)), (3, .ref (ar 2)), (4, .ref (ar 3)), (5, .ref (ar 4)), (6, .ref (ar 5)), (7, .ref (ar 6)), (8, .ref (ar 7)), (9, .ref (ar 9)), (10, .int (nI (one)))]) X.1 X.2.1 dL_isSo_239 hl (k := 5) rfl (nI_add (j1) 1) (by decide) rfl (fun ls hl => ?_)
                                refine lv_goto (tgt := 67) X.1 X.2.1 dL_isSo_242 (by decide) ?_
                                refine W.widen (k := 100 + 10 * (j1 + 1)) (n := 600 + 60 * (j1 + 1)) (show 100 + 10 * j1 + 1 + 3 + 3 + 3 ≤ 100 + 10 * (j1 + 1) by omega) (show 600 + 60 * j1 + 6 + 18 + 18 + 18 ≤ 600 + 60 * (j1 + 1) by omega) ?_
                                exact ih_ltwo (j1 + 1) (by omega) (by omega) _ _ _ h (lv_sub hl [1, 5, 0, 6, 7, 8, 9, 10, 11, 12, 13, 14, 15, 16] rfl)
                    · skip
                      refine lv_iload X.1 X.2.1 dL_isSo_110 (lv_at hl 0 rfl) ?_
                      refine lv_aload_n X.1 X.2.1 dL_isSo_112 rfl (lv_at hl 7 rfl) ?_
                      refine lv_aload_n X.1 X.2.1 dL_isSo_113 rfl (lv_at hl 8 rfl) ?_
                      refine lv_aload_n X.1 X.2.1 dL_isSo_114 rfl (lv_at hl 9 rfl) ?_
                      refine lv_aload X.1 X.2.1 dL_isSo_115 (lv_at hl 15 rfl) ?_
                      refine lv_iload X.1 X.2.1 dL_isSo_117 (lv_at hl 4 rfl) ?_
                      refine lv_iload X.1 X.2.1 dL_isSo_119 (lv_at hl 1 rfl) ?_
                      refine q_call X hS hZ hN h ck_L_85 kst_L_weight dL_isSo_121 (As := [.ref (ar 0), .ref (ar 1), .ref (ar 2), .ref (ar 9), .int (nI (r2)), .int (nI (i0))]) (c_L_weight l G x ar (N, F, B) N F B r2 i0 (hI).ih (by omega) (by omega)) rfl hl rfl (Nat.le_of_ble_eq_true rfl) ⟨Nat.le_of_ble_eq_true rfl, Nat.le_of_ble_eq_true rfl⟩ ⟨show 100 + 10 * j1 + 0 ≤ 1000 by omega, show 600 + 60 * j1 + 0 ≤ 6000 by omega⟩ ?_
                      rintro _ _ _ H locs ⟨rfl, rfl, rfl⟩ h
                      have hwi := wS_b hI.ih h6 (s := r2) (p := i0) (by omega)
                      refine lv_iload X.1 X.2.1 dL_isSo_124 (lv_at hl 2 rfl) ?_
                      refine b_icmp_ge (tgt := 133) X dL_isSo_126 (by decide) (a := ((wS F r2 (N 6) i0 : Nat) : Int)) (b := ((wS F r2 (N 6) j1 : Nat) : Int)) (nI_ti (by omega)) (nI_ti (by omega)) (fun c38 => ?_) (fun c38 => ?_)
                      · skip
                        refine lv_iconst (v := nI (0)) X.1 X.2.1 dL_isSo_133 (by decide) ?_
                        refine lv_iadd X.1 X.2.1 dL_isSo_134 ?_
                        refine lv_top (y := nI (1 + cnt (wW N F r2) (i0 + 1) (wS F r2 (N 6) j1))) (by first | exact ctw_t (show wS F r2 (N 6) i0 < _ by omega) | exact ctw_f (show ¬ wS F r2 (N 6) i0 < _ by omega)) ?_
                        refine lv_istore (lv' := [(15, .int (nI (1 + cnt (wW N F r2) (i0 + 1) (wS F r2 (N 6) j1)))), (16, .int (nI (i0))), (14, .int (nI (wS F r2 (N 6) j1))), (11, .int (nI (1))), (12, .int (nI (r2))), (13, .int (nI (j1))), (0, .ref x), (1, .ref (ar 0)), (2, .ref (ar 1)), (3, .ref (ar 2)), (4, .ref (ar 3)), (5, .ref (ar 4)), (6, .ref (ar 5)), (7, .ref (ar 6)), (8, .ref (ar 7)), (9, .ref (ar 9)), (10, .int (nI (one)))]) X.1 X.2.1 dL_isSo_135 hl (by decide) rfl (fun ls hl => ?_)
                        refine lv_iinc (v := nI (i0 + 1)) (lv' := [(16, .int (nI (i0 + 1))), (15, .int (nI (1 + cnt (wW N F r2) (i0 + 1) (wS F r2 (N 6) j1)))), (14, .int (nI (wS F r2 (N 6) j1))), (11, .int (nI (1))), (12, .int (nI (r2))), (13, .int (nI (j1))), (0, .ref x), (1, .ref (ar 0)), (2, .ref (ar 1)), (3, .ref (ar 2)), (4, .ref (ar 3)), (5, .ref (ar 4)), (6, .ref (ar 5)), (7, .ref (ar 6)), (8, .ref (ar 7)), (9, .ref (ar 9)), (10, .int (nI (one)))]) X.1 X.2.1 dL_isSo_137 hl (k := 1) rfl (nI_add (i0) 1) (by decide) rfl (fun ls hl => ?_)
                        refine lv_goto (tgt := 101) X.1 X.2.1 dL_isSo_140 (by decide) ?_
                        exact ih_inner (i0 + 1) (by omega) (by omega) _ _ _ h (lv_sub hl [1, 0, 2, 3, 4, 5, 6, 7, 8, 9, 10, 11, 12, 13, 14, 15, 16] rfl)
                      · skip
                        refine lv_iconst (v := nI (1)) X.1 X.2.1 dL_isSo_129 (by decide) ?_
                        refine lv_goto (tgt := 134) X.1 X.2.1 dL_isSo_130 (by decide) ?_
                        refine lv_iadd X.1 X.2.1 dL_isSo_134 ?_
                        refine lv_top (y := nI (1 + cnt (wW N F r2) (i0 + 1) (wS F r2 (N 6) j1))) (by first | exact ctw_t (show wS F r2 (N 6) i0 < _ by omega) | exact ctw_f (show ¬ wS F r2 (N 6) i0 < _ by omega)) ?_
                        refine lv_istore (lv' := [(15, .int (nI (1 + cnt (wW N F r2) (i0 + 1) (wS F r2 (N 6) j1)))), (16, .int (nI (i0))), (14, .int (nI (wS F r2 (N 6) j1))), (11, .int (nI (1))), (12, .int (nI (r2))), (13, .int (nI (j1))), (0, .ref x), (1, .ref (ar 0)), (2, .ref (ar 1)), (3, .ref (ar 2)), (4, .ref (ar 3)), (5, .ref (ar 4)), (6, .ref (ar 5)), (7, .ref (ar 6)), (8, .ref (ar 7)), (9, .ref (ar 9)), (10, .int (nI (one)))]) X.1 X.2.1 dL_isSo_135 hl (by decide) rfl (fun ls hl => ?_)
                        refine lv_iinc (v := nI (i0 + 1)) (lv' := [(16, .int (nI (i0 + 1))), (15, .int (nI (1 + cnt (wW N F r2) (i0 + 1) (wS F r2 (N 6) j1)))), (14, .int (nI (wS F r2 (N 6) j1))), (11, .int (nI (1))), (12, .int (nI (r2))), (13, .int (nI (j1))), (0, .ref x), (1, .ref (ar 0)), (2, .ref (ar 1)), (3, .ref (ar 2)), (4, .ref (ar 3)), (5, .ref (ar 4)), (6, .ref (ar 5)), (7, .ref (ar 6)), (8, .ref (ar 7)), (9, .ref (ar 9)), (10, .int (nI (one)))]) X.1 X.2.1 dL_isSo_137 hl (k := 1) rfl (nI_add (i0) 1) (by decide) rfl (fun ls hl => ?_)
                        refine lv_goto (tgt := 101) X.1 X.2.1 dL_isSo_140 (by decide) ?_
                        exact ih_inner (i0 + 1) (by omega) (by omega) _ _ _ h (lv_sub hl [1, 0, 2, 3, 4, 5, 6, 7, 8, 9, 10, 11, 12, 13, 14, 15, 16] rfl)
                exact inner (N 1 + 1) 0 (by omega) (by omega) _ _ _ h (lv_sub hl [1, 0, 2, 3, 4, 5, 6, 7, 8, 9, 10, 11, 12, 13, 14, 15, 16] rfl)
        refine W.widen (k := 100 + 10 * 0) (n := 600 + 60 * 0) (show j0 ≤ 100 + 10 * 0 by omega) (show 6 * j0 ≤ 600 + 60 * 0 by omega) ?_
        exact ltwo (N 1 + 1) 0 (by omega) (by omega) _ _ _ h (lv_sub hl [2, 1, 0, 3, 4, 5, 6, 7, 8, 9, 10, 11, 12, 13] rfl)
      · skip
        refine lv_iload X.1 X.2.1 dL_isSo_18 (lv_at hl 0 rfl) ?_
        refine b_if_eq (tgt := 53) X dL_isSo_20 (by decide) (a := ((1 : Nat) : Int)) (nI_ti (by omega)) (fun c39 => ?_) (fun c39 => ?_)
        · skip
          exact absurd c39 (by first | decide | omega)
        · skip
          refine lv_aload_n X.1 X.2.1 dL_isSo_23 rfl (lv_at hl 2 rfl) ?_
          refine lv_iload X.1 X.2.1 dL_isSo_24 (lv_at hl 1 rfl) ?_
          refine q_callX (C1 := (N, F, B)) (v := bI (goodS F j0)) X hS hZ h ck_L_45 ki_X6_stands ks_X6_stands dL_isSo_26 (As := [.int (nI (j0))]) (fun MC cs => x_stands (N := N) (F := F) (B := B) cs hst hI (show j0 < N 6 by omega)) (no_1 (kOne_0 (show j0 < N 6 by omega) (by omega))) rfl hl rfl (Nat.le_of_ble_eq_true rfl) ⟨Nat.le_of_ble_eq_true rfl, Nat.le_of_ble_eq_true rfl⟩ ⟨show j0 + 1 ≤ 1000 by omega, show 6 * j0 + 6 ≤ 6000 by omega⟩ (fun H locs h => ?_)
          refine lv_aload_n X.1 X.2.1 dL_isSo_29 rfl (lv_at hl 3 rfl) ?_
          refine lv_aload_n X.1 X.2.1 dL_isSo_30 rfl (lv_at hl 4 rfl) ?_
          refine lv_aload_n X.1 X.2.1 dL_isSo_31 rfl (lv_at hl 5 rfl) ?_
          refine lv_iload X.1 X.2.1 dL_isSo_32 (lv_at hl 1 rfl) ?_
          refine q_call X hS hZ hN h ck_L_71 kst_L_isGood dL_isSo_34 (As := [.ref (ar 0), .ref (ar 1), .ref (ar 2), .int (nI (j0))]) (c_L_isGood l G x ar (N, F, B) N F B j0 (hI).ih (by omega)) rfl hl rfl (Nat.le_of_ble_eq_true rfl) ⟨Nat.le_of_ble_eq_true rfl, Nat.le_of_ble_eq_true rfl⟩ ⟨show j0 + 1 + 0 ≤ 1000 by omega, show 6 * j0 + 6 + 0 ≤ 6000 by omega⟩ ?_
          rintro _ _ _ H locs ⟨rfl, rfl, rfl⟩ h
          refine b_icmp_ne (tgt := 44) X dL_isSo_37 (by decide) (a := (bI (goodS F j0)).toInt) (b := (bI (goodS F j0)).toInt) (rfl) (rfl) (fun c40 => ?_) (fun c40 => ?_)
          · skip
            exact absurd c40 (by first | decide | omega)
          · skip
            refine lv_iconst (v := nI (1)) X.1 X.2.1 dL_isSo_40 (by decide) ?_
            refine lv_goto (tgt := 45) X.1 X.2.1 dL_isSo_41 (by decide) ?_
            refine lv_istore (lv' := [(11, .int (nI (1))), (12, .int (nI (j0))), (0, .ref x), (1, .ref (ar 0)), (2, .ref (ar 1)), (3, .ref (ar 2)), (4, .ref (ar 3)), (5, .ref (ar 4)), (6, .ref (ar 5)), (7, .ref (ar 6)), (8, .ref (ar 7)), (9, .ref (ar 9)), (10, .int (nI (one)))]) X.1 X.2.1 dL_isSo_45 hl (by decide) rfl (fun ls hl => ?_)
            refine lv_iinc (v := nI (j0 + 3)) (lv' := [(12, .int (nI (j0 + 3))), (11, .int (nI (1))), (0, .ref x), (1, .ref (ar 0)), (2, .ref (ar 1)), (3, .ref (ar 2)), (4, .ref (ar 3)), (5, .ref (ar 4)), (6, .ref (ar 5)), (7, .ref (ar 6)), (8, .ref (ar 7)), (9, .ref (ar 9)), (10, .int (nI (one)))]) X.1 X.2.1 dL_isSo_47 hl (k := 1) rfl (nI_add (j0) 3) (by decide) rfl (fun ls hl => ?_)
            refine lv_goto (tgt := 9) X.1 X.2.1 dL_isSo_50 (by decide) ?_
            refine W.widen (k := j0 + 3) (n := 6 * (j0 + 3)) (show j0 + 1 ≤ j0 + 3 by omega) (show 6 * j0 + 6 ≤ 6 * (j0 + 3) by omega) ?_
            exact ih_lone (j0 + 3) (by omega) (by omega) _ _ _ h (lv_sub hl [1, 0, 2, 3, 4, 5, 6, 7, 8, 9, 10, 11, 12] rfl)
  refine W.widen (k := one % 3) (n := 6 * (one % 3)) (show 0 ≤ one % 3 by omega) (show 0 ≤ 6 * (one % 3) by omega) ?_
  exact lone (N 6 + 3) (one % 3) (by omega) (by omega) _ _ _ h (lv_sub hl [1, 0, 2, 3, 4, 5, 6, 7, 8, 9, 10, 11, 12] rfl)
