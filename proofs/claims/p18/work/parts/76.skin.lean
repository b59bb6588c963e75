set_option maxHeartbeats 4000000 in
set_option maxRecDepth 100000 in
theorem c_L_isSkin1 (l : Launch) (G : mG) (x : Nat) (ar : Nat → Nat) (N : Nat → Nat) (F : Nat → Nat → Nat) (B : Nat → Int32) (jj : Nat) (one : Nat) (two : Nat) (hst : l.stackTraces = false) (hLI : LI jj N F B) (hone : one < 60000) (htwo : two < 60000) : QMet l yL_isSkin cL_isSkin 19 (some FieldType.boolean) ({ frames := 9, cells := 20, slots := 200, locals := 154 } : Room) G x ar [.ref x, .ref (ar 0), .ref (ar 4), .ref (ar 5), .ref (ar 6), .ref (ar 7), .ref (ar 8), .ref (ar 9), .int (nI (1)), .int (nI (one)), .int (nI (two))] (N, F, B) (N, F, B) (fun r C' D' => r = some (.int (nI 1)) ∧ C' = D' ∧ LI (jj + 1) D'.1 D'.2.1 D'.2.2) := by
  refine QMet.of (by decide) (Nat.le_of_ble_eq_true rfl) ?_
  intro p e s m args below meth c A ls X hr hlocks hS hZ hN h hl
  have hl : lv_has ls 19 [(0, .ref x), (1, .ref (ar 0)), (2, .ref (ar 4)), (3, .ref (ar 5)), (4, .ref (ar 6)), (5, .ref (ar 7)), (6, .ref (ar 8)), (7, .ref (ar 9)), (8, .int (nI (1))), (9, .int (nI (one))), (10, .int (nI (two)))] := hl
  have hI := hLI.1
  have hJ := hLI.2.1
  have hn := hI.n
  have h6 := qM.n6 h
  refine lv_iload X.1 X.2.1 dL_isSkin_0 (lv_at hl 9 rfl) ?_
  refine lv_aload X.1 X.2.1 dL_isSkin_2 (lv_at hl 7 rfl) ?_
  refine lv_iconst (v := nI (4)) X.1 X.2.1 dL_isSkin_4 (by decide) ?_
  refine q_ald X h 9 (by decide) dL_isSkin_5 (i := 4) (v := nI (N 13)) rfl (by show _ < 9; omega) (fun V r => LR.g4 r) ?_
  refine lv_iconst (v := nI (1)) X.1 X.2.1 dL_isSkin_6 (by decide) ?_
  refine lv_iadd X.1 X.2.1 dL_isSkin_7 ?_
  refine lv_top (y := nI (N 13 + 1)) (nI_add _ _) ?_
  refine lv_irem X.1 X.2.1 dL_isSkin_8 (nI_n0 (by omega) (by omega)) ?_
  refine lv_top (y := nI (one % (N 13 + 1))) (pk_rem (by omega) (by omega) (by omega)) ?_
  have hr1 := Nat.mod_lt one (show 0 < N 13 + 1 by omega)
  generalize one % (N 13 + 1) = r1 at hr1 ⊢
  refine lv_istore (lv' := [(11, .int (nI (r1))), (0, .ref x), (1, .ref (ar 0)), (2, .ref (ar 4)), (3, .ref (ar 5)), (4, .ref (ar 6)), (5, .ref (ar 7)), (6, .ref (ar 8)), (7, .ref (ar 9)), (8, .int (nI (1))), (9, .int (nI (one))), (10, .int (nI (two)))]) X.1 X.2.1 dL_isSkin_9 hl (by decide) rfl (fun ls hl => ?_)
  have K31 : ∀ (k0 : Nat) (hk0 : k0 ≤ N 13) (hk5 : k0 < N 13 → k0 ≤ 5) (H : Heap) (locs : List Loc) (ls : Array Slot), qM G A s x ar (N, F, B) (N, F, B) H locs → lv_has ls 19 [(11, .int (nI (r1))), (0, .ref x), (1, .ref (ar 0)), (2, .ref (ar 4)), (3, .ref (ar 5)), (4, .ref (ar 6)), (5, .ref (ar 7)), (6, .ref (ar 8)), (7, .ref (ar 9)), (8, .int (nI (1))), (9, .int (nI (one))), (10, .int (nI (two)))] → W p l e ({ frames := 9, cells := 20, slots := 200, locals := 154 } : Room) s m args below meth c H locs (0) (0) (QZ G A x ar (fun r C' D' => r = some (.int (nI 1)) ∧ C' = D' ∧ LI (jj + 1) D'.1 D'.2.1 D'.2.2) below args s 20 200) (F0 m 31 ls [.int (nI (k0))]) := by
    intro k0 hk0 hk5 H locs ls h hl
    refine lv_istore (lv' := [(11, .int (nI (k0))), (0, .ref x), (1, .ref (ar 0)), (2, .ref (ar 4)), (3, .ref (ar 5)), (4, .ref (ar 6)), (5, .ref (ar 7)), (6, .ref (ar 8)), (7, .ref (ar 9)), (8, .int (nI (1))), (9, .int (nI (one))), (10, .int (nI (two)))]) X.1 X.2.1 dL_isSkin_31 hl (by decide) rfl (fun ls hl => ?_)
    refine lv_iload X.1 X.2.1 dL_isSkin_33 (lv_at hl 11 rfl) ?_
    refine lv_aload X.1 X.2.1 dL_isSkin_35 (lv_at hl 8 rfl) ?_
    refine lv_iconst (v := nI (1)) X.1 X.2.1 dL_isSkin_37 (by decide) ?_
    refine q_ald X h 9 (by decide) dL_isSkin_38 (i := 1) (v := nI (N 1)) rfl (by show _ < 9; omega) (fun V r => LR.g1 r) ?_
    refine lv_iconst (v := nI (1)) X.1 X.2.1 dL_isSkin_39 (by decide) ?_
    refine lv_iadd X.1 X.2.1 dL_isSkin_40 ?_
    refine lv_top (y := nI (N 1 + 1)) (nI_add _ _) ?_
    refine lv_irem X.1 X.2.1 dL_isSkin_41 (nI_n0 (by omega) (by omega)) ?_
    refine lv_top (y := nI (two % (N 1 + 1))) (pk_rem (by omega) (by omega) (by omega)) ?_
    have hr2 := Nat.mod_lt two (show 0 < N 1 + 1 by omega)
    generalize two % (N 1 + 1) = r2 at hr2 ⊢
    refine lv_istore (lv' := [(12, .int (nI (r2))), (11, .int (nI (k0))), (0, .ref x), (1, .ref (ar 0)), (2, .ref (ar 4)), (3, .ref (ar 5)), (4, .ref (ar 6)), (5, .ref (ar 7)), (6, .ref (ar 8)), (7, .ref (ar 9)), (8, .int (nI (1))), (9, .int (nI (one))), (10, .int (nI (two)))]) X.1 X.2.1 dL_isSkin_42 hl (by decide) rfl (fun ls hl => ?_)
    have K67 : ∀ (H : Heap) (locs : List Loc) (ls : Array Slot), qM G A s x ar (N, F, B) (N, F, B) H locs → lv_has ls 19 [(12, .int (nI (r2))), (11, .int (nI (k0))), (0, .ref x), (1, .ref (ar 0)), (2, .ref (ar 4)), (3, .ref (ar 5)), (4, .ref (ar 6)), (5, .ref (ar 7)), (6, .ref (ar 8)), (7, .ref (ar 9)), (8, .int (nI (1))), (9, .int (nI (one))), (10, .int (nI (two)))] → W p l e ({ frames := 9, cells := 20, slots := 200, locals := 154 } : Room) s m args below meth c H locs (0) (0) (QZ G A x ar (fun r C' D' => r = some (.int (nI 1)) ∧ C' = D' ∧ LI (jj + 1) D'.1 D'.2.1 D'.2.2) below args s 20 200) (F0 m 67 ls [.int (bI (decide (k0 < N 13 ∧ r2 < N 1)))]) := by
      intro  H locs ls h hl
      refine lv_istore (lv' := [(13, .int (bI (decide (k0 < N 13 ∧ r2 < N 1)))), (12, .int (nI (r2))), (11, .int (nI (k0))), (0, .ref x), (1, .ref (ar 0)), (2, .ref (ar 4)), (3, .ref (ar 5)), (4, .ref (ar 6)), (5, .ref (ar 7)), (6, .ref (ar 8)), (7, .ref (ar 9)), (8, .int (nI (1))), (9, .int (nI (one))), (10, .int (nI (two)))]) X.1 X.2.1 dL_isSkin_67 hl (by decide) rfl (fun ls hl => ?_)
      refine lv_iload X.1 X.2.1 dL_isSkin_69 (lv_at hl 0 rfl) ?_
      refine b_bool_eq (tgt := 89) X dL_isSkin_71 (by decide) (fun c3 => ?_) (fun c3 => ?_)
      · skip
        have c3 := of_decide_eq_false c3
        rw [show bI (decide (k0 < N 13 ∧ r2 < N 1)) = nI 0 from (bI_f (decide_eq_false c3)).symm] at hl
        refine lv_iconst (v := nI (0) - 1) X.1 X.2.1 dL_isSkin_89 (by decide) ?_
        refine lv_istore (lv' := [(14, .int (nI (0) - 1)), (13, .int (nI (0))), (12, .int (nI (r2))), (11, .int (nI (k0))), (0, .ref x), (1, .ref (ar 0)), (2, .ref (ar 4)), (3, .ref (ar 5)), (4, .ref (ar 6)), (5, .ref (ar 7)), (6, .ref (ar 8)), (7, .ref (ar 9)), (8, .int (nI (1))), (9, .int (nI (one))), (10, .int (nI (two)))]) X.1 X.2.1 dL_isSkin_90 hl (by decide) rfl (fun ls hl => ?_)
        refine lv_iload X.1 X.2.1 dL_isSkin_92 (lv_at hl 1 rfl) ?_
        refine b_if_eq (tgt := 135) X dL_isSkin_94 (by decide) (a := ((0 : Nat) : Int)) (nI_ti (by omega)) (fun c4 => ?_) (fun c4 => ?_)
        · skip
          refine lv_iconst (v := nI (0)) X.1 X.2.1 dL_isSkin_135 (by decide) ?_
          refine lv_istore (lv' := [(15, .int (nI (0))), (14, .int (nI (0) - 1)), (13, .int (nI (0))), (12, .int (nI (r2))), (11, .int (nI (k0))), (0, .ref x), (1, .ref (ar 0)), (2, .ref (ar 4)), (3, .ref (ar 5)), (4, .ref (ar 6)), (5, .ref (ar 7)), (6, .ref (ar 8)), (7, .ref (ar 9)), (8, .int (nI (1))), (9, .int (nI (one))), (10, .int (nI (two)))]) X.1 X.2.1 dL_isSkin_136 hl (by decide) rfl (fun ls hl => ?_)
          refine lv_iload X.1 X.2.1 dL_isSkin_138 (lv_at hl 13 rfl) ?_
          refine b_if_eq (tgt := 396) X dL_isSkin_140 (by decide) (a := ((1 : Nat) : Int)) (nI_ti (by omega)) (fun c5 => ?_) (fun c5 => ?_)
          · skip
            exact absurd c5 (by first | decide | omega)
          · skip
            have K168 : ∀ (pr : Nat) (hpr : pr < 10002) (H : Heap) (locs : List Loc) (ls : Array Slot), qM G A s x ar (N, F, B) (N, F, B) H locs → lv_has ls 19 [(15, .int (nI (0))), (14, .int (nI (0) - 1)), (13, .int (nI (0))), (12, .int (nI (r2))), (11, .int (nI (k0))), (0, .ref x), (1, .ref (ar 0)), (2, .ref (ar 4)), (3, .ref (ar 5)), (4, .ref (ar 6)), (5, .ref (ar 7)), (6, .ref (ar 8)), (7, .ref (ar 9)), (8, .int (nI (1))), (9, .int (nI (one))), (10, .int (nI (two)))] → W p l e ({ frames := 9, cells := 20, slots := 200, locals := 154 } : Room) s m args below meth c H locs (0) (0) (QZ G A x ar (fun r C' D' => r = some (.int (nI 1)) ∧ C' = D' ∧ LI (jj + 1) D'.1 D'.2.1 D'.2.2) below args s 20 200) (F0 m 168 ls [.int (nI (pr))]) := by
              intro pr hpr H locs ls h hl
              refine lv_istore (lv' := [(16, .int (nI (pr))), (15, .int (nI (0))), (14, .int (nI (0) - 1)), (13, .int (nI (0))), (12, .int (nI (r2))), (11, .int (nI (k0))), (0, .ref x), (1, .ref (ar 0)), (2, .ref (ar 4)), (3, .ref (ar 5)), (4, .ref (ar 6)), (5, .ref (ar 7)), (6, .ref (ar 8)), (7, .ref (ar 9)), (8, .int (nI (1))), (9, .int (nI (one))), (10, .int (nI (two)))]) X.1 X.2.1 dL_isSkin_168 hl (by decide) rfl (fun ls hl => ?_)
              have K183 : ∀ (H : Heap) (locs : List Loc) (ls : Array Slot), qM G A s x ar (N, F, B) (N, F, B) H locs → lv_has ls 19 [(16, .int (nI (pr))), (15, .int (nI (0))), (14, .int (nI (0) - 1)), (13, .int (nI (0))), (12, .int (nI (r2))), (11, .int (nI (k0))), (0, .ref x), (1, .ref (ar 0)), (2, .ref (ar 4)), (3, .ref (ar 5)), (4, .ref (ar 6)), (5, .ref (ar 7)), (6, .ref (ar 8)), (7, .ref (ar 9)), (8, .int (nI (1))), (9, .int (nI (one))), (10, .int (nI (two)))] → W p l e ({ frames := 9, cells := 20, slots := 200, locals := 154 } : Room) s m args below meth c H locs (0) (0) (QZ G A x ar (fun r C' D' => r = some (.int (nI 1)) ∧ C' = D' ∧ LI (jj + 1) D'.1 D'.2.1 D'.2.2) below args s 20 200) (F0 m 183 ls [.int (bI (decide (pr < 10001)))]) := by
                intro  H locs ls h hl
                refine lv_istore (lv' := [(17, .int (bI (decide (pr < 10001)))), (16, .int (nI (pr))), (15, .int (nI (0))), (14, .int (nI (0) - 1)), (13, .int (nI (0))), (12, .int (nI (r2))), (11, .int (nI (k0))), (0, .ref x), (1, .ref (ar 0)), (2, .ref (ar 4)), (3, .ref (ar 5)), (4, .ref (ar 6)), (5, .ref (ar 7)), (6, .ref (ar 8)), (7, .ref (ar 9)), (8, .int (nI (1))), (9, .int (nI (one))), (10, .int (nI (two)))]) X.1 X.2.1 dL_isSkin_183 hl (by decide) rfl (fun ls hl => ?_)
                refine lv_iload X.1 X.2.1 dL_isSkin_185 (lv_at hl 2 rfl) ?_
                refine b_if_eq (tgt := 202) X dL_isSkin_187 (by decide) (a := ((0 : Nat) : Int)) (nI_ti (by omega)) (fun c6 => ?_) (fun c6 => ?_)
                · skip
                  refine lv_iload X.1 X.2.1 dL_isSkin_202 (lv_at hl 2 rfl) ?_
                  refine b_if_eq (tgt := 225) X dL_isSkin_204 (by decide) (a := ((0 : Nat) : Int)) (nI_ti (by omega)) (fun c7 => ?_) (fun c7 => ?_)
                  · skip
                    refine lv_iconst (v := nI (0)) X.1 X.2.1 dL_isSkin_225 (by decide) ?_
                    refine lv_istore (lv' := [(18, .int (nI (0))), (17, .int (bI (decide (pr < 10001)))), (16, .int (nI (pr))), (15, .int (nI (0))), (14, .int (nI (0) - 1)), (13, .int (nI (0))), (12, .int (nI (r2))), (11, .int (nI (k0))), (0, .ref x), (1, .ref (ar 0)), (2, .ref (ar 4)), (3, .ref (ar 5)), (4, .ref (ar 6)), (5, .ref (ar 7)), (6, .ref (ar 8)), (7, .ref (ar 9)), (8, .int (nI (1))), (9, .int (nI (one))), (10, .int (nI (two)))]) X.1 X.2.1 dL_isSkin_226 hl (by decide) rfl (fun ls hl => ?_)
                    refine lv_iload X.1 X.2.1 dL_isSkin_228 (lv_at hl 3 rfl) ?_
                    refine b_if_eq (tgt := 336) X dL_isSkin_230 (by decide) (a := ((0 : Nat) : Int)) (nI_ti (by omega)) (fun c8 => ?_) (fun c8 => ?_)
                    · skip
                      have hK9 : kSell N F (nI k0) (nI r2) (nI pr) = 1 := kSell_1 (by omega) (by omega) (by omega) (by omega) c3
                      refine lv_aload_n X.1 X.2.1 dL_isSkin_336 rfl (lv_at hl 8 rfl) ?_
                      refine lv_iconst (v := nI (4)) X.1 X.2.1 dL_isSkin_337 (by decide) ?_
                      refine lv_iload X.1 X.2.1 dL_isSkin_338 (lv_at hl 7 rfl) ?_
                      refine lv_iload X.1 X.2.1 dL_isSkin_340 (lv_at hl 6 rfl) ?_
                      refine lv_iload X.1 X.2.1 dL_isSkin_342 (lv_at hl 2 rfl) ?_
                      refine q_callL X hS hZ hN h kcw_L_does kini_L (by decide) kar_L_does kml_L_does kst_L_does dL_isSkin_344 (As := [.ref x, .int (nI (4)), .int (nI (k0)), .int (nI (r2)), .int (nI (pr))]) ((c_L_does_sell l G x ar N F B (N, F, B) (nI (k0)) (nI (r2)) (nI (pr)) hst hI).k (k := 1) (hK9) (w := (-3000000)) (rfl) (C2 := (N, F, B)) (rfl)) rfl hl rfl (Nat.le_of_ble_eq_true rfl) ⟨Nat.le_of_ble_eq_true rfl, Nat.le_of_ble_eq_true rfl⟩ ⟨show 0 + 3 ≤ 20 by omega, show 0 + 18 ≤ 200 by omega⟩ ?_
                      rintro _ _ _ H locs ⟨rfl, rfl, rfl⟩ h
                      refine lv_iload X.1 X.2.1 dL_isSkin_347 (lv_at hl 5 rfl) ?_
                      refine b_if_ne (tgt := 357) X dL_isSkin_349 (by decide) (a := ((0 : Nat) : Int)) (nI_ti (by omega)) (fun c9 => ?_) (fun c9 => ?_)
                      · skip
                        exact absurd c9 (by first | decide | omega)
                      · skip
                        refine lv_ldc (own := RL) (index := 64) (v := (-3000000)) X.1 X.2.1 X.2.2.2.1 (X.2.2.2.2.1.use kco_L_64) dL_isSkin_352 ?_
                        refine lv_goto (tgt := 387) X.1 X.2.1 dL_isSkin_354 (by decide) ?_
                        refine b_icmp_ne (tgt := 394) X dL_isSkin_387 (by decide) (a := (-3000000)) (b := (-3000000)) ((by decide)) ((by decide)) (fun c10 => ?_) (fun c10 => ?_)
                        · skip
                          exact absurd c10 (by first | decide | omega)
                        · skip
                          refine lv_iconst (v := nI (1)) X.1 X.2.1 dL_isSkin_390 (by decide) ?_
                          refine lv_goto (tgt := 395) X.1 X.2.1 dL_isSkin_391 (by decide) ?_
                          exact q_zret X hr hlocks h dL_isSkin_395 ⟨show 0 + 3 ≤ 20 by omega, show 0 + 18 ≤ 200 by omega⟩ (rfl) (⟨rfl, rfl, hLI.more⟩)
                    · skip
                      exact absurd c8 (by first | decide | omega)
                  · skip
                    exact absurd c7 (by first | decide | omega)
                · skip
                  exact absurd c6 (by first | decide | omega)
              refine lv_iload X.1 X.2.1 dL_isSkin_170 (lv_at hl 0 rfl) ?_
              refine lv_sipush (v := nI (10001)) X.1 X.2.1 dL_isSkin_172 (by decide) ?_
              refine b_icmp_ge (tgt := 182) X dL_isSkin_175 (by decide) (a := ((pr : Nat) : Int)) (b := ((10001 : Nat) : Int)) (nI_ti (by omega)) (nI_ti (by omega)) (fun c11 => ?_) (fun c11 => ?_)
              · skip
                refine lv_iconst (v := nI (0)) X.1 X.2.1 dL_isSkin_182 (by decide) ?_
                refine lv_top (y := bI (decide (pr < 10001))) (bI_f (decide_eq_false (by omega))) ?_
                exact K183   _ _ _ h (lv_sub hl [0, 1, 2, 3, 4, 5, 6, 7, 8, 9, 10, 11, 12, 13, 14, 15, 16] rfl)
              · skip
                refine lv_iconst (v := nI (1)) X.1 X.2.1 dL_isSkin_178 (by decide) ?_
                refine lv_goto (tgt := 183) X.1 X.2.1 dL_isSkin_179 (by decide) ?_
                refine lv_top (y := bI (decide (pr < 10001))) (bI_t (decide_eq_true (by omega))) ?_
                exact K183   _ _ _ h (lv_sub hl [0, 1, 2, 3, 4, 5, 6, 7, 8, 9, 10, 11, 12, 13, 14, 15, 16] rfl)
            refine lv_iload X.1 X.2.1 dL_isSkin_143 (lv_at hl 15 rfl) ?_
            refine lv_bipush (v := nI (17)) X.1 X.2.1 dL_isSkin_145 (by decide) ?_
            refine lv_idiv X.1 X.2.1 dL_isSkin_147 (by decide) ?_
            refine lv_top (y := nI (two / 17)) (pk_div (by omega) (by omega) (by omega)) ?_
            refine lv_iconst (v := nI (3)) X.1 X.2.1 dL_isSkin_148 (by decide) ?_
            refine lv_irem X.1 X.2.1 dL_isSkin_149 (by decide) ?_
            refine lv_top (y := nI ((two / 17) % 3)) (pk_rem (by omega) (by omega) (by omega)) ?_
            refine b_if_ne (tgt := 162) X dL_isSkin_150 (by decide) (a := (((two / 17) % 3 : Nat) : Int)) (nI_ti (by omega)) (fun c12 => ?_) (fun c12 => ?_)
            · skip
              refine lv_iload X.1 X.2.1 dL_isSkin_162 (lv_at hl 15 rfl) ?_
              refine lv_sipush (v := nI (500)) X.1 X.2.1 dL_isSkin_164 (by decide) ?_
              refine lv_irem X.1 X.2.1 dL_isSkin_167 (by decide) ?_
              refine lv_top (y := nI (two % 500)) (pk_rem (by omega) (by omega) (by omega)) ?_
              exact K168 (two % 500) (by omega) _ _ _ h (lv_sub hl [0, 1, 2, 3, 4, 5, 6, 7, 8, 9, 10, 11, 12, 13, 14, 15] rfl)
            · skip
              refine lv_iload X.1 X.2.1 dL_isSkin_153 (lv_at hl 15 rfl) ?_
              refine lv_sipush (v := nI (10002)) X.1 X.2.1 dL_isSkin_155 (by decide) ?_
              refine lv_irem X.1 X.2.1 dL_isSkin_158 (by decide) ?_
              refine lv_top (y := nI (two % 10002)) (pk_rem (by omega) (by omega) (by omega)) ?_
              refine lv_goto (tgt := 168) X.1 X.2.1 dL_isSkin_159 (by decide) ?_
              exact K168 (two % 10002) (by omega) _ _ _ h (lv_sub hl [0, 1, 2, 3, 4, 5, 6, 7, 8, 9, 10, 11, 12, 13, 14, 15] rfl)
        · skip
          exact absurd c4 (by first | decide | omega)
      · skip
        have c3 := of_decide_eq_true c3
        rw [show bI (decide (k0 < N 13 ∧ r2 < N 1)) = nI 1 from (bI_t (decide_eq_true c3)).symm] at hl
        refine lv_aload_n X.1 X.2.1 dL_isSkin_74 rfl (lv_at hl 5 rfl) ?_
        refine lv_iload X.1 X.2.1 dL_isSkin_75 (lv_at hl 2 rfl) ?_
        refine q_ald X h 4 (by decide) dL_isSkin_77 (i := k0) (v := nI (hvS F k0)) rfl (by show _ < 36; omega) (fun V r => LR.h4 r (by omega)) ?_
        have b13 := hv_b hI (show k0 < N 13 by omega)
        refine lv_bipush (v := nI (32)) X.1 X.2.1 dL_isSkin_78 (by decide) ?_
        refine lv_idiv X.1 X.2.1 dL_isSkin_80 (by decide) ?_
        refine lv_top (y := nI ((hvS F k0) / 32)) (pk_div (by omega) (by omega) (by omega)) ?_
        refine lv_bipush (v := nI (32)) X.1 X.2.1 dL_isSkin_81 (by decide) ?_
        refine lv_irem X.1 X.2.1 dL_isSkin_83 (by decide) ?_
        refine lv_top (y := nI (F 17 k0)) ((pk_rem (by omega) (by omega) (by omega)).trans (congrArg nI b13.2.2.1)) ?_
        refine lv_iconst (v := nI (1)) X.1 X.2.1 dL_isSkin_84 (by decide) ?_
        refine lv_isub X.1 X.2.1 dL_isSkin_85 ?_
        refine lv_top (y := nI (F 17 k0) - 1) rfl ?_
        refine lv_goto (tgt := 90) X.1 X.2.1 dL_isSkin_86 (by decide) ?_
        refine lv_istore (lv' := [(14, .int (nI (F 17 k0) - 1)), (13, .int (nI (1))), (12, .int (nI (r2))), (11, .int (nI (k0))), (0, .ref x), (1, .ref (ar 0)), (2, .ref (ar 4)), (3, .ref (ar 5)), (4, .ref (ar 6)), (5, .ref (ar 7)), (6, .ref (ar 8)), (7, .ref (ar 9)), (8, .int (nI (1))), (9, .int (nI (one))), (10, .int (nI (two)))]) X.1 X.2.1 dL_isSkin_90 hl (by decide) rfl (fun ls hl => ?_)
        have K136 : ∀ (H : Heap) (locs : List Loc) (ls : Array Slot), qM G A s x ar (N, F, B) (N, F, B) H locs → lv_has ls 19 [(14, .int (nI (F 17 k0) - 1)), (13, .int (nI (1))), (12, .int (nI (r2))), (11, .int (nI (k0))), (0, .ref x), (1, .ref (ar 0)), (2, .ref (ar 4)), (3, .ref (ar 5)), (4, .ref (ar 6)), (5, .ref (ar 7)), (6, .ref (ar 8)), (7, .ref (ar 9)), (8, .int (nI (1))), (9, .int (nI (one))), (10, .int (nI (two)))] → W p l e ({ frames := 9, cells := 20, slots := 200, locals := 154 } : Room) s m args below meth c H locs (0) (0) (QZ G A x ar (fun r C' D' => r = some (.int (nI 1)) ∧ C' = D' ∧ LI (jj + 1) D'.1 D'.2.1 D'.2.2) below args s 20 200) (F0 m 136 ls [.int (bI (decide (F 17 k0 ≠ 0 ∧ F 17 k0 ≠ r2 + 1 ∧ F 3 (F 17 k0 - 1) ≤ N 0 ∧ F 3 r2 ≤ N 0)))]) := by
          intro  H locs ls h hl
          refine lv_istore (lv' := [(15, .int (bI (decide (F 17 k0 ≠ 0 ∧ F 17 k0 ≠ r2 + 1 ∧ F 3 (F 17 k0 - 1) ≤ N 0 ∧ F 3 r2 ≤ N 0)))), (14, .int (nI (F 17 k0) - 1)), (13, .int (nI (1))), (12, .int (nI (r2))), (11, .int (nI (k0))), (0, .ref x), (1, .ref (ar 0)), (2, .ref (ar 4)), (3, .ref (ar 5)), (4, .ref (ar 6)), (5, .ref (ar 7)), (6, .ref (ar 8)), (7, .ref (ar 9)), (8, .int (nI (1))), (9, .int (nI (one))), (10, .int (nI (two)))]) X.1 X.2.1 dL_isSkin_136 hl (by decide) rfl (fun ls hl => ?_)
          refine lv_iload X.1 X.2.1 dL_isSkin_138 (lv_at hl 13 rfl) ?_
          refine b_if_eq (tgt := 396) X dL_isSkin_140 (by decide) (a := ((1 : Nat) : Int)) (nI_ti (by omega)) (fun c14 => ?_) (fun c14 => ?_)
          · skip
            exact absurd c14 (by first | decide | omega)
          · skip
            have K168 : ∀ (pr : Nat) (hpr : pr < 10002) (H : Heap) (locs : List Loc) (ls : Array Slot), qM G A s x ar (N, F, B) (N, F, B) H locs → lv_has ls 19 [(15, .int (bI (decide (F 17 k0 ≠ 0 ∧ F 17 k0 ≠ r2 + 1 ∧ F 3 (F 17 k0 - 1) ≤ N 0 ∧ F 3 r2 ≤ N 0)))), (14, .int (nI (F 17 k0) - 1)), (13, .int (nI (1))), (12, .int (nI (r2))), (11, .int (nI (k0))), (0, .ref x), (1, .ref (ar 0)), (2, .ref (ar 4)), (3, .ref (ar 5)), (4, .ref (ar 6)), (5, .ref (ar 7)), (6, .ref (ar 8)), (7, .ref (ar 9)), (8, .int (nI (1))), (9, .int (nI (one))), (10, .int (nI (two)))] → W p l e ({ frames := 9, cells := 20, slots := 200, locals := 154 } : Room) s m args below meth c H locs (0) (0) (QZ G A x ar (fun r C' D' => r = some (.int (nI 1)) ∧ C' = D' ∧ LI (jj + 1) D'.1 D'.2.1 D'.2.2) below args s 20 200) (F0 m 168 ls [.int (nI (pr))]) := by
              intro pr hpr H locs ls h hl
              refine lv_istore (lv' := [(16, .int (nI (pr))), (15, .int (bI (decide (F 17 k0 ≠ 0 ∧ F 17 k0 ≠ r2 + 1 ∧ F 3 (F 17 k0 - 1) ≤ N 0 ∧ F 3 r2 ≤ N 0)))), (14, .int (nI (F 17 k0) - 1)), (13, .int (nI (1))), (12, .int (nI (r2))), (11, .int (nI (k0))), (0, .ref x), (1, .ref (ar 0)), (2, .ref (ar 4)), (3, .ref (ar 5)), (4, .ref (ar 6)), (5, .ref (ar 7)), (6, .ref (ar 8)), (7, .ref (ar 9)), (8, .int (nI (1))), (9, .int (nI (one))), (10, .int (nI (two)))]) X.1 X.2.1 dL_isSkin_168 hl (by decide) rfl (fun ls hl => ?_)
              have K183 : ∀ (H : Heap) (locs : List Loc) (ls : Array Slot), qM G A s x ar (N, F, B) (N, F, B) H locs → lv_has ls 19 [(16, .int (nI (pr))), (15, .int (bI (decide (F 17 k0 ≠ 0 ∧ F 17 k0 ≠ r2 + 1 ∧ F 3 (F 17 k0 - 1) ≤ N 0 ∧ F 3 r2 ≤ N 0)))), (14, .int (nI (F 17 k0) - 1)), (13, .int (nI (1))), (12, .int (nI (r2))), (11, .int (nI (k0))), (0, .ref x), (1, .ref (ar 0)), (2, .ref (ar 4)), (3, .ref (ar 5)), (4, .ref (ar 6)), (5, .ref (ar 7)), (6, .ref (ar 8)), (7, .ref (ar 9)), (8, .int (nI (1))), (9, .int (nI (one))), (10, .int (nI (two)))] → W p l e ({ frames := 9, cells := 20, slots := 200, locals := 154 } : Room) s m args below meth c H locs (0) (0) (QZ G A x ar (fun r C' D' => r = some (.int (nI 1)) ∧ C' = D' ∧ LI (jj + 1) D'.1 D'.2.1 D'.2.2) below args s 20 200) (F0 m 183 ls [.int (bI (decide (pr < 10001)))]) := by
                intro  H locs ls h hl
                refine lv_istore (lv' := [(17, .int (bI (decide (pr < 10001)))), (16, .int (nI (pr))), (15, .int (bI (decide (F 17 k0 ≠ 0 ∧ F 17 k0 ≠ r2 + 1 ∧ F 3 (F 17 k0 - 1) ≤ N 0 ∧ F 3 r2 ≤ N 0)))), (14, .int (nI (F 17 k0) - 1)), (13, .int (nI (1))), (12, .int (nI (r2))), (11, .int (nI (k0))), (0, .ref x), (1, .ref (ar 0)), (2, .ref (ar 4)), (3, .ref (ar 5)), (4, .ref (ar 6)), (5, .ref (ar 7)), (6, .ref (ar 8)), (7, .ref (ar 9)), (8, .int (nI (1))), (9, .int (nI (one))), (10, .int (nI (two)))]) X.1 X.2.1 dL_isSkin_183 hl (by decide) rfl (fun ls hl => ?_)
                refine lv_iload X.1 X.2.1 dL_isSkin_185 (lv_at hl 2 rfl) ?_
                refine b_bool_eq (tgt := 202) X dL_isSkin_187 (by decide) (fun c15 => ?_) (fun c15 => ?_)
                · skip
                  have c15 := of_decide_eq_false c15
                  rw [show bI (decide (F 17 k0 ≠ 0 ∧ F 17 k0 ≠ r2 + 1 ∧ F 3 (F 17 k0 - 1) ≤ N 0 ∧ F 3 r2 ≤ N 0)) = nI 0 from (bI_f (decide_eq_false c15)).symm] at hl
                  refine lv_iload X.1 X.2.1 dL_isSkin_202 (lv_at hl 2 rfl) ?_
                  refine b_if_eq (tgt := 225) X dL_isSkin_204 (by decide) (a := ((0 : Nat) : Int)) (nI_ti (by omega)) (fun c16 => ?_) (fun c16 => ?_)
                  · skip
                    refine lv_iconst (v := nI (0)) X.1 X.2.1 dL_isSkin_225 (by decide) ?_
                    refine lv_istore (lv' := [(18, .int (nI (0))), (17, .int (bI (decide (pr < 10001)))), (16, .int (nI (pr))), (15, .int (nI (0))), (14, .int (nI (F 17 k0) - 1)), (13, .int (nI (1))), (12, .int (nI (r2))), (11, .int (nI (k0))), (0, .ref x), (1, .ref (ar 0)), (2, .ref (ar 4)), (3, .ref (ar 5)), (4, .ref (ar 6)), (5, .ref (ar 7)), (6, .ref (ar 8)), (7, .ref (ar 9)), (8, .int (nI (1))), (9, .int (nI (one))), (10, .int (nI (two)))]) X.1 X.2.1 dL_isSkin_226 hl (by decide) rfl (fun ls hl => ?_)
                    refine lv_iload X.1 X.2.1 dL_isSkin_228 (lv_at hl 3 rfl) ?_
                    refine b_if_eq (tgt := 336) X dL_isSkin_230 (by decide) (a := ((0 : Nat) : Int)) (nI_ti (by omega)) (fun c17 => ?_) (fun c17 => ?_)
                    · skip
                      by_cases hR : pr < 10001
                      · skip
                        rw [show bI (decide (pr < 10001)) = nI 1 from (bI_t (decide_eq_true hR)).symm] at hl
                        have hK9 : kSell N F (nI k0) (nI r2) (nI pr) = 3 := by rw [kSell_v (by omega) (by omega) (by omega) (by omega) (by omega), if_neg (show ¬ ¬ pr ≤ 10000 by omega), if_neg (fun z => by have z2 := cDeal_t z.1; omega)]
                        refine lv_aload_n X.1 X.2.1 dL_isSkin_336 rfl (lv_at hl 8 rfl) ?_
                        refine lv_iconst (v := nI (4)) X.1 X.2.1 dL_isSkin_337 (by decide) ?_
                        refine lv_iload X.1 X.2.1 dL_isSkin_338 (lv_at hl 7 rfl) ?_
                        refine lv_iload X.1 X.2.1 dL_isSkin_340 (lv_at hl 6 rfl) ?_
                        refine lv_iload X.1 X.2.1 dL_isSkin_342 (lv_at hl 2 rfl) ?_
                        refine q_callL X hS hZ hN h kcw_L_does kini_L (by decide) kar_L_does kml_L_does kst_L_does dL_isSkin_344 (As := [.ref x, .int (nI (4)), .int (nI (k0)), .int (nI (r2)), .int (nI (pr))]) ((c_L_does_sell l G x ar N F B (N, F, B) (nI (k0)) (nI (r2)) (nI (pr)) hst hI).k (k := 3) (hK9) (w := (-1000000)) (rfl) (C2 := (N, F, B)) (rfl)) rfl hl rfl (Nat.le_of_ble_eq_true rfl) ⟨Nat.le_of_ble_eq_true rfl, Nat.le_of_ble_eq_true rfl⟩ ⟨show 0 + 3 ≤ 20 by omega, show 0 + 18 ≤ 200 by omega⟩ ?_
                        rintro _ _ _ H locs ⟨rfl, rfl, rfl⟩ h
                        refine lv_iload X.1 X.2.1 dL_isSkin_347 (lv_at hl 5 rfl) ?_
                        refine b_if_ne (tgt := 357) X dL_isSkin_349 (by decide) (a := ((1 : Nat) : Int)) (nI_ti (by omega)) (fun c18 => ?_) (fun c18 => ?_)
                        · skip
                          refine lv_iload X.1 X.2.1 dL_isSkin_357 (lv_at hl 1 rfl) ?_
                          refine b_if_ne (tgt := 367) X dL_isSkin_359 (by decide) (a := ((1 : Nat) : Int)) (nI_ti (by omega)) (fun c19 => ?_) (fun c19 => ?_)
                          · skip
                            refine lv_iload X.1 X.2.1 dL_isSkin_367 (lv_at hl 3 rfl) ?_
                            refine b_if_ne (tgt := 377) X dL_isSkin_369 (by decide) (a := ((0 : Nat) : Int)) (nI_ti (by omega)) (fun c20 => ?_) (fun c20 => ?_)
                            · skip
                              exact absurd c20 (by first | decide | omega)
                            · skip
                              refine lv_ldc (own := RL) (index := 70) (v := (-1000000)) X.1 X.2.1 X.2.2.2.1 (X.2.2.2.2.1.use kco_L_70) dL_isSkin_372 ?_
                              refine lv_goto (tgt := 387) X.1 X.2.1 dL_isSkin_374 (by decide) ?_
                              refine b_icmp_ne (tgt := 394) X dL_isSkin_387 (by decide) (a := (-1000000)) (b := (-1000000)) ((by decide)) ((by decide)) (fun c21 => ?_) (fun c21 => ?_)
                              · skip
                                exact absurd c21 (by first | decide | omega)
                              · skip
                                refine lv_iconst (v := nI (1)) X.1 X.2.1 dL_isSkin_390 (by decide) ?_
                                refine lv_goto (tgt := 395) X.1 X.2.1 dL_isSkin_391 (by decide) ?_
                                exact q_zret X hr hlocks h dL_isSkin_395 ⟨show 0 + 3 ≤ 20 by omega, show 0 + 18 ≤ 200 by omega⟩ (rfl) (⟨rfl, rfl, hLI.more⟩)
                          · skip
                            exact absurd c19 (by first | decide | omega)
                        · skip
                          exact absurd c18 (by first | decide | omega)
                      · skip
                        rw [show bI (decide (pr < 10001)) = nI 0 from (bI_f (decide_eq_false hR)).symm] at hl
                        have hK9 : kSell N F (nI k0) (nI r2) (nI pr) = 2 := by rw [kSell_v (by omega) (by omega) (by omega) (by omega) (by omega), if_pos (show ¬ pr ≤ 10000 by omega)]
                        refine lv_aload_n X.1 X.2.1 dL_isSkin_336 rfl (lv_at hl 8 rfl) ?_
                        refine lv_iconst (v := nI (4)) X.1 X.2.1 dL_isSkin_337 (by decide) ?_
                        refine lv_iload X.1 X.2.1 dL_isSkin_338 (lv_at hl 7 rfl) ?_
                        refine lv_iload X.1 X.2.1 dL_isSkin_340 (lv_at hl 6 rfl) ?_
                        refine lv_iload X.1 X.2.1 dL_isSkin_342 (lv_at hl 2 rfl) ?_
                        refine q_callL X hS hZ hN h kcw_L_does kini_L (by decide) kar_L_does kml_L_does kst_L_does dL_isSkin_344 (As := [.ref x, .int (nI (4)), .int (nI (k0)), .int (nI (r2)), .int (nI (pr))]) ((c_L_does_sell l G x ar N F B (N, F, B) (nI (k0)) (nI (r2)) (nI (pr)) hst hI).k (k := 2) (hK9) (w := (-2000000)) (rfl) (C2 := (N, F, B)) (rfl)) rfl hl rfl (Nat.le_of_ble_eq_true rfl) ⟨Nat.le_of_ble_eq_true rfl, Nat.le_of_ble_eq_true rfl⟩ ⟨show 0 + 3 ≤ 20 by omega, show 0 + 18 ≤ 200 by omega⟩ ?_
                        rintro _ _ _ H locs ⟨rfl, rfl, rfl⟩ h
                        refine lv_iload X.1 X.2.1 dL_isSkin_347 (lv_at hl 5 rfl) ?_
                        refine b_if_ne (tgt := 357) X dL_isSkin_349 (by decide) (a := ((1 : Nat) : Int)) (nI_ti (by omega)) (fun c22 => ?_) (fun c22 => ?_)
                        · skip
                          refine lv_iload X.1 X.2.1 dL_isSkin_357 (lv_at hl 1 rfl) ?_
                          refine b_if_ne (tgt := 367) X dL_isSkin_359 (by decide) (a := ((0 : Nat) : Int)) (nI_ti (by omega)) (fun c23 => ?_) (fun c23 => ?_)
                          · skip
                            exact absurd c23 (by first | decide | omega)
                          · skip
                            refine lv_ldc (own := RL) (index := 67) (v := (-2000000)) X.1 X.2.1 X.2.2.2.1 (X.2.2.2.2.1.use kco_L_67) dL_isSkin_362 ?_
                            refine lv_goto (tgt := 387) X.1 X.2.1 dL_isSkin_364 (by decide) ?_
                            refine b_icmp_ne (tgt := 394) X dL_isSkin_387 (by decide) (a := (-2000000)) (b := (-2000000)) ((by decide)) ((by decide)) (fun c24 => ?_) (fun c24 => ?_)
                            · skip
                              exact absurd c24 (by first | decide | omega)
                            · skip
                              refine lv_iconst (v := nI (1)) X.1 X.2.1 dL_isSkin_390 (by decide) ?_
                              refine lv_goto (tgt := 395) X.1 X.2.1 dL_isSkin_391 (by decide) ?_
                              exact q_zret X hr hlocks h dL_isSkin_395 ⟨show 0 + 3 ≤ 20 by omega, show 0 + 18 ≤ 200 by omega⟩ (rfl) (⟨rfl, rfl, hLI.more⟩)
                        · skip
                          exact absurd c22 (by first | decide | omega)
                    · skip
                      exact absurd c17 (by first | decide | omega)
                  · skip
                    exact absurd c16 (by first | decide | omega)
                · skip
                  have c15 := of_decide_eq_true c15
                  rw [show bI (decide (F 17 k0 ≠ 0 ∧ F 17 k0 ≠ r2 + 1 ∧ F 3 (F 17 k0 - 1) ≤ N 0 ∧ F 3 r2 ≤ N 0)) = nI 1 from (bI_t (decide_eq_true c15)).symm] at hl
                  have hsl : F 21 k0 ≤ 10 ∧ (5 < k0 → F 21 k0 = 0) := qM.sl h (show k0 < N 13 by omega)
                  refine lv_aload X.1 X.2.1 dL_isSkin_190 (lv_at hl 12 rfl) ?_
                  refine lv_iload X.1 X.2.1 dL_isSkin_192 (lv_at hl 6 rfl) ?_
                  refine q_ald X h 7 (by decide) dL_isSkin_194 (i := k0) (v := nI (F 21 (k0))) rfl (by show _ < 36; omega) (fun V r => LR.n7 r (by omega) (by omega)) ?_
                  have b25 := hI.k (k := k0) (by omega)
                  refine lv_bipush (v := nI (10)) X.1 X.2.1 dL_isSkin_195 (by decide) ?_
                  refine b_icmp_ne (tgt := 202) X dL_isSkin_197 (by decide) (a := ((F 21 (k0) : Nat) : Int)) (b := ((10 : Nat) : Int)) (nI_ti (by omega)) (nI_ti (by omega)) (fun c26 => ?_) (fun c26 => ?_)
                  · skip
                    refine lv_iload X.1 X.2.1 dL_isSkin_202 (lv_at hl 2 rfl) ?_
                    refine b_if_eq (tgt := 225) X dL_isSkin_204 (by decide) (a := ((1 : Nat) : Int)) (nI_ti (by omega)) (fun c27 => ?_) (fun c27 => ?_)
                    · skip
                      exact absurd c27 (by first | decide | omega)
                    · skip
                      refine lv_aload_n X.1 X.2.1 dL_isSkin_207 rfl (lv_at hl 8 rfl) ?_
                      refine lv_iload X.1 X.2.1 dL_isSkin_208 (lv_at hl 3 rfl) ?_
                      refine q_ald X h 0 (by decide) dL_isSkin_210 (i := F 17 k0 - 1) (v := nI (F 2 (F 17 k0 - 1)) - 1) (eI_pos (by omega)) (by show _ < 48; omega) (fun V r => LR.p0 r (by omega)) ?_
                      have b28 := hI.p (F 17 k0 - 1)
                      refine b_if_ge (tgt := 225) X dL_isSkin_211 (by decide) (a := ((F 2 (F 17 k0 - 1) : Nat) : Int) - 1) (eI_ti (by omega)) (fun c29 => ?_) (fun c29 => ?_)
                      · skip
                        refine lv_iconst (v := nI (0)) X.1 X.2.1 dL_isSkin_225 (by decide) ?_
                        refine lv_istore (lv' := [(18, .int (nI (0))), (17, .int (bI (decide (pr < 10001)))), (16, .int (nI (pr))), (15, .int (nI (1))), (14, .int (nI (F 17 k0) - 1)), (13, .int (nI (1))), (12, .int (nI (r2))), (11, .int (nI (k0))), (0, .ref x), (1, .ref (ar 0)), (2, .ref (ar 4)), (3, .ref (ar 5)), (4, .ref (ar 6)), (5, .ref (ar 7)), (6, .ref (ar 8)), (7, .ref (ar 9)), (8, .int (nI (1))), (9, .int (nI (one))), (10, .int (nI (two)))]) X.1 X.2.1 dL_isSkin_226 hl (by decide) rfl (fun ls hl => ?_)
                        refine lv_iload X.1 X.2.1 dL_isSkin_228 (lv_at hl 3 rfl) ?_
                        refine b_if_eq (tgt := 336) X dL_isSkin_230 (by decide) (a := ((1 : Nat) : Int)) (nI_ti (by omega)) (fun c30 => ?_) (fun c30 => ?_)
                        · skip
                          exact absurd c30 (by first | decide | omega)
                        · skip
                          refine lv_iload X.1 X.2.1 dL_isSkin_233 (lv_at hl 1 rfl) ?_
                          refine b_bool_eq (tgt := 336) X dL_isSkin_235 (by decide) (fun c31 => ?_) (fun c31 => ?_)
                          · skip
                            have c31 := of_decide_eq_false c31
                            rw [show bI (decide (pr < 10001)) = nI 0 from (bI_f (decide_eq_false c31)).symm] at hl
                            have hK9 : kSell N F (nI k0) (nI r2) (nI pr) = 2 := by rw [kSell_v (by omega) (by omega) (by omega) (by omega) (by omega), if_pos (show ¬ pr ≤ 10000 by omega)]
                            refine lv_aload_n X.1 X.2.1 dL_isSkin_336 rfl (lv_at hl 8 rfl) ?_
                            refine lv_iconst (v := nI (4)) X.1 X.2.1 dL_isSkin_337 (by decide) ?_
                            refine lv_iload X.1 X.2.1 dL_isSkin_338 (lv_at hl 7 rfl) ?_
                            refine lv_iload X.1 X.2.1 dL_isSkin_340 (lv_at hl 6 rfl) ?_
                            refine lv_iload X.1 X.2.1 dL_isSkin_342 (lv_at hl 2 rfl) ?_
                            refine q_callL X hS hZ hN h kcw_L_does kini_L (by decide) kar_L_does kml_L_does kst_L_does dL_isSkin_344 (As := [.ref x, .int (nI (4)), .int (nI (k0)), .int (nI (r2)), .int (nI (pr))]) ((c_L_does_sell l G x ar N F B (N, F, B) (nI (k0)) (nI (r2)) (nI (pr)) hst hI).k (k := 2) (hK9) (w := (-2000000)) (rfl) (C2 := (N, F, B)) (rfl)) rfl hl rfl (Nat.le_of_ble_eq_true rfl) ⟨Nat.le_of_ble_eq_true rfl, Nat.le_of_ble_eq_true rfl⟩ ⟨show 0 + 3 ≤ 20 by omega, show 0 + 18 ≤ 200 by omega⟩ ?_
                            rintro _ _ _ H locs ⟨rfl, rfl, rfl⟩ h
                            refine lv_iload X.1 X.2.1 dL_isSkin_347 (lv_at hl 5 rfl) ?_
                            refine b_if_ne (tgt := 357) X dL_isSkin_349 (by decide) (a := ((1 : Nat) : Int)) (nI_ti (by omega)) (fun c32 => ?_) (fun c32 => ?_)
                            · skip
                              refine lv_iload X.1 X.2.1 dL_isSkin_357 (lv_at hl 1 rfl) ?_
                              refine b_if_ne (tgt := 367) X dL_isSkin_359 (by decide) (a := ((0 : Nat) : Int)) (nI_ti (by omega)) (fun c33 => ?_) (fun c33 => ?_)
                              · skip
                                exact absurd c33 (by first | decide | omega)
                              · skip
                                refine lv_ldc (own := RL) (index := 67) (v := (-2000000)) X.1 X.2.1 X.2.2.2.1 (X.2.2.2.2.1.use kco_L_67) dL_isSkin_362 ?_
                                refine lv_goto (tgt := 387) X.1 X.2.1 dL_isSkin_364 (by decide) ?_
                                refine b_icmp_ne (tgt := 394) X dL_isSkin_387 (by decide) (a := (-2000000)) (b := (-2000000)) ((by decide)) ((by decide)) (fun c34 => ?_) (fun c34 => ?_)
                                · skip
                                  exact absurd c34 (by first | decide | omega)
                                · skip
                                  refine lv_iconst (v := nI (1)) X.1 X.2.1 dL_isSkin_390 (by decide) ?_
                                  refine lv_goto (tgt := 395) X.1 X.2.1 dL_isSkin_391 (by decide) ?_
                                  exact q_zret X hr hlocks h dL_isSkin_395 ⟨show 0 + 3 ≤ 20 by omega, show 0 + 18 ≤ 200 by omega⟩ (rfl) (⟨rfl, rfl, hLI.more⟩)
                            · skip
                              exact absurd c32 (by first | decide | omega)
                          · skip
                            have c31 := of_decide_eq_true c31
                            rw [show bI (decide (pr < 10001)) = nI 1 from (bI_t (decide_eq_true c31)).symm] at hl
                            obtain ⟨V, lr, h⟩ := qM.opn h
                            refine lv_aload X.1 X.2.1 dL_isSkin_238 (lv_at hl 14 rfl) ?_
                            refine lv_bipush (v := nI (10)) X.1 X.2.1 dL_isSkin_240 (by decide) ?_
                            refine lv_iload X.1 X.2.1 dL_isSkin_242 (lv_at hl 7 rfl) ?_
                            refine lv_imul X.1 X.2.1 dL_isSkin_244 ?_
                            refine lv_top (y := nI (10 * k0)) (pk_mul _ _) ?_
                            refine lv_aload X.1 X.2.1 dL_isSkin_245 (lv_at hl 13 rfl) ?_
                            refine lv_iload X.1 X.2.1 dL_isSkin_247 (lv_at hl 7 rfl) ?_
                            refine v_ald X h 7 (by decide) dL_isSkin_249 (i := k0) (v := nI (F 21 (k0))) rfl (by show _ < 36; omega) (show V 7 (k0) = _ from LR.n7 lr (by omega) (by omega)) ?_
                            refine lv_iadd X.1 X.2.1 dL_isSkin_250 ?_
                            refine lv_top (y := nI (10 * k0 + (F 21 (k0)))) (nI_add _ _) ?_
                            refine lv_iload X.1 X.2.1 dL_isSkin_251 (lv_at hl 4 rfl) ?_
                            refine lv_top (y := nI (F 17 k0 - 1)) (eI_pos (by omega)) ?_
                            refine lv_bipush (v := nI (16)) X.1 X.2.1 dL_isSkin_253 (by decide) ?_
                            refine lv_iload X.1 X.2.1 dL_isSkin_255 (lv_at hl 6 rfl) ?_
                            refine lv_imul X.1 X.2.1 dL_isSkin_257 ?_
                            refine lv_top (y := nI (16 * r2)) (pk_mul _ _) ?_
                            refine lv_iadd X.1 X.2.1 dL_isSkin_258 ?_
                            refine lv_top (y := nI (F 17 k0 - 1 + (16 * r2))) (nI_add _ _) ?_
                            refine lv_sipush (v := nI (256)) X.1 X.2.1 dL_isSkin_259 (by decide) ?_
                            refine lv_iload X.1 X.2.1 dL_isSkin_262 (lv_at hl 2 rfl) ?_
                            refine lv_imul X.1 X.2.1 dL_isSkin_264 ?_
                            refine lv_top (y := nI (256 * pr)) (pk_mul _ _) ?_
                            refine lv_iadd X.1 X.2.1 dL_isSkin_265 ?_
                            refine lv_top (y := nI (F 17 k0 - 1 + (16 * r2) + (256 * pr))) (nI_add _ _) ?_
                            refine v_ast X h 8 (by decide) dL_isSkin_266 (i := 10 * k0 + (F 21 (k0))) (w := nI (F 17 k0 - 1 + (16 * r2) + (256 * pr))) rfl (by show _ < 60; omega) (fun H locs h => ?_)
                            refine lv_aload X.1 X.2.1 dL_isSkin_267 (lv_at hl 13 rfl) ?_
                            refine lv_iload X.1 X.2.1 dL_isSkin_269 (lv_at hl 7 rfl) ?_
                            refine lv_dup2_11 X.1 X.2.1 dL_isSkin_271 rfl rfl ?_
                            refine v_ald X h 7 (by decide) dL_isSkin_272 (i := k0) (v := nI (F 21 (k0))) rfl (by show _ < 36; omega) (show V 7 (k0) = _ from LR.n7 lr (by omega) (by omega)) ?_
                            refine lv_iconst (v := nI (1)) X.1 X.2.1 dL_isSkin_273 (by decide) ?_
                            refine lv_iadd X.1 X.2.1 dL_isSkin_274 ?_
                            refine lv_top (y := nI (F 21 (k0) + 1)) (nI_add _ _) ?_
                            refine v_ast X h 7 (by decide) dL_isSkin_275 (i := k0) (w := nI (F 21 (k0) + 1)) rfl (by show _ < 36; omega) (fun H locs h => ?_)
                            have h := qV.close h (lr.sel (a := F 17 k0 - 1) (b := r2) (pr := pr) (n0 := F 21 k0) (by omega) (by omega) (by omega) rfl (by omega))
                            refine lv_aload X.1 X.2.1 dL_isSkin_276 (lv_at hl 12 rfl) ?_
                            refine lv_iload X.1 X.2.1 dL_isSkin_278 (lv_at hl 7 rfl) ?_
                            refine lv_iload X.1 X.2.1 dL_isSkin_280 (lv_at hl 0 rfl) ?_
                            refine b_if_eq (tgt := 301) X dL_isSkin_282 (by decide) (a := ((0 : Nat) : Int)) (nI_ti (by omega)) (fun c35 => ?_) (fun c35 => ?_)
                            · skip
                              refine lv_aload X.1 X.2.1 dL_isSkin_301 (lv_at hl 12 rfl) ?_
                              refine lv_iload X.1 X.2.1 dL_isSkin_303 (lv_at hl 7 rfl) ?_
                              refine q_ald X h 6 (by decide) dL_isSkin_305 (i := k0) (v := nI (F 20 k0)) rfl (by show _ < 36; omega) (fun V r => LR.f6 r (by omega) (by omega)) ?_
                              have b36 := hI.k (k := k0) (by omega)
                              refine q_ast X h 6 (by decide) dL_isSkin_306 (i := k0) N (set1 (set1 (set1 (set1 (set1 F 22 (20 * k0 + F 21 k0) (F 17 k0 - 1)) 23 (20 * k0 + F 21 k0) r2) 24 (20 * k0 + F 21 k0) pr) 21 k0 (F 21 k0 + 1)) 20 k0 (F 20 k0)) B rfl (by show _ < 36; omega) (fun V r => LR.wf r (by omega) _) (fun H locs h => ?_)
                              refine lv_aload_n X.1 X.2.1 dL_isSkin_307 rfl (lv_at hl 9 rfl) ?_
                              refine lv_iload X.1 X.2.1 dL_isSkin_308 (lv_at hl 6 rfl) ?_
                              refine lv_top (y := nI (r2 + 1) - 1) (eI_suc _) ?_
                              refine lv_iload X.1 X.2.1 dL_isSkin_310 (lv_at hl 4 rfl) ?_
                              refine lv_iload X.1 X.2.1 dL_isSkin_312 (lv_at hl 2 rfl) ?_
                              refine q_call X hS hZ hN h ck_L_91 kst_L_pays dL_isSkin_314 (As := [.ref (ar 0), .int (nI (r2 + 1) - 1), .int (nI (F 17 k0) - 1), .int (nI (pr))]) (c_L_pays l G x ar (N, F, B) N (set1 (set1 (set1 (set1 (set1 F 22 (20 * k0 + F 21 k0) (F 17 k0 - 1)) 23 (20 * k0 + F 21 k0) r2) 24 (20 * k0 + F 21 k0) pr) 21 k0 (F 21 k0 + 1)) 20 k0 (F 20 k0)) B (r2 + 1) (F 17 k0) pr (by omega) (by omega) (by omega)) rfl hl rfl (Nat.le_of_ble_eq_true rfl) ⟨Nat.le_of_ble_eq_true rfl, Nat.le_of_ble_eq_true rfl⟩ ⟨show 0 + 0 ≤ 20 by omega, show 0 + 0 ≤ 200 by omega⟩ ?_
                              rintro _ _ _ H locs ⟨rfl, rfl, rfl⟩ h
                              refine lv_aload_n X.1 X.2.1 dL_isSkin_317 rfl (lv_at hl 10 rfl) ?_
                              refine lv_iload X.1 X.2.1 dL_isSkin_318 (lv_at hl 7 rfl) ?_
                              refine lv_aload_n X.1 X.2.1 dL_isSkin_320 rfl (lv_at hl 10 rfl) ?_
                              refine lv_iload X.1 X.2.1 dL_isSkin_321 (lv_at hl 7 rfl) ?_
                              refine q_ald X h 4 (by decide) dL_isSkin_323 (i := k0) (v := nI (hvS F k0)) rfl (by show _ < 36; omega) (fun V r => LR.h4 r (by omega)) ?_
                              have b37 := hv_b hI (show k0 < N 13 by omega)
                              refine lv_bipush (v := nI (32)) X.1 X.2.1 dL_isSkin_324 (by decide) ?_
                              refine lv_irem X.1 X.2.1 dL_isSkin_326 (by decide) ?_
                              refine lv_top (y := nI (F 16 k0)) ((pk_rem (by omega) (by omega) (by omega)).trans (congrArg nI b37.2.1)) ?_
                              refine lv_bipush (v := nI (32)) X.1 X.2.1 dL_isSkin_327 (by decide) ?_
                              refine lv_iload X.1 X.2.1 dL_isSkin_329 (lv_at hl 6 rfl) ?_
                              refine lv_iconst (v := nI (1)) X.1 X.2.1 dL_isSkin_331 (by decide) ?_
                              refine lv_iadd X.1 X.2.1 dL_isSkin_332 ?_
                              refine lv_top (y := nI (r2 + 1)) (nI_add _ _) ?_
                              refine lv_imul X.1 X.2.1 dL_isSkin_333 ?_
                              refine lv_top (y := nI (32 * (r2 + 1))) (pk_mul _ _) ?_
                              refine lv_iadd X.1 X.2.1 dL_isSkin_334 ?_
                              refine lv_top (y := nI (F 16 k0 + (32 * (r2 + 1)))) (nI_add _ _) ?_
                              refine q_ast X h 4 (by decide) dL_isSkin_335 (i := k0) N (set1 (set1 (set1 (set1 (set1 (set1 (set1 F 22 (20 * k0 + F 21 k0) (F 17 k0 - 1)) 23 (20 * k0 + F 21 k0) r2) 24 (20 * k0 + F 21 k0) pr) 21 k0 (F 21 k0 + 1)) 20 k0 (F 20 k0)) 17 k0 (r2 + 1)) 18 k0 0) ((payS B (r2 + 1) (F 17 k0) pr)) rfl (by show _ < 36; omega) (fun V r => LR.whs (v := r2 + 1) r rfl) (fun H locs h => ?_)
                              have hK9 : kSell N F (nI k0) (nI r2) (nI pr) = 0 := by rw [kSell_v (by omega) (by omega) (by omega) (by omega) (by omega), if_neg (show ¬ ¬ pr ≤ 10000 by omega), if_pos ⟨cDeal_m (by omega), by omega⟩]
                              rw [fSell_o (p := r2) (pr := pr) (n0 := F 21 k0) (fv := F 20 k0) rfl (by rw [if_neg (fun z => by rw [faith_f (by omega)] at z; exact Bool.noConfusion z.1)]), bSell_pay (h0 := F 17 k0) rfl (by omega) (by omega)] at h
                              refine lv_aload_n X.1 X.2.1 dL_isSkin_336 rfl (lv_at hl 8 rfl) ?_
                              refine lv_iconst (v := nI (4)) X.1 X.2.1 dL_isSkin_337 (by decide) ?_
                              refine lv_iload X.1 X.2.1 dL_isSkin_338 (lv_at hl 7 rfl) ?_
                              refine lv_iload X.1 X.2.1 dL_isSkin_340 (lv_at hl 6 rfl) ?_
                              refine lv_iload X.1 X.2.1 dL_isSkin_342 (lv_at hl 2 rfl) ?_
                              refine q_callL X hS hZ hN h kcw_L_does kini_L (by decide) kar_L_does kml_L_does kst_L_does dL_isSkin_344 (As := [.ref x, .int (nI (4)), .int (nI (k0)), .int (nI (r2)), .int (nI (pr))]) ((c_L_does_sell l G x ar N F B (N, (fSell F k0 r2 pr), (bSell F B k0 r2 pr)) (nI (k0)) (nI (r2)) (nI (pr)) hst hI).k (k := 0) (hK9) (w := nI (0)) (by show bI (faithS F (ix (nI k0)) (ix (nI r2))) = nI 0; rw [ix_nI (by omega), ix_nI (by omega), faith_f (by omega)]; rfl) (C2 := (N, fSell F k0 r2 pr, bSell F B k0 r2 pr)) (by rw [ix_nI (by omega), ix_nI (by omega), ix_nI (by omega)]; rfl)) rfl hl rfl (Nat.le_of_ble_eq_true rfl) ⟨Nat.le_of_ble_eq_true rfl, Nat.le_of_ble_eq_true rfl⟩ ⟨show 0 + 3 ≤ 20 by omega, show 0 + 18 ≤ 200 by omega⟩ ?_
                              rintro _ _ _ H locs ⟨rfl, rfl, rfl⟩ h
                              refine lv_iload X.1 X.2.1 dL_isSkin_347 (lv_at hl 5 rfl) ?_
                              refine b_if_ne (tgt := 357) X dL_isSkin_349 (by decide) (a := ((1 : Nat) : Int)) (nI_ti (by omega)) (fun c38 => ?_) (fun c38 => ?_)
                              · skip
                                refine lv_iload X.1 X.2.1 dL_isSkin_357 (lv_at hl 1 rfl) ?_
                                refine b_if_ne (tgt := 367) X dL_isSkin_359 (by decide) (a := ((1 : Nat) : Int)) (nI_ti (by omega)) (fun c39 => ?_) (fun c39 => ?_)
                                · skip
                                  refine lv_iload X.1 X.2.1 dL_isSkin_367 (lv_at hl 3 rfl) ?_
                                  refine b_if_ne (tgt := 377) X dL_isSkin_369 (by decide) (a := ((1 : Nat) : Int)) (nI_ti (by omega)) (fun c40 => ?_) (fun c40 => ?_)
                                  · skip
                                    refine lv_iload X.1 X.2.1 dL_isSkin_377 (lv_at hl 0 rfl) ?_
                                    refine b_if_eq (tgt := 386) X dL_isSkin_379 (by decide) (a := ((0 : Nat) : Int)) (nI_ti (by omega)) (fun c41 => ?_) (fun c41 => ?_)
                                    · skip
                                      refine lv_iconst (v := nI (0)) X.1 X.2.1 dL_isSkin_386 (by decide) ?_
                                      refine b_icmp_ne (tgt := 394) X dL_isSkin_387 (by decide) (a := ((0 : Nat) : Int)) (b := ((0 : Nat) : Int)) (nI_ti (by omega)) (nI_ti (by omega)) (fun c42 => ?_) (fun c42 => ?_)
                                      · skip
                                        exact absurd c42 (by first | decide | omega)
                                      · skip
                                        refine lv_iconst (v := nI (1)) X.1 X.2.1 dL_isSkin_390 (by decide) ?_
                                        refine lv_goto (tgt := 395) X.1 X.2.1 dL_isSkin_391 (by decide) ?_
                                        exact q_zret X hr hlocks h dL_isSkin_395 ⟨show 0 + 3 ≤ 20 by omega, show 0 + 18 ≤ 200 by omega⟩ (rfl) (⟨rfl, rfl, by have z9 := stp_sell hLI hK9; rw [ix_nI (by omega), ix_nI (by omega), ix_nI (by omega)] at z9; exact z9⟩)
                                    · skip
                                      exact absurd c41 (by first | decide | omega)
                                  · skip
                                    exact absurd c40 (by first | decide | omega)
                                · skip
                                  exact absurd c39 (by first | decide | omega)
                              · skip
                                exact absurd c38 (by first | decide | omega)
                            · skip
                              exact absurd c35 (by first | decide | omega)
                      · skip
                        refine lv_aload_n X.1 X.2.1 dL_isSkin_214 rfl (lv_at hl 8 rfl) ?_
                        refine lv_iload X.1 X.2.1 dL_isSkin_215 (lv_at hl 5 rfl) ?_
                        refine q_ald X h 0 (by decide) dL_isSkin_217 (i := r2) (v := nI (F 2 (r2)) - 1) rfl (by show _ < 48; omega) (fun V r => LR.p0 r (by omega)) ?_
                        have b43 := hI.p (r2)
                        refine b_if_ge (tgt := 225) X dL_isSkin_218 (by decide) (a := ((F 2 (r2) : Nat) : Int) - 1) (eI_ti (by omega)) (fun c44 => ?_) (fun c44 => ?_)
                        · skip
                          refine lv_iconst (v := nI (0)) X.1 X.2.1 dL_isSkin_225 (by decide) ?_
                          refine lv_istore (lv' := [(18, .int (nI (0))), (17, .int (bI (decide (pr < 10001)))), (16, .int (nI (pr))), (15, .int (nI (1))), (14, .int (nI (F 17 k0) - 1)), (13, .int (nI (1))), (12, .int (nI (r2))), (11, .int (nI (k0))), (0, .ref x), (1, .ref (ar 0)), (2, .ref (ar 4)), (3, .ref (ar 5)), (4, .ref (ar 6)), (5, .ref (ar 7)), (6, .ref (ar 8)), (7, .ref (ar 9)), (8, .int (nI (1))), (9, .int (nI (one))), (10, .int (nI (two)))]) X.1 X.2.1 dL_isSkin_226 hl (by decide) rfl (fun ls hl => ?_)
                          refine lv_iload X.1 X.2.1 dL_isSkin_228 (lv_at hl 3 rfl) ?_
                          refine b_if_eq (tgt := 336) X dL_isSkin_230 (by decide) (a := ((1 : Nat) : Int)) (nI_ti (by omega)) (fun c45 => ?_) (fun c45 => ?_)
                          · skip
                            exact absurd c45 (by first | decide | omega)
                          · skip
                            refine lv_iload X.1 X.2.1 dL_isSkin_233 (lv_at hl 1 rfl) ?_
                            refine b_bool_eq (tgt := 336) X dL_isSkin_235 (by decide) (fun c46 => ?_) (fun c46 => ?_)
                            · skip
                              have c46 := of_decide_eq_false c46
                              rw [show bI (decide (pr < 10001)) = nI 0 from (bI_f (decide_eq_false c46)).symm] at hl
                              have hK9 : kSell N F (nI k0) (nI r2) (nI pr) = 2 := by rw [kSell_v (by omega) (by omega) (by omega) (by omega) (by omega), if_pos (show ¬ pr ≤ 10000 by omega)]
                              refine lv_aload_n X.1 X.2.1 dL_isSkin_336 rfl (lv_at hl 8 rfl) ?_
                              refine lv_iconst (v := nI (4)) X.1 X.2.1 dL_isSkin_337 (by decide) ?_
                              refine lv_iload X.1 X.2.1 dL_isSkin_338 (lv_at hl 7 rfl) ?_
                              refine lv_iload X.1 X.2.1 dL_isSkin_340 (lv_at hl 6 rfl) ?_
                              refine lv_iload X.1 X.2.1 dL_isSkin_342 (lv_at hl 2 rfl) ?_
                              refine q_callL X hS hZ hN h kcw_L_does kini_L (by decide) kar_L_does kml_L_does kst_L_does dL_isSkin_344 (As := [.ref x, .int (nI (4)), .int (nI (k0)), .int (nI (r2)), .int (nI (pr))]) ((c_L_does_sell l G x ar N F B (N, F, B) (nI (k0)) (nI (r2)) (nI (pr)) hst hI).k (k := 2) (hK9) (w := (-2000000)) (rfl) (C2 := (N, F, B)) (rfl)) rfl hl rfl (Nat.le_of_ble_eq_true rfl) ⟨Nat.le_of_ble_eq_true rfl, Nat.le_of_ble_eq_true rfl⟩ ⟨show 0 + 3 ≤ 20 by omega, show 0 + 18 ≤ 200 by omega⟩ ?_
                              rintro _ _ _ H locs ⟨rfl, rfl, rfl⟩ h
                              refine lv_iload X.1 X.2.1 dL_isSkin_347 (lv_at hl 5 rfl) ?_
                              refine b_if_ne (tgt := 357) X dL_isSkin_349 (by decide) (a := ((1 : Nat) : Int)) (nI_ti (by omega)) (fun c47 => ?_) (fun c47 => ?_)
                              · skip
                                refine lv_iload X.1 X.2.1 dL_isSkin_357 (lv_at hl 1 rfl) ?_
                                refine b_if_ne (tgt := 367) X dL_isSkin_359 (by decide) (a := ((0 : Nat) : Int)) (nI_ti (by omega)) (fun c48 => ?_) (fun c48 => ?_)
                                · skip
                                  exact absurd c48 (by first | decide | omega)
                                · skip
                                  refine lv_ldc (own := RL) (index := 67) (v := (-2000000)) X.1 X.2.1 X.2.2.2.1 (X.2.2.2.2.1.use kco_L_67) dL_isSkin_362 ?_
                                  refine lv_goto (tgt := 387) X.1 X.2.1 dL_isSkin_364 (by decide) ?_
                                  refine b_icmp_ne (tgt := 394) X dL_isSkin_387 (by decide) (a := (-2000000)) (b := (-2000000)) ((by decide)) ((by decide)) (fun c49 => ?_) (fun c49 => ?_)
                                  · skip
                                    exact absurd c49 (by first | decide | omega)
                                  · skip
                                    refine lv_iconst (v := nI (1)) X.1 X.2.1 dL_isSkin_390 (by decide) ?_
                                    refine lv_goto (tgt := 395) X.1 X.2.1 dL_isSkin_391 (by decide) ?_
                                    exact q_zret X hr hlocks h dL_isSkin_395 ⟨show 0 + 3 ≤ 20 by omega, show 0 + 18 ≤ 200 by omega⟩ (rfl) (⟨rfl, rfl, hLI.more⟩)
                              · skip
                                exact absurd c47 (by first | decide | omega)
                            · skip
                              have c46 := of_decide_eq_true c46
                              rw [show bI (decide (pr < 10001)) = nI 1 from (bI_t (decide_eq_true c46)).symm] at hl
                              obtain ⟨V, lr, h⟩ := qM.opn h
                              refine lv_aload X.1 X.2.1 dL_isSkin_238 (lv_at hl 14 rfl) ?_
                              refine lv_bipush (v := nI (10)) X.1 X.2.1 dL_isSkin_240 (by decide) ?_
                              refine lv_iload X.1 X.2.1 dL_isSkin_242 (lv_at hl 7 rfl) ?_
                              refine lv_imul X.1 X.2.1 dL_isSkin_244 ?_
                              refine lv_top (y := nI (10 * k0)) (pk_mul _ _) ?_
                              refine lv_aload X.1 X.2.1 dL_isSkin_245 (lv_at hl 13 rfl) ?_
                              refine lv_iload X.1 X.2.1 dL_isSkin_247 (lv_at hl 7 rfl) ?_
                              refine v_ald X h 7 (by decide) dL_isSkin_249 (i := k0) (v := nI (F 21 (k0))) rfl (by show _ < 36; omega) (show V 7 (k0) = _ from LR.n7 lr (by omega) (by omega)) ?_
                              refine lv_iadd X.1 X.2.1 dL_isSkin_250 ?_
                              refine lv_top (y := nI (10 * k0 + (F 21 (k0)))) (nI_add _ _) ?_
                              refine lv_iload X.1 X.2.1 dL_isSkin_251 (lv_at hl 4 rfl) ?_
                              refine lv_top (y := nI (F 17 k0 - 1)) (eI_pos (by omega)) ?_
                              refine lv_bipush (v := nI (16)) X.1 X.2.1 dL_isSkin_253 (by decide) ?_
                              refine lv_iload X.1 X.2.1 dL_isSkin_255 (lv_at hl 6 rfl) ?_
                              refine lv_imul X.1 X.2.1 dL_isSkin_257 ?_
                              refine lv_top (y := nI (16 * r2)) (pk_mul _ _) ?_
                              refine lv_iadd X.1 X.2.1 dL_isSkin_258 ?_
                              refine lv_top (y := nI (F 17 k0 - 1 + (16 * r2))) (nI_add _ _) ?_
                              refine lv_sipush (v := nI (256)) X.1 X.2.1 dL_isSkin_259 (by decide) ?_
                              refine lv_iload X.1 X.2.1 dL_isSkin_262 (lv_at hl 2 rfl) ?_
                              refine lv_imul X.1 X.2.1 dL_isSkin_264 ?_
                              refine lv_top (y := nI (256 * pr)) (pk_mul _ _) ?_
                              refine lv_iadd X.1 X.2.1 dL_isSkin_265 ?_
                              refine lv_top (y := nI (F 17 k0 - 1 + (16 * r2) + (256 * pr))) (nI_add _ _) ?_
                              refine v_ast X h 8 (by decide) dL_isSkin_266 (i := 10 * k0 + (F 21 (k0))) (w := nI (F 17 k0 - 1 + (16 * r2) + (256 * pr))) rfl (by show _ < 60; omega) (fun H locs h => ?_)
                              refine lv_aload X.1 X.2.1 dL_isSkin_267 (lv_at hl 13 rfl) ?_
                              refine lv_iload X.1 X.2.1 dL_isSkin_269 (lv_at hl 7 rfl) ?_
                              refine lv_dup2_11 X.1 X.2.1 dL_isSkin_271 rfl rfl ?_
                              refine v_ald X h 7 (by decide) dL_isSkin_272 (i := k0) (v := nI (F 21 (k0))) rfl (by show _ < 36; omega) (show V 7 (k0) = _ from LR.n7 lr (by omega) (by omega)) ?_
                              refine lv_iconst (v := nI (1)) X.1 X.2.1 dL_isSkin_273 (by decide) ?_
                              refine lv_iadd X.1 X.2.1 dL_isSkin_274 ?_
                              refine lv_top (y := nI (F 21 (k0) + 1)) (nI_add _ _) ?_
                              refine v_ast X h 7 (by decide) dL_isSkin_275 (i := k0) (w := nI (F 21 (k0) + 1)) rfl (by show _ < 36; omega) (fun H locs h => ?_)
                              have h := qV.close h (lr.sel (a := F 17 k0 - 1) (b := r2) (pr := pr) (n0 := F 21 k0) (by omega) (by omega) (by omega) rfl (by omega))
                              refine lv_aload X.1 X.2.1 dL_isSkin_276 (lv_at hl 12 rfl) ?_
                              refine lv_iload X.1 X.2.1 dL_isSkin_278 (lv_at hl 7 rfl) ?_
                              refine lv_iload X.1 X.2.1 dL_isSkin_280 (lv_at hl 0 rfl) ?_
                              refine b_if_eq (tgt := 301) X dL_isSkin_282 (by decide) (a := ((0 : Nat) : Int)) (nI_ti (by omega)) (fun c50 => ?_) (fun c50 => ?_)
                              · skip
                                refine lv_aload X.1 X.2.1 dL_isSkin_301 (lv_at hl 12 rfl) ?_
                                refine lv_iload X.1 X.2.1 dL_isSkin_303 (lv_at hl 7 rfl) ?_
                                refine q_ald X h 6 (by decide) dL_isSkin_305 (i := k0) (v := nI (F 20 k0)) rfl (by show _ < 36; omega) (fun V r => LR.f6 r (by omega) (by omega)) ?_
                                have b51 := hI.k (k := k0) (by omega)
                                refine q_ast X h 6 (by decide) dL_isSkin_306 (i := k0) N (set1 (set1 (set1 (set1 (set1 F 22 (20 * k0 + F 21 k0) (F 17 k0 - 1)) 23 (20 * k0 + F 21 k0) r2) 24 (20 * k0 + F 21 k0) pr) 21 k0 (F 21 k0 + 1)) 20 k0 (F 20 k0)) B rfl (by show _ < 36; omega) (fun V r => LR.wf r (by omega) _) (fun H locs h => ?_)
                                refine lv_aload_n X.1 X.2.1 dL_isSkin_307 rfl (lv_at hl 9 rfl) ?_
                                refine lv_iload X.1 X.2.1 dL_isSkin_308 (lv_at hl 6 rfl) ?_
                                refine lv_top (y := nI (r2 + 1) - 1) (eI_suc _) ?_
                                refine lv_iload X.1 X.2.1 dL_isSkin_310 (lv_at hl 4 rfl) ?_
                                refine lv_iload X.1 X.2.1 dL_isSkin_312 (lv_at hl 2 rfl) ?_
                                refine q_call X hS hZ hN h ck_L_91 kst_L_pays dL_isSkin_314 (As := [.ref (ar 0), .int (nI (r2 + 1) - 1), .int (nI (F 17 k0) - 1), .int (nI (pr))]) (c_L_pays l G x ar (N, F, B) N (set1 (set1 (set1 (set1 (set1 F 22 (20 * k0 + F 21 k0) (F 17 k0 - 1)) 23 (20 * k0 + F 21 k0) r2) 24 (20 * k0 + F 21 k0) pr) 21 k0 (F 21 k0 + 1)) 20 k0 (F 20 k0)) B (r2 + 1) (F 17 k0) pr (by omega) (by omega) (by omega)) rfl hl rfl (Nat.le_of_ble_eq_true rfl) ⟨Nat.le_of_ble_eq_true rfl, Nat.le_of_ble_eq_true rfl⟩ ⟨show 0 + 0 ≤ 20 by omega, show 0 + 0 ≤ 200 by omega⟩ ?_
                                rintro _ _ _ H locs ⟨rfl, rfl, rfl⟩ h
                                refine lv_aload_n X.1 X.2.1 dL_isSkin_317 rfl (lv_at hl 10 rfl) ?_
                                refine lv_iload X.1 X.2.1 dL_isSkin_318 (lv_at hl 7 rfl) ?_
                                refine lv_aload_n X.1 X.2.1 dL_isSkin_320 rfl (lv_at hl 10 rfl) ?_
                                refine lv_iload X.1 X.2.1 dL_isSkin_321 (lv_at hl 7 rfl) ?_
                                refine q_ald X h 4 (by decide) dL_isSkin_323 (i := k0) (v := nI (hvS F k0)) rfl (by show _ < 36; omega) (fun V r => LR.h4 r (by omega)) ?_
                                have b52 := hv_b hI (show k0 < N 13 by omega)
                                refine lv_bipush (v := nI (32)) X.1 X.2.1 dL_isSkin_324 (by decide) ?_
                                refine lv_irem X.1 X.2.1 dL_isSkin_326 (by decide) ?_
                                refine lv_top (y := nI (F 16 k0)) ((pk_rem (by omega) (by omega) (by omega)).trans (congrArg nI b52.2.1)) ?_
                                refine lv_bipush (v := nI (32)) X.1 X.2.1 dL_isSkin_327 (by decide) ?_
                                refine lv_iload X.1 X.2.1 dL_isSkin_329 (lv_at hl 6 rfl) ?_
                                refine lv_iconst (v := nI (1)) X.1 X.2.1 dL_isSkin_331 (by decide) ?_
                                refine lv_iadd X.1 X.2.1 dL_isSkin_332 ?_
                                refine lv_top (y := nI (r2 + 1)) (nI_add _ _) ?_
                                refine lv_imul X.1 X.2.1 dL_isSkin_333 ?_
                                refine lv_top (y := nI (32 * (r2 + 1))) (pk_mul _ _) ?_
                                refine lv_iadd X.1 X.2.1 dL_isSkin_334 ?_
                                refine lv_top (y := nI (F 16 k0 + (32 * (r2 + 1)))) (nI_add _ _) ?_
                                refine q_ast X h 4 (by decide) dL_isSkin_335 (i := k0) N (set1 (set1 (set1 (set1 (set1 (set1 (set1 F 22 (20 * k0 + F 21 k0) (F 17 k0 - 1)) 23 (20 * k0 + F 21 k0) r2) 24 (20 * k0 + F 21 k0) pr) 21 k0 (F 21 k0 + 1)) 20 k0 (F 20 k0)) 17 k0 (r2 + 1)) 18 k0 0) ((payS B (r2 + 1) (F 17 k0) pr)) rfl (by show _ < 36; omega) (fun V r => LR.whs (v := r2 + 1) r rfl) (fun H locs h => ?_)
                                have hK9 : kSell N F (nI k0) (nI r2) (nI pr) = 0 := by rw [kSell_v (by omega) (by omega) (by omega) (by omega) (by omega), if_neg (show ¬ ¬ pr ≤ 10000 by omega), if_pos ⟨cDeal_m (by omega), by omega⟩]
                                rw [fSell_o (p := r2) (pr := pr) (n0 := F 21 k0) (fv := F 20 k0) rfl (by rw [if_neg (fun z => by rw [faith_f (by omega)] at z; exact Bool.noConfusion z.1)]), bSell_pay (h0 := F 17 k0) rfl (by omega) (by omega)] at h
                                refine lv_aload_n X.1 X.2.1 dL_isSkin_336 rfl (lv_at hl 8 rfl) ?_
                                refine lv_iconst (v := nI (4)) X.1 X.2.1 dL_isSkin_337 (by decide) ?_
                                refine lv_iload X.1 X.2.1 dL_isSkin_338 (lv_at hl 7 rfl) ?_
                                refine lv_iload X.1 X.2.1 dL_isSkin_340 (lv_at hl 6 rfl) ?_
                                refine lv_iload X.1 X.2.1 dL_isSkin_342 (lv_at hl 2 rfl) ?_
                                refine q_callL X hS hZ hN h kcw_L_does kini_L (by decide) kar_L_does kml_L_does kst_L_does dL_isSkin_344 (As := [.ref x, .int (nI (4)), .int (nI (k0)), .int (nI (r2)), .int (nI (pr))]) ((c_L_does_sell l G x ar N F B (N, (fSell F k0 r2 pr), (bSell F B k0 r2 pr)) (nI (k0)) (nI (r2)) (nI (pr)) hst hI).k (k := 0) (hK9) (w := nI (0)) (by show bI (faithS F (ix (nI k0)) (ix (nI r2))) = nI 0; rw [ix_nI (by omega), ix_nI (by omega), faith_f (by omega)]; rfl) (C2 := (N, fSell F k0 r2 pr, bSell F B k0 r2 pr)) (by rw [ix_nI (by omega), ix_nI (by omega), ix_nI (by omega)]; rfl)) rfl hl rfl (Nat.le_of_ble_eq_true rfl) ⟨Nat.le_of_ble_eq_true rfl, Nat.le_of_ble_eq_true rfl⟩ ⟨show 0 + 3 ≤ 20 by omega, show 0 + 18 ≤ 200 by omega⟩ ?_
                                rintro _ _ _ H locs ⟨rfl, rfl, rfl⟩ h
                                refine lv_iload X.1 X.2.1 dL_isSkin_347 (lv_at hl 5 rfl) ?_
                                refine b_if_ne (tgt := 357) X dL_isSkin_349 (by decide) (a := ((1 : Nat) : Int)) (nI_ti (by omega)) (fun c53 => ?_) (fun c53 => ?_)
                                · skip
                                  refine lv_iload X.1 X.2.1 dL_isSkin_357 (lv_at hl 1 rfl) ?_
                                  refine b_if_ne (tgt := 367) X dL_isSkin_359 (by decide) (a := ((1 : Nat) : Int)) (nI_ti (by omega)) (fun c54 => ?_) (fun c54 => ?_)
                                  · skip
                                    refine lv_iload X.1 X.2.1 dL_isSkin_367 (lv_at hl 3 rfl) ?_
                                    refine b_if_ne (tgt := 377) X dL_isSkin_369 (by decide) (a := ((1 : Nat) : Int)) (nI_ti (by omega)) (fun c55 => ?_) (fun c55 => ?_)
                                    · skip
                                      refine lv_iload X.1 X.2.1 dL_isSkin_377 (lv_at hl 0 rfl) ?_
                                      refine b_if_eq (tgt := 386) X dL_isSkin_379 (by decide) (a := ((0 : Nat) : Int)) (nI_ti (by omega)) (fun c56 => ?_) (fun c56 => ?_)
                                      · skip
                                        refine lv_iconst (v := nI (0)) X.1 X.2.1 dL_isSkin_386 (by decide) ?_
                                        refine b_icmp_ne (tgt := 394) X dL_isSkin_387 (by decide) (a := ((0 : Nat) : Int)) (b := ((0 : Nat) : Int)) (nI_ti (by omega)) (nI_ti (by omega)) (fun c57 => ?_) (fun c57 => ?_)
                                        · skip
                                          exact absurd c57 (by first | decide | omega)
                                        · skip
                                          refine lv_iconst (v := nI (1)) X.1 X.2.1 dL_isSkin_390 (by decide) ?_
                                          refine lv_goto (tgt := 395) X.1 X.2.1 dL_isSkin_391 (by decide) ?_
                                          exact q_zret X hr hlocks h dL_isSkin_395 ⟨show 0 + 3 ≤ 20 by omega, show 0 + 18 ≤ 200 by omega⟩ (rfl) (⟨rfl, rfl, by have z9 := stp_sell hLI hK9; rw [ix_nI (by omega), ix_nI (by omega), ix_nI (by omega)] at z9; exact z9⟩)
                                      · skip
                                        exact absurd c56 (by first | decide | omega)
                                    · skip
                                      exact absurd c55 (by first | decide | omega)
                                  · skip
                                    exact absurd c54 (by first | decide | omega)
                                · skip
                                  exact absurd c53 (by first | decide | omega)
                              · skip
                                exact absurd c50 (by first | decide | omega)
                        · skip
                          refine lv_iconst (v := nI (1)) X.1 X.2.1 dL_isSkin_221 (by decide) ?_
                          refine lv_goto (tgt := 226) X.1 X.2.1 dL_isSkin_222 (by decide) ?_
                          refine lv_istore (lv' := [(18, .int (nI (1))), (17, .int (bI (decide (pr < 10001)))), (16, .int (nI (pr))), (15, .int (nI (1))), (14, .int (nI (F 17 k0) - 1)), (13, .int (nI (1))), (12, .int (nI (r2))), (11, .int (nI (k0))), (0, .ref x), (1, .ref (ar 0)), (2, .ref (ar 4)), (3, .ref (ar 5)), (4, .ref (ar 6)), (5, .ref (ar 7)), (6, .ref (ar 8)), (7, .ref (ar 9)), (8, .int (nI (1))), (9, .int (nI (one))), (10, .int (nI (two)))]) X.1 X.2.1 dL_isSkin_226 hl (by decide) rfl (fun ls hl => ?_)
                          refine lv_iload X.1 X.2.1 dL_isSkin_228 (lv_at hl 3 rfl) ?_
                          refine b_if_eq (tgt := 336) X dL_isSkin_230 (by decide) (a := ((1 : Nat) : Int)) (nI_ti (by omega)) (fun c58 => ?_) (fun c58 => ?_)
                          · skip
                            exact absurd c58 (by first | decide | omega)
                          · skip
                            refine lv_iload X.1 X.2.1 dL_isSkin_233 (lv_at hl 1 rfl) ?_
                            refine b_bool_eq (tgt := 336) X dL_isSkin_235 (by decide) (fun c59 => ?_) (fun c59 => ?_)
                            · skip
                              have c59 := of_decide_eq_false c59
                              rw [show bI (decide (pr < 10001)) = nI 0 from (bI_f (decide_eq_false c59)).symm] at hl
                              have hK9 : kSell N F (nI k0) (nI r2) (nI pr) = 2 := by rw [kSell_v (by omega) (by omega) (by omega) (by omega) (by omega), if_pos (show ¬ pr ≤ 10000 by omega)]
                              refine lv_aload_n X.1 X.2.1 dL_isSkin_336 rfl (lv_at hl 8 rfl) ?_
                              refine lv_iconst (v := nI (4)) X.1 X.2.1 dL_isSkin_337 (by decide) ?_
                              refine lv_iload X.1 X.2.1 dL_isSkin_338 (lv_at hl 7 rfl) ?_
                              refine lv_iload X.1 X.2.1 dL_isSkin_340 (lv_at hl 6 rfl) ?_
                              refine lv_iload X.1 X.2.1 dL_isSkin_342 (lv_at hl 2 rfl) ?_
                              refine q_callL X hS hZ hN h kcw_L_does kini_L (by decide) kar_L_does kml_L_does kst_L_does dL_isSkin_344 (As := [.ref x, .int (nI (4)), .int (nI (k0)), .int (nI (r2)), .int (nI (pr))]) ((c_L_does_sell l G x ar N F B (N, F, B) (nI (k0)) (nI (r2)) (nI (pr)) hst hI).k (k := 2) (hK9) (w := (-2000000)) (rfl) (C2 := (N, F, B)) (rfl)) rfl hl rfl (Nat.le_of_ble_eq_true rfl) ⟨Nat.le_of_ble_eq_true rfl, Nat.le_of_ble_eq_true rfl⟩ ⟨show 0 + 3 ≤ 20 by omega, show 0 + 18 ≤ 200 by omega⟩ ?_
                              rintro _ _ _ H locs ⟨rfl, rfl, rfl⟩ h
                              refine lv_iload X.1 X.2.1 dL_isSkin_347 (lv_at hl 5 rfl) ?_
                              refine b_if_ne (tgt := 357) X dL_isSkin_349 (by decide) (a := ((1 : Nat) : Int)) (nI_ti (by omega)) (fun c60 => ?_) (fun c60 => ?_)
                              · skip
                                refine lv_iload X.1 X.2.1 dL_isSkin_357 (lv_at hl 1 rfl) ?_
                                refine b_if_ne (tgt := 367) X dL_isSkin_359 (by decide) (a := ((0 : Nat) : Int)) (nI_ti (by omega)) (fun c61 => ?_) (fun c61 => ?_)
                                · skip
                                  exact absurd c61 (by first | decide | omega)
                                · skip
                                  refine lv_ldc (own := RL) (index := 67) (v := (-2000000)) X.1 X.2.1 X.2.2.2.1 (X.2.2.2.2.1.use kco_L_67) dL_isSkin_362 ?_
                                  refine lv_goto (tgt := 387) X.1 X.2.1 dL_isSkin_364 (by decide) ?_
                                  refine b_icmp_ne (tgt := 394) X dL_isSkin_387 (by decide) (a := (-2000000)) (b := (-2000000)) ((by decide)) ((by decide)) (fun c62 => ?_) (fun c62 => ?_)
                                  · skip
                                    exact absurd c62 (by first | decide | omega)
                                  · skip
                                    refine lv_iconst (v := nI (1)) X.1 X.2.1 dL_isSkin_390 (by decide) ?_
                                    refine lv_goto (tgt := 395) X.1 X.2.1 dL_isSkin_391 (by decide) ?_
                                    exact q_zret X hr hlocks h dL_isSkin_395 ⟨show 0 + 3 ≤ 20 by omega, show 0 + 18 ≤ 200 by omega⟩ (rfl) (⟨rfl, rfl, hLI.more⟩)
                              · skip
                                exact absurd c60 (by first | decide | omega)
                            · skip
                              have c59 := of_decide_eq_true c59
                              rw [show bI (decide (pr < 10001)) = nI 1 from (bI_t (decide_eq_true c59)).symm] at hl
                              obtain ⟨V, lr, h⟩ := qM.opn h
                              refine lv_aload X.1 X.2.1 dL_isSkin_238 (lv_at hl 14 rfl) ?_
                              refine lv_bipush (v := nI (10)) X.1 X.2.1 dL_isSkin_240 (by decide) ?_
                              refine lv_iload X.1 X.2.1 dL_isSkin_242 (lv_at hl 7 rfl) ?_
                              refine lv_imul X.1 X.2.1 dL_isSkin_244 ?_
                              refine lv_top (y := nI (10 * k0)) (pk_mul _ _) ?_
                              refine lv_aload X.1 X.2.1 dL_isSkin_245 (lv_at hl 13 rfl) ?_
                              refine lv_iload X.1 X.2.1 dL_isSkin_247 (lv_at hl 7 rfl) ?_
                              refine v_ald X h 7 (by decide) dL_isSkin_249 (i := k0) (v := nI (F 21 (k0))) rfl (by show _ < 36; omega) (show V 7 (k0) = _ from LR.n7 lr (by omega) (by omega)) ?_
                              refine lv_iadd X.1 X.2.1 dL_isSkin_250 ?_
                              refine lv_top (y := nI (10 * k0 + (F 21 (k0)))) (nI_add _ _) ?_
                              refine lv_iload X.1 X.2.1 dL_isSkin_251 (lv_at hl 4 rfl) ?_
                              refine lv_top (y := nI (F 17 k0 - 1)) (eI_pos (by omega)) ?_
                              refine lv_bipush (v := nI (16)) X.1 X.2.1 dL_isSkin_253 (by decide) ?_
                              refine lv_iload X.1 X.2.1 dL_isSkin_255 (lv_at hl 6 rfl) ?_
                              refine lv_imul X.1 X.2.1 dL_isSkin_257 ?_
                              refine lv_top (y := nI (16 * r2)) (pk_mul _ _) ?_
                              refine lv_iadd X.1 X.2.1 dL_isSkin_258 ?_
                              refine lv_top (y := nI (F 17 k0 - 1 + (16 * r2))) (nI_add _ _) ?_
                              refine lv_sipush (v := nI (256)) X.1 X.2.1 dL_isSkin_259 (by decide) ?_
                              refine lv_iload X.1 X.2.1 dL_isSkin_262 (lv_at hl 2 rfl) ?_
                              refine lv_imul X.1 X.2.1 dL_isSkin_264 ?_
                              refine lv_top (y := nI (256 * pr)) (pk_mul _ _) ?_
                              refine lv_iadd X.1 X.2.1 dL_isSkin_265 ?_
                              refine lv_top (y := nI (F 17 k0 - 1 + (16 * r2) + (256 * pr))) (nI_add _ _) ?_
                              refine v_ast X h 8 (by decide) dL_isSkin_266 (i := 10 * k0 + (F 21 (k0))) (w := nI (F 17 k0 - 1 + (16 * r2) + (256 * pr))) rfl (by show _ < 60; omega) (fun H locs h => ?_)
                              refine lv_aload X.1 X.2.1 dL_isSkin_267 (lv_at hl 13 rfl) ?_
                              refine lv_iload X.1 X.2.1 dL_isSkin_269 (lv_at hl 7 rfl) ?_
                              refine lv_dup2_11 X.1 X.2.1 dL_isSkin_271 rfl rfl ?_
                              refine v_ald X h 7 (by decide) dL_isSkin_272 (i := k0) (v := nI (F 21 (k0))) rfl (by show _ < 36; omega) (show V 7 (k0) = _ from LR.n7 lr (by omega) (by omega)) ?_
                              refine lv_iconst (v := nI (1)) X.1 X.2.1 dL_isSkin_273 (by decide) ?_
                              refine lv_iadd X.1 X.2.1 dL_isSkin_274 ?_
                              refine lv_top (y := nI (F 21 (k0) + 1)) (nI_add _ _) ?_
                              refine v_ast X h 7 (by decide) dL_isSkin_275 (i := k0) (w := nI (F 21 (k0) + 1)) rfl (by show _ < 36; omega) (fun H locs h => ?_)
                              have h := qV.close h (lr.sel (a := F 17 k0 - 1) (b := r2) (pr := pr) (n0 := F 21 k0) (by omega) (by omega) (by omega) rfl (by omega))
                              refine lv_aload X.1 X.2.1 dL_isSkin_276 (lv_at hl 12 rfl) ?_
                              refine lv_iload X.1 X.2.1 dL_isSkin_278 (lv_at hl 7 rfl) ?_
                              refine lv_iload X.1 X.2.1 dL_isSkin_280 (lv_at hl 0 rfl) ?_
                              refine b_if_eq (tgt := 301) X dL_isSkin_282 (by decide) (a := ((1 : Nat) : Int)) (nI_ti (by omega)) (fun c63 => ?_) (fun c63 => ?_)
                              · skip
                                exact absurd c63 (by first | decide | omega)
                              · skip
                                refine lv_aload X.1 X.2.1 dL_isSkin_285 (lv_at hl 12 rfl) ?_
                                refine lv_iload X.1 X.2.1 dL_isSkin_287 (lv_at hl 7 rfl) ?_
                                refine q_ald X h 6 (by decide) dL_isSkin_289 (i := k0) (v := nI (F 20 k0)) rfl (by show _ < 36; omega) (fun V r => LR.f6 r (by omega) (by omega)) ?_
                                have b64 := hI.k (k := k0) (by omega)
                                refine b_if_ne (tgt := 301) X dL_isSkin_290 (by decide) (a := ((F 20 k0 : Nat) : Int)) (nI_ti (by omega)) (fun c65 => ?_) (fun c65 => ?_)
                                · skip
                                  refine lv_aload X.1 X.2.1 dL_isSkin_301 (lv_at hl 12 rfl) ?_
                                  refine lv_iload X.1 X.2.1 dL_isSkin_303 (lv_at hl 7 rfl) ?_
                                  refine q_ald X h 6 (by decide) dL_isSkin_305 (i := k0) (v := nI (F 20 k0)) rfl (by show _ < 36; omega) (fun V r => LR.f6 r (by omega) (by omega)) ?_
                                  have b66 := hI.k (k := k0) (by omega)
                                  refine q_ast X h 6 (by decide) dL_isSkin_306 (i := k0) N (set1 (set1 (set1 (set1 (set1 F 22 (20 * k0 + F 21 k0) (F 17 k0 - 1)) 23 (20 * k0 + F 21 k0) r2) 24 (20 * k0 + F 21 k0) pr) 21 k0 (F 21 k0 + 1)) 20 k0 (F 20 k0)) B rfl (by show _ < 36; omega) (fun V r => LR.wf r (by omega) _) (fun H locs h => ?_)
                                  refine lv_aload_n X.1 X.2.1 dL_isSkin_307 rfl (lv_at hl 9 rfl) ?_
                                  refine lv_iload X.1 X.2.1 dL_isSkin_308 (lv_at hl 6 rfl) ?_
                                  refine lv_top (y := nI (r2 + 1) - 1) (eI_suc _) ?_
                                  refine lv_iload X.1 X.2.1 dL_isSkin_310 (lv_at hl 4 rfl) ?_
                                  refine lv_iload X.1 X.2.1 dL_isSkin_312 (lv_at hl 2 rfl) ?_
                                  refine q_call X hS hZ hN h ck_L_91 kst_L_pays dL_isSkin_314 (As := [.ref (ar 0), .int (nI (r2 + 1) - 1), .int (nI (F 17 k0) - 1), .int (nI (pr))]) (c_L_pays l G x ar (N, F, B) N (set1 (set1 (set1 (set1 (set1 F 22 (20 * k0 + F 21 k0) (F 17 k0 - 1)) 23 (20 * k0 + F 21 k0) r2) 24 (20 * k0 + F 21 k0) pr) 21 k0 (F 21 k0 + 1)) 20 k0 (F 20 k0)) B (r2 + 1) (F 17 k0) pr (by omega) (by omega) (by omega)) rfl hl rfl (Nat.le_of_ble_eq_true rfl) ⟨Nat.le_of_ble_eq_true rfl, Nat.le_of_ble_eq_true rfl⟩ ⟨show 0 + 0 ≤ 20 by omega, show 0 + 0 ≤ 200 by omega⟩ ?_
                                  rintro _ _ _ H locs ⟨rfl, rfl, rfl⟩ h
                                  refine lv_aload_n X.1 X.2.1 dL_isSkin_317 rfl (lv_at hl 10 rfl) ?_
                                  refine lv_iload X.1 X.2.1 dL_isSkin_318 (lv_at hl 7 rfl) ?_
                                  refine lv_aload_n X.1 X.2.1 dL_isSkin_320 rfl (lv_at hl 10 rfl) ?_
                                  refine lv_iload X.1 X.2.1 dL_isSkin_321 (lv_at hl 7 rfl) ?_
                                  refine q_ald X h 4 (by decide) dL_isSkin_323 (i := k0) (v := nI (hvS F k0)) rfl (by show _ < 36; omega) (fun V r => LR.h4 r (by omega)) ?_
                                  have b67 := hv_b hI (show k0 < N 13 by omega)
                                  refine lv_bipush (v := nI (32)) X.1 X.2.1 dL_isSkin_324 (by decide) ?_
                                  refine lv_irem X.1 X.2.1 dL_isSkin_326 (by decide) ?_
                                  refine lv_top (y := nI (F 16 k0)) ((pk_rem (by omega) (by omega) (by omega)).trans (congrArg nI b67.2.1)) ?_
                                  refine lv_bipush (v := nI (32)) X.1 X.2.1 dL_isSkin_327 (by decide) ?_
                                  refine lv_iload X.1 X.2.1 dL_isSkin_329 (lv_at hl 6 rfl) ?_
                                  refine lv_iconst (v := nI (1)) X.1 X.2.1 dL_isSkin_331 (by decide) ?_
                                  refine lv_iadd X.1 X.2.1 dL_isSkin_332 ?_
                                  refine lv_top (y := nI (r2 + 1)) (nI_add _ _) ?_
                                  refine lv_imul X.1 X.2.1 dL_isSkin_333 ?_
                                  refine lv_top (y := nI (32 * (r2 + 1))) (pk_mul _ _) ?_
                                  refine lv_iadd X.1 X.2.1 dL_isSkin_334 ?_
                                  refine lv_top (y := nI (F 16 k0 + (32 * (r2 + 1)))) (nI_add _ _) ?_
                                  refine q_ast X h 4 (by decide) dL_isSkin_335 (i := k0) N (set1 (set1 (set1 (set1 (set1 (set1 (set1 F 22 (20 * k0 + F 21 k0) (F 17 k0 - 1)) 23 (20 * k0 + F 21 k0) r2) 24 (20 * k0 + F 21 k0) pr) 21 k0 (F 21 k0 + 1)) 20 k0 (F 20 k0)) 17 k0 (r2 + 1)) 18 k0 0) ((payS B (r2 + 1) (F 17 k0) pr)) rfl (by show _ < 36; omega) (fun V r => LR.whs (v := r2 + 1) r rfl) (fun H locs h => ?_)
                                  have hK9 : kSell N F (nI k0) (nI r2) (nI pr) = 0 := by rw [kSell_v (by omega) (by omega) (by omega) (by omega) (by omega), if_neg (show ¬ ¬ pr ≤ 10000 by omega), if_pos ⟨cDeal_m (by omega), by omega⟩]
                                  rw [fSell_o (p := r2) (pr := pr) (n0 := F 21 k0) (fv := F 20 k0) rfl (by rw [if_neg (fun z => by have z2 := z.2; omega)]), bSell_pay (h0 := F 17 k0) rfl (by omega) (by omega)] at h
                                  refine lv_aload_n X.1 X.2.1 dL_isSkin_336 rfl (lv_at hl 8 rfl) ?_
                                  refine lv_iconst (v := nI (4)) X.1 X.2.1 dL_isSkin_337 (by decide) ?_
                                  refine lv_iload X.1 X.2.1 dL_isSkin_338 (lv_at hl 7 rfl) ?_
                                  refine lv_iload X.1 X.2.1 dL_isSkin_340 (lv_at hl 6 rfl) ?_
                                  refine lv_iload X.1 X.2.1 dL_isSkin_342 (lv_at hl 2 rfl) ?_
                                  refine q_callL X hS hZ hN h kcw_L_does kini_L (by decide) kar_L_does kml_L_does kst_L_does dL_isSkin_344 (As := [.ref x, .int (nI (4)), .int (nI (k0)), .int (nI (r2)), .int (nI (pr))]) ((c_L_does_sell l G x ar N F B (N, (fSell F k0 r2 pr), (bSell F B k0 r2 pr)) (nI (k0)) (nI (r2)) (nI (pr)) hst hI).k (k := 0) (hK9) (w := nI (1)) (by show bI (faithS F (ix (nI k0)) (ix (nI r2))) = nI 1; rw [ix_nI (by omega), ix_nI (by omega), faith_t (by omega) (by omega)]; rfl) (C2 := (N, fSell F k0 r2 pr, bSell F B k0 r2 pr)) (by rw [ix_nI (by omega), ix_nI (by omega), ix_nI (by omega)]; rfl)) rfl hl rfl (Nat.le_of_ble_eq_true rfl) ⟨Nat.le_of_ble_eq_true rfl, Nat.le_of_ble_eq_true rfl⟩ ⟨show 0 + 3 ≤ 20 by omega, show 0 + 18 ≤ 200 by omega⟩ ?_
                                  rintro _ _ _ H locs ⟨rfl, rfl, rfl⟩ h
                                  refine lv_iload X.1 X.2.1 dL_isSkin_347 (lv_at hl 5 rfl) ?_
                                  refine b_if_ne (tgt := 357) X dL_isSkin_349 (by decide) (a := ((1 : Nat) : Int)) (nI_ti (by omega)) (fun c68 => ?_) (fun c68 => ?_)
                                  · skip
                                    refine lv_iload X.1 X.2.1 dL_isSkin_357 (lv_at hl 1 rfl) ?_
                                    refine b_if_ne (tgt := 367) X dL_isSkin_359 (by decide) (a := ((1 : Nat) : Int)) (nI_ti (by omega)) (fun c69 => ?_) (fun c69 => ?_)
                                    · skip
                                      refine lv_iload X.1 X.2.1 dL_isSkin_367 (lv_at hl 3 rfl) ?_
                                      refine b_if_ne (tgt := 377) X dL_isSkin_369 (by decide) (a := ((1 : Nat) : Int)) (nI_ti (by omega)) (fun c70 => ?_) (fun c70 => ?_)
                                      · skip
                                        refine lv_iload X.1 X.2.1 dL_isSkin_377 (lv_at hl 0 rfl) ?_
                                        refine b_if_eq (tgt := 386) X dL_isSkin_379 (by decide) (a := ((1 : Nat) : Int)) (nI_ti (by omega)) (fun c71 => ?_) (fun c71 => ?_)
                                        · skip
                                          exact absurd c71 (by first | decide | omega)
                                        · skip
                                          refine lv_iconst (v := nI (1)) X.1 X.2.1 dL_isSkin_382 (by decide) ?_
                                          refine lv_goto (tgt := 387) X.1 X.2.1 dL_isSkin_383 (by decide) ?_
                                          refine b_icmp_ne (tgt := 394) X dL_isSkin_387 (by decide) (a := ((1 : Nat) : Int)) (b := ((1 : Nat) : Int)) (nI_ti (by omega)) (nI_ti (by omega)) (fun c72 => ?_) (fun c72 => ?_)
                                          · skip
                                            exact absurd c72 (by first | decide | omega)
                                          · skip
                                            refine lv_iconst (v := nI (1)) X.1 X.2.1 dL_isSkin_390 (by decide) ?_
                                            refine lv_goto (tgt := 395) X.1 X.2.1 dL_isSkin_391 (by decide) ?_
                                            exact q_zret X hr hlocks h dL_isSkin_395 ⟨show 0 + 3 ≤ 20 by omega, show 0 + 18 ≤ 200 by omega⟩ (rfl) (⟨rfl, rfl, by have z9 := stp_sell hLI hK9; rw [ix_nI (by omega), ix_nI (by omega), ix_nI (by omega)] at z9; exact z9⟩)
                                      · skip
                                        exact absurd c70 (by first | decide | omega)
                                    · skip
                                      exact absurd c69 (by first | decide | omega)
                                  · skip
                                    exact absurd c68 (by first | decide | omega)
                                · skip
                                  refine lv_aload X.1 X.2.1 dL_isSkin_293 (lv_at hl 13 rfl) ?_
                                  refine lv_iload X.1 X.2.1 dL_isSkin_295 (lv_at hl 7 rfl) ?_
                                  refine q_ald X h 7 (by decide) dL_isSkin_297 (i := k0) (v := nI (F 21 k0 + 1)) rfl (by show _ < 36; omega) (fun V r => (LR.n7 r (by omega) (by omega)).trans (by rw [set1_at])) ?_
                                  have b73 := hI.k (k := k0) (by omega)
                                  refine lv_goto (tgt := 306) X.1 X.2.1 dL_isSkin_298 (by decide) ?_
                                  refine q_ast X h 6 (by decide) dL_isSkin_306 (i := k0) N (set1 (set1 (set1 (set1 (set1 F 22 (20 * k0 + F 21 k0) (F 17 k0 - 1)) 23 (20 * k0 + F 21 k0) r2) 24 (20 * k0 + F 21 k0) pr) 21 k0 (F 21 k0 + 1)) 20 k0 (F 21 k0 + 1)) B rfl (by show _ < 36; omega) (fun V r => LR.wf r (by omega) _) (fun H locs h => ?_)
                                  refine lv_aload_n X.1 X.2.1 dL_isSkin_307 rfl (lv_at hl 9 rfl) ?_
                                  refine lv_iload X.1 X.2.1 dL_isSkin_308 (lv_at hl 6 rfl) ?_
                                  refine lv_top (y := nI (r2 + 1) - 1) (eI_suc _) ?_
                                  refine lv_iload X.1 X.2.1 dL_isSkin_310 (lv_at hl 4 rfl) ?_
                                  refine lv_iload X.1 X.2.1 dL_isSkin_312 (lv_at hl 2 rfl) ?_
                                  refine q_call X hS hZ hN h ck_L_91 kst_L_pays dL_isSkin_314 (As := [.ref (ar 0), .int (nI (r2 + 1) - 1), .int (nI (F 17 k0) - 1), .int (nI (pr))]) (c_L_pays l G x ar (N, F, B) N (set1 (set1 (set1 (set1 (set1 F 22 (20 * k0 + F 21 k0) (F 17 k0 - 1)) 23 (20 * k0 + F 21 k0) r2) 24 (20 * k0 + F 21 k0) pr) 21 k0 (F 21 k0 + 1)) 20 k0 (F 21 k0 + 1)) B (r2 + 1) (F 17 k0) pr (by omega) (by omega) (by omega)) rfl hl rfl (Nat.le_of_ble_eq_true rfl) ⟨Nat.le_of_ble_eq_true rfl, Nat.le_of_ble_eq_true rfl⟩ ⟨show 0 + 0 ≤ 20 by omega, show 0 + 0 ≤ 200 by omega⟩ ?_
                                  rintro _ _ _ H locs ⟨rfl, rfl, rfl⟩ h
                                  refine lv_aload_n X.1 X.2.1 dL_isSkin_317 rfl (lv_at hl 10 rfl) ?_
                                  refine lv_iload X.1 X.2.1 dL_isSkin_318 (lv_at hl 7 rfl) ?_
                                  refine lv_aload_n X.1 X.2.1 dL_isSkin_320 rfl (lv_at hl 10 rfl) ?_
                                  refine lv_iload X.1 X.2.1 dL_isSkin_321 (lv_at hl 7 rfl) ?_
                                  refine q_ald X h 4 (by decide) dL_isSkin_323 (i := k0) (v := nI (hvS F k0)) rfl (by show _ < 36; omega) (fun V r => LR.h4 r (by omega)) ?_
                                  have b74 := hv_b hI (show k0 < N 13 by omega)
                                  refine lv_bipush (v := nI (32)) X.1 X.2.1 dL_isSkin_324 (by decide) ?_
                                  refine lv_irem X.1 X.2.1 dL_isSkin_326 (by decide) ?_
                                  refine lv_top (y := nI (F 16 k0)) ((pk_rem (by omega) (by omega) (by omega)).trans (congrArg nI b74.2.1)) ?_
                                  refine lv_bipush (v := nI (32)) X.1 X.2.1 dL_isSkin_327 (by decide) ?_
                                  refine lv_iload X.1 X.2.1 dL_isSkin_329 (lv_at hl 6 rfl) ?_
                                  refine lv_iconst (v := nI (1)) X.1 X.2.1 dL_isSkin_331 (by decide) ?_
                                  refine lv_iadd X.1 X.2.1 dL_isSkin_332 ?_
                                  refine lv_top (y := nI (r2 + 1)) (nI_add _ _) ?_
                                  refine lv_imul X.1 X.2.1 dL_isSkin_333 ?_
                                  refine lv_top (y := nI (32 * (r2 + 1))) (pk_mul _ _) ?_
                                  refine lv_iadd X.1 X.2.1 dL_isSkin_334 ?_
                                  refine lv_top (y := nI (F 16 k0 + (32 * (r2 + 1)))) (nI_add _ _) ?_
                                  refine q_ast X h 4 (by decide) dL_isSkin_335 (i := k0) N (set1 (set1 (set1 (set1 (set1 (set1 (set1 F 22 (20 * k0 + F 21 k0) (F 17 k0 - 1)) 23 (20 * k0 + F 21 k0) r2) 24 (20 * k0 + F 21 k0) pr) 21 k0 (F 21 k0 + 1)) 20 k0 (F 21 k0 + 1)) 17 k0 (r2 + 1)) 18 k0 0) ((payS B (r2 + 1) (F 17 k0) pr)) rfl (by show _ < 36; omega) (fun V r => LR.whs (v := r2 + 1) r rfl) (fun H locs h => ?_)
                                  have hK9 : kSell N F (nI k0) (nI r2) (nI pr) = 0 := by rw [kSell_v (by omega) (by omega) (by omega) (by omega) (by omega), if_neg (show ¬ ¬ pr ≤ 10000 by omega), if_pos ⟨cDeal_m (by omega), by omega⟩]
                                  rw [fSell_o (p := r2) (pr := pr) (n0 := F 21 k0) (fv := F 21 k0 + 1) rfl (by rw [if_pos ⟨faith_t (by omega) (by omega), by omega⟩]), bSell_pay (h0 := F 17 k0) rfl (by omega) (by omega)] at h
                                  refine lv_aload_n X.1 X.2.1 dL_isSkin_336 rfl (lv_at hl 8 rfl) ?_
                                  refine lv_iconst (v := nI (4)) X.1 X.2.1 dL_isSkin_337 (by decide) ?_
                                  refine lv_iload X.1 X.2.1 dL_isSkin_338 (lv_at hl 7 rfl) ?_
                                  refine lv_iload X.1 X.2.1 dL_isSkin_340 (lv_at hl 6 rfl) ?_
                                  refine lv_iload X.1 X.2.1 dL_isSkin_342 (lv_at hl 2 rfl) ?_
                                  refine q_callL X hS hZ hN h kcw_L_does kini_L (by decide) kar_L_does kml_L_does kst_L_does dL_isSkin_344 (As := [.ref x, .int (nI (4)), .int (nI (k0)), .int (nI (r2)), .int (nI (pr))]) ((c_L_does_sell l G x ar N F B (N, (fSell F k0 r2 pr), (bSell F B k0 r2 pr)) (nI (k0)) (nI (r2)) (nI (pr)) hst hI).k (k := 0) (hK9) (w := nI (1)) (by show bI (faithS F (ix (nI k0)) (ix (nI r2))) = nI 1; rw [ix_nI (by omega), ix_nI (by omega), faith_t (by omega) (by omega)]; rfl) (C2 := (N, fSell F k0 r2 pr, bSell F B k0 r2 pr)) (by rw [ix_nI (by omega), ix_nI (by omega), ix_nI (by omega)]; rfl)) rfl hl rfl (Nat.le_of_ble_eq_true rfl) ⟨Nat.le_of_ble_eq_true rfl, Nat.le_of_ble_eq_true rfl⟩ ⟨show 0 + 3 ≤ 20 by omega, show 0 + 18 ≤ 200 by omega⟩ ?_
                                  rintro _ _ _ H locs ⟨rfl, rfl, rfl⟩ h
                                  refine lv_iload X.1 X.2.1 dL_isSkin_347 (lv_at hl 5 rfl) ?_
                                  refine b_if_ne (tgt := 357) X dL_isSkin_349 (by decide) (a := ((1 : Nat) : Int)) (nI_ti (by omega)) (fun c75 => ?_) (fun c75 => ?_)
                                  · skip
                                    refine lv_iload X.1 X.2.1 dL_isSkin_357 (lv_at hl 1 rfl) ?_
                                    refine b_if_ne (tgt := 367) X dL_isSkin_359 (by decide) (a := ((1 : Nat) : Int)) (nI_ti (by omega)) (fun c76 => ?_) (fun c76 => ?_)
                                    · skip
                                      refine lv_iload X.1 X.2.1 dL_isSkin_367 (lv_at hl 3 rfl) ?_
                                      refine b_if_ne (tgt := 377) X dL_isSkin_369 (by decide) (a := ((1 : Nat) : Int)) (nI_ti (by omega)) (fun c77 => ?_) (fun c77 => ?_)
                                      · skip
                                        refine lv_iload X.1 X.2.1 dL_isSkin_377 (lv_at hl 0 rfl) ?_
                                        refine b_if_eq (tgt := 386) X dL_isSkin_379 (by decide) (a := ((1 : Nat) : Int)) (nI_ti (by omega)) (fun c78 => ?_) (fun c78 => ?_)
                                        · skip
                                          exact absurd c78 (by first | decide | omega)
                                        · skip
                                          refine lv_iconst (v := nI (1)) X.1 X.2.1 dL_isSkin_382 (by decide) ?_
                                          refine lv_goto (tgt := 387) X.1 X.2.1 dL_isSkin_383 (by decide) ?_
                                          refine b_icmp_ne (tgt := 394) X dL_isSkin_387 (by decide) (a := ((1 : Nat) : Int)) (b := ((1 : Nat) : Int)) (nI_ti (by omega)) (nI_ti (by omega)) (fun c79 => ?_) (fun c79 => ?_)
                                          · skip
                                            exact absurd c79 (by first | decide | omega)
                                          · skip
                                            refine lv_iconst (v := nI (1)) X.1 X.2.1 dL_isSkin_390 (by decide) ?_
                                            refine lv_goto (tgt := 395) X.1 X.2.1 dL_isSkin_391 (by decide) ?_
                                            exact q_zret X hr hlocks h dL_isSkin_395 ⟨show 0 + 3 ≤ 20 by omega, show 0 + 18 ≤ 200 by omega⟩ (rfl) (⟨rfl, rfl, by have z9 := stp_sell hLI hK9; rw [ix_nI (by omega), ix_nI (by omega), ix_nI (by omega)] at z9; exact z9⟩)
                                      · skip
                                        exact absurd c77 (by first | decide | omega)
                                    · skip
                                      exact absurd c76 (by first | decide | omega)
                                  · skip
                                    exact absurd c75 (by first | decide | omega)
                  · skip
                    refine lv_iconst (v := nI (1)) X.1 X.2.1 dL_isSkin_200 (by decide) ?_
                    exact q_zret X hr hlocks h dL_isSkin_201 ⟨show 0 ≤ 20 by omega, show 0 ≤ 200 by omega⟩ (rfl) (⟨rfl, rfl, hLI.more⟩)
              refine lv_iload X.1 X.2.1 dL_isSkin_170 (lv_at hl 0 rfl) ?_
              refine lv_sipush (v := nI (10001)) X.1 X.2.1 dL_isSkin_172 (by decide) ?_
              refine b_icmp_ge (tgt := 182) X dL_isSkin_175 (by decide) (a := ((pr : Nat) : Int)) (b := ((10001 : Nat) : Int)) (nI_ti (by omega)) (nI_ti (by omega)) (fun c80 => ?_) (fun c80 => ?_)
              · skip
                refine lv_iconst (v := nI (0)) X.1 X.2.1 dL_isSkin_182 (by decide) ?_
                refine lv_top (y := bI (decide (pr < 10001))) (bI_f (decide_eq_false (by omega))) ?_
                exact K183   _ _ _ h (lv_sub hl [0, 1, 2, 3, 4, 5, 6, 7, 8, 9, 10, 11, 12, 13, 14, 15, 16] rfl)
              · skip
                refine lv_iconst (v := nI (1)) X.1 X.2.1 dL_isSkin_178 (by decide) ?_
                refine lv_goto (tgt := 183) X.1 X.2.1 dL_isSkin_179 (by decide) ?_
                refine lv_top (y := bI (decide (pr < 10001))) (bI_t (decide_eq_true (by omega))) ?_
                exact K183   _ _ _ h (lv_sub hl [0, 1, 2, 3, 4, 5, 6, 7, 8, 9, 10, 11, 12, 13, 14, 15, 16] rfl)
            refine lv_iload X.1 X.2.1 dL_isSkin_143 (lv_at hl 15 rfl) ?_
            refine lv_bipush (v := nI (17)) X.1 X.2.1 dL_isSkin_145 (by decide) ?_
            refine lv_idiv X.1 X.2.1 dL_isSkin_147 (by decide) ?_
            refine lv_top (y := nI (two / 17)) (pk_div (by omega) (by omega) (by omega)) ?_
            refine lv_iconst (v := nI (3)) X.1 X.2.1 dL_isSkin_148 (by decide) ?_
            refine lv_irem X.1 X.2.1 dL_isSkin_149 (by decide) ?_
            refine lv_top (y := nI ((two / 17) % 3)) (pk_rem (by omega) (by omega) (by omega)) ?_
            refine b_if_ne (tgt := 162) X dL_isSkin_150 (by decide) (a := (((two / 17) % 3 : Nat) : Int)) (nI_ti (by omega)) (fun c81 => ?_) (fun c81 => ?_)
            · skip
              refine lv_iload X.1 X.2.1 dL_isSkin_162 (lv_at hl 15 rfl) ?_
              refine lv_sipush (v := nI (500)) X.1 X.2.1 dL_isSkin_164 (by decide) ?_
              refine lv_irem X.1 X.2.1 dL_isSkin_167 (by decide) ?_
              refine lv_top (y := nI (two % 500)) (pk_rem (by omega) (by omega) (by omega)) ?_
              exact K168 (two % 500) (by omega) _ _ _ h (lv_sub hl [0, 1, 2, 3, 4, 5, 6, 7, 8, 9, 10, 11, 12, 13, 14, 15] rfl)
            · skip
              refine lv_iload X.1 X.2.1 dL_isSkin_153 (lv_at hl 15 rfl) ?_
              refine lv_sipush (v := nI (10002)) X.1 X.2.1 dL_isSkin_155 (by decide) ?_
              refine lv_irem X.1 X.2.1 dL_isSkin_158 (by decide) ?_
              refine lv_top (y := nI (two % 10002)) (pk_rem (by omega) (by omega) (by omega)) ?_
              refine lv_goto (tgt := 168) X.1 X.2.1 dL_isSkin_159 (by decide) ?_
              exact K168 (two % 10002) (by omega) _ _ _ h (lv_sub hl [0, 1, 2, 3, 4, 5, 6, 7, 8, 9, 10, 11, 12, 13, 14, 15] rfl)
        refine lv_iload X.1 X.2.1 dL_isSkin_92 (lv_at hl 1 rfl) ?_
        refine b_if_eq (tgt := 135) X dL_isSkin_94 (by decide) (a := ((1 : Nat) : Int)) (nI_ti (by omega)) (fun c82 => ?_) (fun c82 => ?_)
        · skip
          exact absurd c82 (by first | decide | omega)
        · skip
          refine lv_iload X.1 X.2.1 dL_isSkin_97 (lv_at hl 0 rfl) ?_
          refine b_if_lt (tgt := 135) X dL_isSkin_99 (by decide) (a := ((F 17 k0 : Nat) : Int) - 1) (eI_ti (by omega)) (fun c83 => ?_) (fun c83 => ?_)
          · skip
            refine lv_iconst (v := nI (0)) X.1 X.2.1 dL_isSkin_135 (by decide) ?_
            refine lv_top (y := bI (decide (F 17 k0 ≠ 0 ∧ F 17 k0 ≠ r2 + 1 ∧ F 3 (F 17 k0 - 1) ≤ N 0 ∧ F 3 r2 ≤ N 0))) (bI_f (decide_eq_false (by omega))) ?_
            exact K136   _ _ _ h (lv_sub hl [0, 1, 2, 3, 4, 5, 6, 7, 8, 9, 10, 11, 12, 13, 14] rfl)
          · skip
            refine lv_iload X.1 X.2.1 dL_isSkin_102 (lv_at hl 0 rfl) ?_
            refine lv_iload X.1 X.2.1 dL_isSkin_104 (lv_at hl 2 rfl) ?_
            refine b_icmp_eq (tgt := 135) X dL_isSkin_106 (by decide) (a := ((F 17 k0 : Nat) : Int) - 1) (b := ((r2 : Nat) : Int)) (eI_ti (by omega)) (nI_ti (by omega)) (fun c84 => ?_) (fun c84 => ?_)
            · skip
              refine lv_iconst (v := nI (0)) X.1 X.2.1 dL_isSkin_135 (by decide) ?_
              refine lv_top (y := bI (decide (F 17 k0 ≠ 0 ∧ F 17 k0 ≠ r2 + 1 ∧ F 3 (F 17 k0 - 1) ≤ N 0 ∧ F 3 r2 ≤ N 0))) (bI_f (decide_eq_false (by omega))) ?_
              exact K136   _ _ _ h (lv_sub hl [0, 1, 2, 3, 4, 5, 6, 7, 8, 9, 10, 11, 12, 13, 14] rfl)
            · skip
              refine lv_aload_n X.1 X.2.1 dL_isSkin_109 rfl (lv_at hl 5 rfl) ?_
              refine lv_aload X.1 X.2.1 dL_isSkin_110 (lv_at hl 11 rfl) ?_
              refine lv_iload X.1 X.2.1 dL_isSkin_112 (lv_at hl 0 rfl) ?_
              refine lv_top (y := nI (F 17 k0 - 1)) (eI_pos (by omega)) ?_
              refine q_call X hS hZ hN h ck_L_103 kst_L_isBanned dL_isSkin_114 (As := [.ref (ar 0), .ref (ar 9), .int (nI (F 17 k0 - 1))]) (c_L_isBanned l G x ar (N, F, B) N F B (F 17 k0 - 1) (hI).ih (by omega)) rfl hl rfl (Nat.le_of_ble_eq_true rfl) ⟨Nat.le_of_ble_eq_true rfl, Nat.le_of_ble_eq_true rfl⟩ ⟨show 0 + 0 ≤ 20 by omega, show 0 + 0 ≤ 200 by omega⟩ ?_
              rintro _ _ _ H locs ⟨rfl, rfl, rfl⟩ h
              refine b_bool_ne (tgt := 135) X dL_isSkin_117 (by decide) (fun c85 => ?_) (fun c85 => ?_)
              · skip
                have c85 := of_decide_eq_true c85
                refine lv_iconst (v := nI (0)) X.1 X.2.1 dL_isSkin_135 (by decide) ?_
                refine lv_top (y := bI (decide (F 17 k0 ≠ 0 ∧ F 17 k0 ≠ r2 + 1 ∧ F 3 (F 17 k0 - 1) ≤ N 0 ∧ F 3 r2 ≤ N 0))) (bI_f (decide_eq_false (by omega))) ?_
                exact K136   _ _ _ h (lv_sub hl [0, 1, 2, 3, 4, 5, 6, 7, 8, 9, 10, 11, 12, 13, 14] rfl)
              · skip
                have c85 := of_decide_eq_false c85
                refine lv_aload_n X.1 X.2.1 dL_isSkin_120 rfl (lv_at hl 5 rfl) ?_
                refine lv_aload X.1 X.2.1 dL_isSkin_121 (lv_at hl 11 rfl) ?_
                refine lv_iload X.1 X.2.1 dL_isSkin_123 (lv_at hl 2 rfl) ?_
                refine q_call X hS hZ hN h ck_L_103 kst_L_isBanned dL_isSkin_125 (As := [.ref (ar 0), .ref (ar 9), .int (nI (r2))]) (c_L_isBanned l G x ar (N, F, B) N F B r2 (hI).ih (by omega)) rfl hl rfl (Nat.le_of_ble_eq_true rfl) ⟨Nat.le_of_ble_eq_true rfl, Nat.le_of_ble_eq_true rfl⟩ ⟨show 0 + 0 ≤ 20 by omega, show 0 + 0 ≤ 200 by omega⟩ ?_
                rintro _ _ _ H locs ⟨rfl, rfl, rfl⟩ h
                refine b_bool_ne (tgt := 135) X dL_isSkin_128 (by decide) (fun c86 => ?_) (fun c86 => ?_)
                · skip
                  have c86 := of_decide_eq_true c86
                  refine lv_iconst (v := nI (0)) X.1 X.2.1 dL_isSkin_135 (by decide) ?_
                  refine lv_top (y := bI (decide (F 17 k0 ≠ 0 ∧ F 17 k0 ≠ r2 + 1 ∧ F 3 (F 17 k0 - 1) ≤ N 0 ∧ F 3 r2 ≤ N 0))) (bI_f (decide_eq_false (by omega))) ?_
                  exact K136   _ _ _ h (lv_sub hl [0, 1, 2, 3, 4, 5, 6, 7, 8, 9, 10, 11, 12, 13, 14] rfl)
                · skip
                  have c86 := of_decide_eq_false c86
                  refine lv_iconst (v := nI (1)) X.1 X.2.1 dL_isSkin_131 (by decide) ?_
                  refine lv_goto (tgt := 136) X.1 X.2.1 dL_isSkin_132 (by decide) ?_
                  refine lv_top (y := bI (decide (F 17 k0 ≠ 0 ∧ F 17 k0 ≠ r2 + 1 ∧ F 3 (F 17 k0 - 1) ≤ N 0 ∧ F 3 r2 ≤ N 0))) (bI_t (decide_eq_true (by omega))) ?_
                  exact K136   _ _ _ h (lv_sub hl [0, 1, 2, 3, 4, 5, 6, 7, 8, 9, 10, 11, 12, 13, 14] rfl)
    refine lv_iload X.1 X.2.1 dL_isSkin_44 (lv_at hl 1 rfl) ?_
    refine lv_aload X.1 X.2.1 dL_isSkin_46 (lv_at hl 9 rfl) ?_
    refine lv_iconst (v := nI (4)) X.1 X.2.1 dL_isSkin_48 (by decide) ?_
    refine q_ald X h 9 (by decide) dL_isSkin_49 (i := 4) (v := nI (N 13)) rfl (by show _ < 9; omega) (fun V r => LR.g4 r) ?_
    refine b_icmp_ge (tgt := 66) X dL_isSkin_50 (by decide) (a := ((k0 : Nat) : Int)) (b := ((N 13 : Nat) : Int)) (nI_ti (by omega)) (nI_ti (by omega)) (fun c87 => ?_) (fun c87 => ?_)
    · skip
      refine lv_iconst (v := nI (0)) X.1 X.2.1 dL_isSkin_66 (by decide) ?_
      refine lv_top (y := bI (decide (k0 < N 13 ∧ r2 < N 1))) (bI_f (decide_eq_false (by omega))) ?_
      exact K67   _ _ _ h (lv_sub hl [0, 1, 2, 3, 4, 5, 6, 7, 8, 9, 10, 11, 12] rfl)
    · skip
      refine lv_iload X.1 X.2.1 dL_isSkin_53 (lv_at hl 0 rfl) ?_
      refine lv_aload X.1 X.2.1 dL_isSkin_55 (lv_at hl 9 rfl) ?_
      refine lv_iconst (v := nI (1)) X.1 X.2.1 dL_isSkin_57 (by decide) ?_
      refine q_ald X h 9 (by decide) dL_isSkin_58 (i := 1) (v := nI (N 1)) rfl (by show _ < 9; omega) (fun V r => LR.g1 r) ?_
      refine b_icmp_ge (tgt := 66) X dL_isSkin_59 (by decide) (a := ((r2 : Nat) : Int)) (b := ((N 1 : Nat) : Int)) (nI_ti (by omega)) (nI_ti (by omega)) (fun c88 => ?_) (fun c88 => ?_)
      · skip
        refine lv_iconst (v := nI (0)) X.1 X.2.1 dL_isSkin_66 (by decide) ?_
        refine lv_top (y := bI (decide (k0 < N 13 ∧ r2 < N 1))) (bI_f (decide_eq_false (by omega))) ?_
        exact K67   _ _ _ h (lv_sub hl [0, 1, 2, 3, 4, 5, 6, 7, 8, 9, 10, 11, 12] rfl)
      · skip
        refine lv_iconst (v := nI (1)) X.1 X.2.1 dL_isSkin_62 (by decide) ?_
        refine lv_goto (tgt := 67) X.1 X.2.1 dL_isSkin_63 (by decide) ?_
        refine lv_top (y := bI (decide (k0 < N 13 ∧ r2 < N 1))) (bI_t (decide_eq_true (by omega))) ?_
        exact K67   _ _ _ h (lv_sub hl [0, 1, 2, 3, 4, 5, 6, 7, 8, 9, 10, 11, 12] rfl)
  refine lv_iload X.1 X.2.1 dL_isSkin_11 (lv_at hl 0 rfl) ?_
  refine lv_iconst (v := nI (5)) X.1 X.2.1 dL_isSkin_13 (by decide) ?_
  refine b_icmp_le (tgt := 29) X dL_isSkin_14 (by decide) (a := ((r1 : Nat) : Int)) (b := ((5 : Nat) : Int)) (nI_ti (by omega)) (nI_ti (by omega)) (fun c89 => ?_) (fun c89 => ?_)
  · skip
    refine lv_iload X.1 X.2.1 dL_isSkin_29 (lv_at hl 0 rfl) ?_
    exact K31 (r1) (by omega) (by omega) _ _ _ h (lv_sub hl [0, 1, 2, 3, 4, 5, 6, 7, 8, 9, 10, 11] rfl)
  · skip
    refine lv_iload X.1 X.2.1 dL_isSkin_17 (lv_at hl 9 rfl) ?_
    refine b_if_eq (tgt := 29) X dL_isSkin_19 (by decide) (a := ((1 : Nat) : Int)) (nI_ti (by omega)) (fun c90 => ?_) (fun c90 => ?_)
    · skip
      exact absurd c90 (by first | decide | omega)
    · skip
      refine lv_aload X.1 X.2.1 dL_isSkin_22 (lv_at hl 8 rfl) ?_
      refine lv_iconst (v := nI (4)) X.1 X.2.1 dL_isSkin_24 (by decide) ?_
      refine q_ald X h 9 (by decide) dL_isSkin_25 (i := 4) (v := nI (N 13)) rfl (by show _ < 9; omega) (fun V r => LR.g4 r) ?_
      refine lv_goto (tgt := 31) X.1 X.2.1 dL_isSkin_26 (by decide) ?_
      exact K31 (N 13) (by omega) (by omega) _ _ _ h (lv_sub hl [0, 1, 2, 3, 4, 5, 6, 7, 8, 9, 10, 11] rfl)
set_option maxHeartbeats 4000000 in
set_option maxRecDepth 100000 in
theorem c_L_isSkin0 (l : Launch) (G : mG) (x : Nat) (ar : Nat → Nat) (N : Nat → Nat) (F : Nat → Nat → Nat) (B : Nat → Int32) (jj : Nat) (one : Nat) (two : Nat) (hst : l.stackTraces = false) (hLI : LI jj N F B) (hone : one < 60000) (htwo : two < 60000) : QMet l yL_isSkin cL_isSkin 19 (some FieldType.boolean) ({ frames := 9, cells := 20, slots := 200, locals := 154 } : Room) G x ar [.ref x, .ref (ar 0), .ref (ar 4), .ref (ar 5), .ref (ar 6), .ref (ar 7), .ref (ar 8), .ref (ar 9), .int (nI (0)), .int (nI (one)), .int (nI (two))] (N, F, B) (N, F, B) (fun r C' D' => r = some (.int (nI 1)) ∧ C' = D' ∧ LI (jj + 1) D'.1 D'.2.1 D'.2.2) := by
  refine QMet.of (by decide) (Nat.le_of_ble_eq_true rfl) ?_
  intro p e s m args below meth c A ls X hr hlocks hS hZ hN h hl
  have hl : lv_has ls 19 [(0, .ref x), (1, .ref (ar 0)), (2, .ref (ar 4)), (3, .ref (ar 5)), (4, .ref (ar 6)), (5, .ref (ar 7)), (6, .ref (ar 8)), (7, .ref (ar 9)), (8, .int (nI (0))), (9, .int (nI (one))), (10, .int (nI (two)))] := hl
  have hI := hLI.1
  have hJ := hLI.2.1
  have hn := hI.n
  have h6 := qM.n6 h
  refine lv_iload X.1 X.2.1 dL_isSkin_0 (lv_at hl 9 rfl) ?_
  refine lv_aload X.1 X.2.1 dL_isSkin_2 (lv_at hl 7 rfl) ?_
  refine lv_iconst (v := nI (4)) X.1 X.2.1 dL_isSkin_4 (by decide) ?_
  refine q_ald X h 9 (by decide) dL_isSkin_5 (i := 4) (v := nI (N 13)) rfl (by show _ < 9; omega) (fun V r => LR.g4 r) ?_
  refine lv_iconst (v := nI (1)) X.1 X.2.1 dL_isSkin_6 (by decide) ?_
  refine lv_iadd X.1 X.2.1 dL_isSkin_7 ?_
  refine lv_top (y := nI (N 13 + 1)) (nI_add _ _) ?_
  refine lv_irem X.1 X.2.1 dL_isSkin_8 (nI_n0 (by omega) (by omega)) ?_
  refine lv_top (y := nI (one % (N 13 + 1))) (pk_rem (by omega) (by omega) (by omega)) ?_
  have hr1 := Nat.mod_lt one (show 0 < N 13 + 1 by omega)
  generalize one % (N 13 + 1) = r1 at hr1 ⊢
  refine lv_istore (lv' := [(11, .int (nI (r1))), (0, .ref x), (1, .ref (ar 0)), (2, .ref (ar 4)), (3, .ref (ar 5)), (4, .ref (ar 6)), (5, .ref (ar 7)), (6, .ref (ar 8)), (7, .ref (ar 9)), (8, .int (nI (0))), (9, .int (nI (one))), (10, .int (nI (two)))]) X.1 X.2.1 dL_isSkin_9 hl (by decide) rfl (fun ls hl => ?_)
  have K31 : ∀ (k0 : Nat) (hk0 : k0 ≤ N 13) (H : Heap) (locs : List Loc) (ls : Array Slot), qM G A s x ar (N, F, B) (N, F, B) H locs → lv_has ls 19 [(11, .int (nI (r1))), (0, .ref x), (1, .ref (ar 0)), (2, .ref (ar 4)), (3, .ref (ar 5)), (4, .ref (ar 6)), (5, .ref (ar 7)), (6, .ref (ar 8)), (7, .ref (ar 9)), (8, .int (nI (0))), (9, .int (nI (one))), (10, .int (nI (two)))] → W p l e ({ frames := 9, cells := 20, slots := 200, locals := 154 } : Room) s m args below meth c H locs (0) (0) (QZ G A x ar (fun r C' D' => r = some (.int (nI 1)) ∧ C' = D' ∧ LI (jj + 1) D'.1 D'.2.1 D'.2.2) below args s 20 200) (F0 m 31 ls [.int (nI (k0))]) := by
    intro k0 hk0 H locs ls h hl
    refine lv_istore (lv' := [(11, .int (nI (k0))), (0, .ref x), (1, .ref (ar 0)), (2, .ref (ar 4)), (3, .ref (ar 5)), (4, .ref (ar 6)), (5, .ref (ar 7)), (6, .ref (ar 8)), (7, .ref (ar 9)), (8, .int (nI (0))), (9, .int (nI (one))), (10, .int (nI (two)))]) X.1 X.2.1 dL_isSkin_31 hl (by decide) rfl (fun ls hl => ?_)
    refine lv_iload X.1 X.2.1 dL_isSkin_33 (lv_at hl 11 rfl) ?_
    refine lv_aload X.1 X.2.1 dL_isSkin_35 (lv_at hl 8 rfl) ?_
    refine lv_iconst (v := nI (1)) X.1 X.2.1 dL_isSkin_37 (by decide) ?_
    refine q_ald X h 9 (by decide) dL_isSkin_38 (i := 1) (v := nI (N 1)) rfl (by show _ < 9; omega) (fun V r => LR.g1 r) ?_
    refine lv_iconst (v := nI (1)) X.1 X.2.1 dL_isSkin_39 (by decide) ?_
    refine lv_iadd X.1 X.2.1 dL_isSkin_40 ?_
    refine lv_top (y := nI (N 1 + 1)) (nI_add _ _) ?_
    refine lv_irem X.1 X.2.1 dL_isSkin_41 (nI_n0 (by omega) (by omega)) ?_
    refine lv_top (y := nI (two % (N 1 + 1))) (pk_rem (by omega) (by omega) (by omega)) ?_
    have hr2 := Nat.mod_lt two (show 0 < N 1 + 1 by omega)
    generalize two % (N 1 + 1) = r2 at hr2 ⊢
    refine lv_istore (lv' := [(12, .int (nI (r2))), (11, .int (nI (k0))), (0, .ref x), (1, .ref (ar 0)), (2, .ref (ar 4)), (3, .ref (ar 5)), (4, .ref (ar 6)), (5, .ref (ar 7)), (6, .ref (ar 8)), (7, .ref (ar 9)), (8, .int (nI (0))), (9, .int (nI (one))), (10, .int (nI (two)))]) X.1 X.2.1 dL_isSkin_42 hl (by decide) rfl (fun ls hl => ?_)
    have K67 : ∀ (H : Heap) (locs : List Loc) (ls : Array Slot), qM G A s x ar (N, F, B) (N, F, B) H locs → lv_has ls 19 [(12, .int (nI (r2))), (11, .int (nI (k0))), (0, .ref x), (1, .ref (ar 0)), (2, .ref (ar 4)), (3, .ref (ar 5)), (4, .ref (ar 6)), (5, .ref (ar 7)), (6, .ref (ar 8)), (7, .ref (ar 9)), (8, .int (nI (0))), (9, .int (nI (one))), (10, .int (nI (two)))] → W p l e ({ frames := 9, cells := 20, slots := 200, locals := 154 } : Room) s m args below meth c H locs (0) (0) (QZ G A x ar (fun r C' D' => r = some (.int (nI 1)) ∧ C' = D' ∧ LI (jj + 1) D'.1 D'.2.1 D'.2.2) below args s 20 200) (F0 m 67 ls [.int (bI (decide (k0 < N 13 ∧ r2 < N 1)))]) := by
      intro  H locs ls h hl
      refine lv_istore (lv' := [(13, .int (bI (decide (k0 < N 13 ∧ r2 < N 1)))), (12, .int (nI (r2))), (11, .int (nI (k0))), (0, .ref x), (1, .ref (ar 0)), (2, .ref (ar 4)), (3, .ref (ar 5)), (4, .ref (ar 6)), (5, .ref (ar 7)), (6, .ref (ar 8)), (7, .ref (ar 9)), (8, .int (nI (0))), (9, .int (nI (one))), (10, .int (nI (two)))]) X.1 X.2.1 dL_isSkin_67 hl (by decide) rfl (fun ls hl => ?_)
      refine lv_iload X.1 X.2.1 dL_isSkin_69 (lv_at hl 0 rfl) ?_
      refine b_bool_eq (tgt := 89) X dL_isSkin_71 (by decide) (fun c3 => ?_) (fun c3 => ?_)
      · skip
        have c3 := of_decide_eq_false c3
        rw [show bI (decide (k0 < N 13 ∧ r2 < N 1)) = nI 0 from (bI_f (decide_eq_false c3)).symm] at hl
        refine lv_iconst (v := nI (0) - 1) X.1 X.2.1 dL_isSkin_89 (by decide) ?_
        refine lv_istore (lv' := [(14, .int (nI (0) - 1)), (13, .int (nI (0))), (12, .int (nI (r2))), (11, .int (nI (k0))), (0, .ref x), (1, .ref (ar 0)), (2, .ref (ar 4)), (3, .ref (ar 5)), (4, .ref (ar 6)), (5, .ref (ar 7)), (6, .ref (ar 8)), (7, .ref (ar 9)), (8, .int (nI (0))), (9, .int (nI (one))), (10, .int (nI (two)))]) X.1 X.2.1 dL_isSkin_90 hl (by decide) rfl (fun ls hl => ?_)
        refine lv_iload X.1 X.2.1 dL_isSkin_92 (lv_at hl 1 rfl) ?_
        refine b_if_eq (tgt := 135) X dL_isSkin_94 (by decide) (a := ((0 : Nat) : Int)) (nI_ti (by omega)) (fun c4 => ?_) (fun c4 => ?_)
        · skip
          refine lv_iconst (v := nI (0)) X.1 X.2.1 dL_isSkin_135 (by decide) ?_
          refine lv_istore (lv' := [(15, .int (nI (0))), (14, .int (nI (0) - 1)), (13, .int (nI (0))), (12, .int (nI (r2))), (11, .int (nI (k0))), (0, .ref x), (1, .ref (ar 0)), (2, .ref (ar 4)), (3, .ref (ar 5)), (4, .ref (ar 6)), (5, .ref (ar 7)), (6, .ref (ar 8)), (7, .ref (ar 9)), (8, .int (nI (0))), (9, .int (nI (one))), (10, .int (nI (two)))]) X.1 X.2.1 dL_isSkin_136 hl (by decide) rfl (fun ls hl => ?_)
          refine lv_iload X.1 X.2.1 dL_isSkin_138 (lv_at hl 13 rfl) ?_
          refine b_if_eq (tgt := 396) X dL_isSkin_140 (by decide) (a := ((0 : Nat) : Int)) (nI_ti (by omega)) (fun c5 => ?_) (fun c5 => ?_)
          · skip
            refine lv_iload X.1 X.2.1 dL_isSkin_396 (lv_at hl 15 rfl) ?_
            refine lv_bipush (v := nI (17)) X.1 X.2.1 dL_isSkin_398 (by decide) ?_
            refine lv_idiv X.1 X.2.1 dL_isSkin_400 (by decide) ?_
            refine lv_top (y := nI (two / 17)) (pk_div (by omega) (by omega) (by omega)) ?_
            refine lv_bipush (v := nI (102)) X.1 X.2.1 dL_isSkin_401 (by decide) ?_
            refine lv_irem X.1 X.2.1 dL_isSkin_403 (by decide) ?_
            refine lv_top (y := nI ((two / 17) % 102)) (pk_rem (by omega) (by omega) (by omega)) ?_
            obtain ⟨dy, hdy⟩ : ∃ dy, (two / 17) % 102 = dy := ⟨_, rfl⟩
            rw [hdy]
            have hdy2 : dy < 102 := by omega
            refine lv_istore (lv' := [(16, .int (nI (dy))), (15, .int (nI (0))), (14, .int (nI (0) - 1)), (13, .int (nI (0))), (12, .int (nI (r2))), (11, .int (nI (k0))), (0, .ref x), (1, .ref (ar 0)), (2, .ref (ar 4)), (3, .ref (ar 5)), (4, .ref (ar 6)), (5, .ref (ar 7)), (6, .ref (ar 8)), (7, .ref (ar 9)), (8, .int (nI (0))), (9, .int (nI (one))), (10, .int (nI (two)))]) X.1 X.2.1 dL_isSkin_404 hl (by decide) rfl (fun ls hl => ?_)
            have K423 : ∀ (H : Heap) (locs : List Loc) (ls : Array Slot), qM G A s x ar (N, F, B) (N, F, B) H locs → lv_has ls 19 [(16, .int (nI (dy))), (15, .int (nI (0))), (14, .int (nI (0) - 1)), (13, .int (nI (0))), (12, .int (nI (r2))), (11, .int (nI (k0))), (0, .ref x), (1, .ref (ar 0)), (2, .ref (ar 4)), (3, .ref (ar 5)), (4, .ref (ar 6)), (5, .ref (ar 7)), (6, .ref (ar 8)), (7, .ref (ar 9)), (8, .int (nI (0))), (9, .int (nI (one))), (10, .int (nI (two)))] → W p l e ({ frames := 9, cells := 20, slots := 200, locals := 154 } : Room) s m args below meth c H locs (0) (0) (QZ G A x ar (fun r C' D' => r = some (.int (nI 1)) ∧ C' = D' ∧ LI (jj + 1) D'.1 D'.2.1 D'.2.2) below args s 20 200) (F0 m 423 ls [.int (bI (decide (0 < dy ∧ dy < 101)))]) := by
              intro  H locs ls h hl
              refine lv_istore (lv' := [(17, .int (bI (decide (0 < dy ∧ dy < 101)))), (16, .int (nI (dy))), (15, .int (nI (0))), (14, .int (nI (0) - 1)), (13, .int (nI (0))), (12, .int (nI (r2))), (11, .int (nI (k0))), (0, .ref x), (1, .ref (ar 0)), (2, .ref (ar 4)), (3, .ref (ar 5)), (4, .ref (ar 6)), (5, .ref (ar 7)), (6, .ref (ar 8)), (7, .ref (ar 9)), (8, .int (nI (0))), (9, .int (nI (one))), (10, .int (nI (two)))]) X.1 X.2.1 dL_isSkin_423 hl (by decide) rfl (fun ls hl => ?_)
              refine lv_iload X.1 X.2.1 dL_isSkin_425 (lv_at hl 2 rfl) ?_
              refine b_if_eq (tgt := 469) X dL_isSkin_427 (by decide) (a := ((0 : Nat) : Int)) (nI_ti (by omega)) (fun c6 => ?_) (fun c6 => ?_)
              · skip
                have hK9 : kLend N F (nI k0) (nI r2) (nI dy) = 1 := kLend_1 (by omega) (by omega) (by omega) (by omega) c3
                refine lv_aload_n X.1 X.2.1 dL_isSkin_469 rfl (lv_at hl 7 rfl) ?_
                refine lv_iconst (v := nI (5)) X.1 X.2.1 dL_isSkin_470 (by decide) ?_
                refine lv_iload X.1 X.2.1 dL_isSkin_471 (lv_at hl 6 rfl) ?_
                refine lv_iload X.1 X.2.1 dL_isSkin_473 (lv_at hl 5 rfl) ?_
                refine lv_iload X.1 X.2.1 dL_isSkin_475 (lv_at hl 1 rfl) ?_
                refine q_callL X hS hZ hN h kcw_L_does kini_L (by decide) kar_L_does kml_L_does kst_L_does dL_isSkin_477 (As := [.ref x, .int (nI (5)), .int (nI (k0)), .int (nI (r2)), .int (nI (dy))]) ((c_L_does_lend l G x ar N F B (N, F, B) (nI (k0)) (nI (r2)) (nI (dy)) hst hI).k (k := 1) (hK9) (w := (-3000000)) (rfl) (C2 := (N, F, B)) (rfl)) rfl hl rfl (Nat.le_of_ble_eq_true rfl) ⟨Nat.le_of_ble_eq_true rfl, Nat.le_of_ble_eq_true rfl⟩ ⟨show 0 + 3 ≤ 20 by omega, show 0 + 18 ≤ 200 by omega⟩ ?_
                rintro _ _ _ H locs ⟨rfl, rfl, rfl⟩ h
                refine lv_iload X.1 X.2.1 dL_isSkin_480 (lv_at hl 4 rfl) ?_
                refine b_if_ne (tgt := 490) X dL_isSkin_482 (by decide) (a := ((0 : Nat) : Int)) (nI_ti (by omega)) (fun c7 => ?_) (fun c7 => ?_)
                · skip
                  exact absurd c7 (by first | decide | omega)
                · skip
                  refine lv_ldc (own := RL) (index := 64) (v := (-3000000)) X.1 X.2.1 X.2.2.2.1 (X.2.2.2.2.1.use kco_L_64) dL_isSkin_485 ?_
                  refine lv_goto (tgt := 514) X.1 X.2.1 dL_isSkin_487 (by decide) ?_
                  refine b_icmp_ne (tgt := 521) X dL_isSkin_514 (by decide) (a := (-3000000)) (b := (-3000000)) ((by decide)) ((by decide)) (fun c8 => ?_) (fun c8 => ?_)
                  · skip
                    exact absurd c8 (by first | decide | omega)
                  · skip
                    refine lv_iconst (v := nI (1)) X.1 X.2.1 dL_isSkin_517 (by decide) ?_
                    refine lv_goto (tgt := 522) X.1 X.2.1 dL_isSkin_518 (by decide) ?_
                    exact q_zret X hr hlocks h dL_isSkin_522 ⟨show 0 + 3 ≤ 20 by omega, show 0 + 18 ≤ 200 by omega⟩ (rfl) (⟨rfl, rfl, hLI.more⟩)
              · skip
                exact absurd c6 (by first | decide | omega)
            refine lv_iload X.1 X.2.1 dL_isSkin_406 (lv_at hl 0 rfl) ?_
            refine b_if_le (tgt := 422) X dL_isSkin_408 (by decide) (a := ((dy : Nat) : Int)) (nI_ti (by omega)) (fun c9 => ?_) (fun c9 => ?_)
            · skip
              refine lv_iconst (v := nI (0)) X.1 X.2.1 dL_isSkin_422 (by decide) ?_
              refine lv_top (y := bI (decide (0 < dy ∧ dy < 101))) (bI_f (decide_eq_false (by omega))) ?_
              exact K423   _ _ _ h (lv_sub hl [0, 1, 2, 3, 4, 5, 6, 7, 8, 9, 10, 11, 12, 13, 14, 15, 16] rfl)
            · skip
              refine lv_iload X.1 X.2.1 dL_isSkin_411 (lv_at hl 0 rfl) ?_
              refine lv_bipush (v := nI (101)) X.1 X.2.1 dL_isSkin_413 (by decide) ?_
              refine b_icmp_ge (tgt := 422) X dL_isSkin_415 (by decide) (a := ((dy : Nat) : Int)) (b := ((101 : Nat) : Int)) (nI_ti (by omega)) (nI_ti (by omega)) (fun c10 => ?_) (fun c10 => ?_)
              · skip
                refine lv_iconst (v := nI (0)) X.1 X.2.1 dL_isSkin_422 (by decide) ?_
                refine lv_top (y := bI (decide (0 < dy ∧ dy < 101))) (bI_f (decide_eq_false (by omega))) ?_
                exact K423   _ _ _ h (lv_sub hl [0, 1, 2, 3, 4, 5, 6, 7, 8, 9, 10, 11, 12, 13, 14, 15, 16] rfl)
              · skip
                refine lv_iconst (v := nI (1)) X.1 X.2.1 dL_isSkin_418 (by decide) ?_
                refine lv_goto (tgt := 423) X.1 X.2.1 dL_isSkin_419 (by decide) ?_
                refine lv_top (y := bI (decide (0 < dy ∧ dy < 101))) (bI_t (decide_eq_true (by omega))) ?_
                exact K423   _ _ _ h (lv_sub hl [0, 1, 2, 3, 4, 5, 6, 7, 8, 9, 10, 11, 12, 13, 14, 15, 16] rfl)
          · skip
            exact absurd c5 (by first | decide | omega)
        · skip
          exact absurd c4 (by first | decide | omega)
      · skip
        have c3 := of_decide_eq_true c3
        rw [show bI (decide (k0 < N 13 ∧ r2 < N 1)) = nI 1 from (bI_t (decide_eq_true c3)).symm] at hl
        refine lv_aload_n X.1 X.2.1 dL_isSkin_74 rfl (lv_at hl 5 rfl) ?_
        refine lv_iload X.1 X.2.1 dL_isSkin_75 (lv_at hl 2 rfl) ?_
        refine q_ald X h 4 (by decide) dL_isSkin_77 (i := k0) (v := nI (hvS F k0)) rfl (by show _ < 36; omega) (fun V r => LR.h4 r (by omega)) ?_
        have b11 := hv_b hI (show k0 < N 13 by omega)
        refine lv_bipush (v := nI (32)) X.1 X.2.1 dL_isSkin_78 (by decide) ?_
        refine lv_idiv X.1 X.2.1 dL_isSkin_80 (by decide) ?_
        refine lv_top (y := nI ((hvS F k0) / 32)) (pk_div (by omega) (by omega) (by omega)) ?_
        refine lv_bipush (v := nI (32)) X.1 X.2.1 dL_isSkin_81 (by decide) ?_
        refine lv_irem X.1 X.2.1 dL_isSkin_83 (by decide) ?_
        refine lv_top (y := nI (F 17 k0)) ((pk_rem (by omega) (by omega) (by omega)).trans (congrArg nI b11.2.2.1)) ?_
        refine lv_iconst (v := nI (1)) X.1 X.2.1 dL_isSkin_84 (by decide) ?_
        refine lv_isub X.1 X.2.1 dL_isSkin_85 ?_
        refine lv_top (y := nI (F 17 k0) - 1) rfl ?_
        refine lv_goto (tgt := 90) X.1 X.2.1 dL_isSkin_86 (by decide) ?_
        refine lv_istore (lv' := [(14, .int (nI (F 17 k0) - 1)), (13, .int (nI (1))), (12, .int (nI (r2))), (11, .int (nI (k0))), (0, .ref x), (1, .ref (ar 0)), (2, .ref (ar 4)), (3, .ref (ar 5)), (4, .ref (ar 6)), (5, .ref (ar 7)), (6, .ref (ar 8)), (7, .ref (ar 9)), (8, .int (nI (0))), (9, .int (nI (one))), (10, .int (nI (two)))]) X.1 X.2.1 dL_isSkin_90 hl (by decide) rfl (fun ls hl => ?_)
        have K136 : ∀ (H : Heap) (locs : List Loc) (ls : Array Slot), qM G A s x ar (N, F, B) (N, F, B) H locs → lv_has ls 19 [(14, .int (nI (F 17 k0) - 1)), (13, .int (nI (1))), (12, .int (nI (r2))), (11, .int (nI (k0))), (0, .ref x), (1, .ref (ar 0)), (2, .ref (ar 4)), (3, .ref (ar 5)), (4, .ref (ar 6)), (5, .ref (ar 7)), (6, .ref (ar 8)), (7, .ref (ar 9)), (8, .int (nI (0))), (9, .int (nI (one))), (10, .int (nI (two)))] → W p l e ({ frames := 9, cells := 20, slots := 200, locals := 154 } : Room) s m args below meth c H locs (0) (0) (QZ G A x ar (fun r C' D' => r = some (.int (nI 1)) ∧ C' = D' ∧ LI (jj + 1) D'.1 D'.2.1 D'.2.2) below args s 20 200) (F0 m 136 ls [.int (bI (decide (F 17 k0 ≠ 0 ∧ F 17 k0 ≠ r2 + 1 ∧ F 3 (F 17 k0 - 1) ≤ N 0 ∧ F 3 r2 ≤ N 0)))]) := by
          intro  H locs ls h hl
          refine lv_istore (lv' := [(15, .int (bI (decide (F 17 k0 ≠ 0 ∧ F 17 k0 ≠ r2 + 1 ∧ F 3 (F 17 k0 - 1) ≤ N 0 ∧ F 3 r2 ≤ N 0)))), (14, .int (nI (F 17 k0) - 1)), (13, .int (nI (1))), (12, .int (nI (r2))), (11, .int (nI (k0))), (0, .ref x), (1, .ref (ar 0)), (2, .ref (ar 4)), (3, .ref (ar 5)), (4, .ref (ar 6)), (5, .ref (ar 7)), (6, .ref (ar 8)), (7, .ref (ar 9)), (8, .int (nI (0))), (9, .int (nI (one))), (10, .int (nI (two)))]) X.1 X.2.1 dL_isSkin_136 hl (by decide) rfl (fun ls hl => ?_)
          refine lv_iload X.1 X.2.1 dL_isSkin_138 (lv_at hl 13 rfl) ?_
          refine b_if_eq (tgt := 396) X dL_isSkin_140 (by decide) (a := ((0 : Nat) : Int)) (nI_ti (by omega)) (fun c12 => ?_) (fun c12 => ?_)
          · skip
            refine lv_iload X.1 X.2.1 dL_isSkin_396 (lv_at hl 15 rfl) ?_
            refine lv_bipush (v := nI (17)) X.1 X.2.1 dL_isSkin_398 (by decide) ?_
            refine lv_idiv X.1 X.2.1 dL_isSkin_400 (by decide) ?_
            refine lv_top (y := nI (two / 17)) (pk_div (by omega) (by omega) (by omega)) ?_
            refine lv_bipush (v := nI (102)) X.1 X.2.1 dL_isSkin_401 (by decide) ?_
            refine lv_irem X.1 X.2.1 dL_isSkin_403 (by decide) ?_
            refine lv_top (y := nI ((two / 17) % 102)) (pk_rem (by omega) (by omega) (by omega)) ?_
            obtain ⟨dy, hdy⟩ : ∃ dy, (two / 17) % 102 = dy := ⟨_, rfl⟩
            rw [hdy]
            have hdy2 : dy < 102 := by omega
            refine lv_istore (lv' := [(16, .int (nI (dy))), (15, .int (bI (decide (F 17 k0 ≠ 0 ∧ F 17 k0 ≠ r2 + 1 ∧ F 3 (F 17 k0 - 1) ≤ N 0 ∧ F 3 r2 ≤ N 0)))), (14, .int (nI (F 17 k0) - 1)), (13, .int (nI (1))), (12, .int (nI (r2))), (11, .int (nI (k0))), (0, .ref x), (1, .ref (ar 0)), (2, .ref (ar 4)), (3, .ref (ar 5)), (4, .ref (ar 6)), (5, .ref (ar 7)), (6, .ref (ar 8)), (7, .ref (ar 9)), (8, .int (nI (0))), (9, .int (nI (one))), (10, .int (nI (two)))]) X.1 X.2.1 dL_isSkin_404 hl (by decide) rfl (fun ls hl => ?_)
            have K423 : ∀ (H : Heap) (locs : List Loc) (ls : Array Slot), qM G A s x ar (N, F, B) (N, F, B) H locs → lv_has ls 19 [(16, .int (nI (dy))), (15, .int (bI (decide (F 17 k0 ≠ 0 ∧ F 17 k0 ≠ r2 + 1 ∧ F 3 (F 17 k0 - 1) ≤ N 0 ∧ F 3 r2 ≤ N 0)))), (14, .int (nI (F 17 k0) - 1)), (13, .int (nI (1))), (12, .int (nI (r2))), (11, .int (nI (k0))), (0, .ref x), (1, .ref (ar 0)), (2, .ref (ar 4)), (3, .ref (ar 5)), (4, .ref (ar 6)), (5, .ref (ar 7)), (6, .ref (ar 8)), (7, .ref (ar 9)), (8, .int (nI (0))), (9, .int (nI (one))), (10, .int (nI (two)))] → W p l e ({ frames := 9, cells := 20, slots := 200, locals := 154 } : Room) s m args below meth c H locs (0) (0) (QZ G A x ar (fun r C' D' => r = some (.int (nI 1)) ∧ C' = D' ∧ LI (jj + 1) D'.1 D'.2.1 D'.2.2) below args s 20 200) (F0 m 423 ls [.int (bI (decide (0 < dy ∧ dy < 101)))]) := by
              intro  H locs ls h hl
              refine lv_istore (lv' := [(17, .int (bI (decide (0 < dy ∧ dy < 101)))), (16, .int (nI (dy))), (15, .int (bI (decide (F 17 k0 ≠ 0 ∧ F 17 k0 ≠ r2 + 1 ∧ F 3 (F 17 k0 - 1) ≤ N 0 ∧ F 3 r2 ≤ N 0)))), (14, .int (nI (F 17 k0) - 1)), (13, .int (nI (1))), (12, .int (nI (r2))), (11, .int (nI (k0))), (0, .ref x), (1, .ref (ar 0)), (2, .ref (ar 4)), (3, .ref (ar 5)), (4, .ref (ar 6)), (5, .ref (ar 7)), (6, .ref (ar 8)), (7, .ref (ar 9)), (8, .int (nI (0))), (9, .int (nI (one))), (10, .int (nI (two)))]) X.1 X.2.1 dL_isSkin_423 hl (by decide) rfl (fun ls hl => ?_)
              refine lv_iload X.1 X.2.1 dL_isSkin_425 (lv_at hl 2 rfl) ?_
              refine b_bool_eq (tgt := 469) X dL_isSkin_427 (by decide) (fun c13 => ?_) (fun c13 => ?_)
              · skip
                have c13 := of_decide_eq_false c13
                rw [show bI (decide (F 17 k0 ≠ 0 ∧ F 17 k0 ≠ r2 + 1 ∧ F 3 (F 17 k0 - 1) ≤ N 0 ∧ F 3 r2 ≤ N 0)) = nI 0 from (bI_f (decide_eq_false c13)).symm] at hl
                by_cases hR : 0 < dy ∧ dy < 101
                · skip
                  rw [show bI (decide (0 < dy ∧ dy < 101)) = nI 1 from (bI_t (decide_eq_true hR)).symm] at hl
                  have hK9 : kLend N F (nI k0) (nI r2) (nI dy) = 3 := by rw [kLend_v (by omega) (by omega) (by omega) (by omega) (by omega), if_neg (show ¬ ¬ (1 ≤ dy ∧ dy ≤ 100) by omega), if_neg (fun z => by have z2 := cDeal_t z; omega)]
                  refine lv_aload_n X.1 X.2.1 dL_isSkin_469 rfl (lv_at hl 7 rfl) ?_
                  refine lv_iconst (v := nI (5)) X.1 X.2.1 dL_isSkin_470 (by decide) ?_
                  refine lv_iload X.1 X.2.1 dL_isSkin_471 (lv_at hl 6 rfl) ?_
                  refine lv_iload X.1 X.2.1 dL_isSkin_473 (lv_at hl 5 rfl) ?_
                  refine lv_iload X.1 X.2.1 dL_isSkin_475 (lv_at hl 1 rfl) ?_
                  refine q_callL X hS hZ hN h kcw_L_does kini_L (by decide) kar_L_does kml_L_does kst_L_does dL_isSkin_477 (As := [.ref x, .int (nI (5)), .int (nI (k0)), .int (nI (r2)), .int (nI (dy))]) ((c_L_does_lend l G x ar N F B (N, F, B) (nI (k0)) (nI (r2)) (nI (dy)) hst hI).k (k := 3) (hK9) (w := (-1000000)) (rfl) (C2 := (N, F, B)) (rfl)) rfl hl rfl (Nat.le_of_ble_eq_true rfl) ⟨Nat.le_of_ble_eq_true rfl, Nat.le_of_ble_eq_true rfl⟩ ⟨show 0 + 3 ≤ 20 by omega, show 0 + 18 ≤ 200 by omega⟩ ?_
                  rintro _ _ _ H locs ⟨rfl, rfl, rfl⟩ h
                  refine lv_iload X.1 X.2.1 dL_isSkin_480 (lv_at hl 4 rfl) ?_
                  refine b_if_ne (tgt := 490) X dL_isSkin_482 (by decide) (a := ((1 : Nat) : Int)) (nI_ti (by omega)) (fun c14 => ?_) (fun c14 => ?_)
                  · skip
                    refine lv_iload X.1 X.2.1 dL_isSkin_490 (lv_at hl 0 rfl) ?_
                    refine b_if_ne (tgt := 500) X dL_isSkin_492 (by decide) (a := ((1 : Nat) : Int)) (nI_ti (by omega)) (fun c15 => ?_) (fun c15 => ?_)
                    · skip
                      refine lv_iload X.1 X.2.1 dL_isSkin_500 (lv_at hl 2 rfl) ?_
                      refine b_if_eq (tgt := 512) X dL_isSkin_502 (by decide) (a := ((0 : Nat) : Int)) (nI_ti (by omega)) (fun c16 => ?_) (fun c16 => ?_)
                      · skip
                        refine lv_ldc (own := RL) (index := 70) (v := (-1000000)) X.1 X.2.1 X.2.2.2.1 (X.2.2.2.2.1.use kco_L_70) dL_isSkin_512 ?_
                        refine b_icmp_ne (tgt := 521) X dL_isSkin_514 (by decide) (a := (-1000000)) (b := (-1000000)) ((by decide)) ((by decide)) (fun c17 => ?_) (fun c17 => ?_)
                        · skip
                          exact absurd c17 (by first | decide | omega)
                        · skip
                          refine lv_iconst (v := nI (1)) X.1 X.2.1 dL_isSkin_517 (by decide) ?_
                          refine lv_goto (tgt := 522) X.1 X.2.1 dL_isSkin_518 (by decide) ?_
                          exact q_zret X hr hlocks h dL_isSkin_522 ⟨show 0 + 3 ≤ 20 by omega, show 0 + 18 ≤ 200 by omega⟩ (rfl) (⟨rfl, rfl, hLI.more⟩)
                      · skip
                        exact absurd c16 (by first | decide | omega)
                    · skip
                      exact absurd c15 (by first | decide | omega)
                  · skip
                    exact absurd c14 (by first | decide | omega)
                · skip
                  rw [show bI (decide (0 < dy ∧ dy < 101)) = nI 0 from (bI_f (decide_eq_false hR)).symm] at hl
                  have hK9 : kLend N F (nI k0) (nI r2) (nI dy) = 2 := by rw [kLend_v (by omega) (by omega) (by omega) (by omega) (by omega), if_pos (show ¬ (1 ≤ dy ∧ dy ≤ 100) by omega)]
                  refine lv_aload_n X.1 X.2.1 dL_isSkin_469 rfl (lv_at hl 7 rfl) ?_
                  refine lv_iconst (v := nI (5)) X.1 X.2.1 dL_isSkin_470 (by decide) ?_
                  refine lv_iload X.1 X.2.1 dL_isSkin_471 (lv_at hl 6 rfl) ?_
                  refine lv_iload X.1 X.2.1 dL_isSkin_473 (lv_at hl 5 rfl) ?_
                  refine lv_iload X.1 X.2.1 dL_isSkin_475 (lv_at hl 1 rfl) ?_
                  refine q_callL X hS hZ hN h kcw_L_does kini_L (by decide) kar_L_does kml_L_does kst_L_does dL_isSkin_477 (As := [.ref x, .int (nI (5)), .int (nI (k0)), .int (nI (r2)), .int (nI (dy))]) ((c_L_does_lend l G x ar N F B (N, F, B) (nI (k0)) (nI (r2)) (nI (dy)) hst hI).k (k := 2) (hK9) (w := (-2000000)) (rfl) (C2 := (N, F, B)) (rfl)) rfl hl rfl (Nat.le_of_ble_eq_true rfl) ⟨Nat.le_of_ble_eq_true rfl, Nat.le_of_ble_eq_true rfl⟩ ⟨show 0 + 3 ≤ 20 by omega, show 0 + 18 ≤ 200 by omega⟩ ?_
                  rintro _ _ _ H locs ⟨rfl, rfl, rfl⟩ h
                  refine lv_iload X.1 X.2.1 dL_isSkin_480 (lv_at hl 4 rfl) ?_
                  refine b_if_ne (tgt := 490) X dL_isSkin_482 (by decide) (a := ((1 : Nat) : Int)) (nI_ti (by omega)) (fun c18 => ?_) (fun c18 => ?_)
                  · skip
                    refine lv_iload X.1 X.2.1 dL_isSkin_490 (lv_at hl 0 rfl) ?_
                    refine b_if_ne (tgt := 500) X dL_isSkin_492 (by decide) (a := ((0 : Nat) : Int)) (nI_ti (by omega)) (fun c19 => ?_) (fun c19 => ?_)
                    · skip
                      exact absurd c19 (by first | decide | omega)
                    · skip
                      refine lv_ldc (own := RL) (index := 67) (v := (-2000000)) X.1 X.2.1 X.2.2.2.1 (X.2.2.2.2.1.use kco_L_67) dL_isSkin_495 ?_
                      refine lv_goto (tgt := 514) X.1 X.2.1 dL_isSkin_497 (by decide) ?_
                      refine b_icmp_ne (tgt := 521) X dL_isSkin_514 (by decide) (a := (-2000000)) (b := (-2000000)) ((by decide)) ((by decide)) (fun c20 => ?_) (fun c20 => ?_)
                      · skip
                        exact absurd c20 (by first | decide | omega)
                      · skip
                        refine lv_iconst (v := nI (1)) X.1 X.2.1 dL_isSkin_517 (by decide) ?_
                        refine lv_goto (tgt := 522) X.1 X.2.1 dL_isSkin_518 (by decide) ?_
                        exact q_zret X hr hlocks h dL_isSkin_522 ⟨show 0 + 3 ≤ 20 by omega, show 0 + 18 ≤ 200 by omega⟩ (rfl) (⟨rfl, rfl, hLI.more⟩)
                  · skip
                    exact absurd c18 (by first | decide | omega)
              · skip
                have c13 := of_decide_eq_true c13
                rw [show bI (decide (F 17 k0 ≠ 0 ∧ F 17 k0 ≠ r2 + 1 ∧ F 3 (F 17 k0 - 1) ≤ N 0 ∧ F 3 r2 ≤ N 0)) = nI 1 from (bI_t (decide_eq_true c13)).symm] at hl
                refine lv_iload X.1 X.2.1 dL_isSkin_430 (lv_at hl 0 rfl) ?_
                refine b_bool_eq (tgt := 469) X dL_isSkin_432 (by decide) (fun c21 => ?_) (fun c21 => ?_)
                · skip
                  have c21 := of_decide_eq_false c21
                  rw [show bI (decide (0 < dy ∧ dy < 101)) = nI 0 from (bI_f (decide_eq_false c21)).symm] at hl
                  have hK9 : kLend N F (nI k0) (nI r2) (nI dy) = 2 := by rw [kLend_v (by omega) (by omega) (by omega) (by omega) (by omega), if_pos (show ¬ (1 ≤ dy ∧ dy ≤ 100) by omega)]
                  refine lv_aload_n X.1 X.2.1 dL_isSkin_469 rfl (lv_at hl 7 rfl) ?_
                  refine lv_iconst (v := nI (5)) X.1 X.2.1 dL_isSkin_470 (by decide) ?_
                  refine lv_iload X.1 X.2.1 dL_isSkin_471 (lv_at hl 6 rfl) ?_
                  refine lv_iload X.1 X.2.1 dL_isSkin_473 (lv_at hl 5 rfl) ?_
                  refine lv_iload X.1 X.2.1 dL_isSkin_475 (lv_at hl 1 rfl) ?_
                  refine q_callL X hS hZ hN h kcw_L_does kini_L (by decide) kar_L_does kml_L_does kst_L_does dL_isSkin_477 (As := [.ref x, .int (nI (5)), .int (nI (k0)), .int (nI (r2)), .int (nI (dy))]) ((c_L_does_lend l G x ar N F B (N, F, B) (nI (k0)) (nI (r2)) (nI (dy)) hst hI).k (k := 2) (hK9) (w := (-2000000)) (rfl) (C2 := (N, F, B)) (rfl)) rfl hl rfl (Nat.le_of_ble_eq_true rfl) ⟨Nat.le_of_ble_eq_true rfl, Nat.le_of_ble_eq_true rfl⟩ ⟨show 0 + 3 ≤ 20 by omega, show 0 + 18 ≤ 200 by omega⟩ ?_
                  rintro _ _ _ H locs ⟨rfl, rfl, rfl⟩ h
                  refine lv_iload X.1 X.2.1 dL_isSkin_480 (lv_at hl 4 rfl) ?_
                  refine b_if_ne (tgt := 490) X dL_isSkin_482 (by decide) (a := ((1 : Nat) : Int)) (nI_ti (by omega)) (fun c22 => ?_) (fun c22 => ?_)
                  · skip
                    refine lv_iload X.1 X.2.1 dL_isSkin_490 (lv_at hl 0 rfl) ?_
                    refine b_if_ne (tgt := 500) X dL_isSkin_492 (by decide) (a := ((0 : Nat) : Int)) (nI_ti (by omega)) (fun c23 => ?_) (fun c23 => ?_)
                    · skip
                      exact absurd c23 (by first | decide | omega)
                    · skip
                      refine lv_ldc (own := RL) (index := 67) (v := (-2000000)) X.1 X.2.1 X.2.2.2.1 (X.2.2.2.2.1.use kco_L_67) dL_isSkin_495 ?_
                      refine lv_goto (tgt := 514) X.1 X.2.1 dL_isSkin_497 (by decide) ?_
                      refine b_icmp_ne (tgt := 521) X dL_isSkin_514 (by decide) (a := (-2000000)) (b := (-2000000)) ((by decide)) ((by decide)) (fun c24 => ?_) (fun c24 => ?_)
                      · skip
                        exact absurd c24 (by first | decide | omega)
                      · skip
                        refine lv_iconst (v := nI (1)) X.1 X.2.1 dL_isSkin_517 (by decide) ?_
                        refine lv_goto (tgt := 522) X.1 X.2.1 dL_isSkin_518 (by decide) ?_
                        exact q_zret X hr hlocks h dL_isSkin_522 ⟨show 0 + 3 ≤ 20 by omega, show 0 + 18 ≤ 200 by omega⟩ (rfl) (⟨rfl, rfl, hLI.more⟩)
                  · skip
                    exact absurd c22 (by first | decide | omega)
                · skip
                  have c21 := of_decide_eq_true c21
                  rw [show bI (decide (0 < dy ∧ dy < 101)) = nI 1 from (bI_t (decide_eq_true c21)).symm] at hl
                  refine lv_aload_n X.1 X.2.1 dL_isSkin_435 rfl (lv_at hl 9 rfl) ?_
                  refine lv_iload X.1 X.2.1 dL_isSkin_436 (lv_at hl 6 rfl) ?_
                  refine lv_aload_n X.1 X.2.1 dL_isSkin_438 rfl (lv_at hl 9 rfl) ?_
                  refine lv_iload X.1 X.2.1 dL_isSkin_439 (lv_at hl 6 rfl) ?_
                  refine q_ald X h 4 (by decide) dL_isSkin_441 (i := k0) (v := nI (hvS F k0)) rfl (by show _ < 36; omega) (fun V r => LR.h4 r (by omega)) ?_
                  have b25 := hv_b hI (show k0 < N 13 by omega)
                  refine lv_sipush (v := nI (1024)) X.1 X.2.1 dL_isSkin_442 (by decide) ?_
                  refine lv_irem X.1 X.2.1 dL_isSkin_445 (by decide) ?_
                  refine lv_top (y := nI ((hvS F k0) % 1024)) (pk_rem (by omega) (by omega) (by omega)) ?_
                  refine lv_sipush (v := nI (1024)) X.1 X.2.1 dL_isSkin_446 (by decide) ?_
                  refine lv_iload X.1 X.2.1 dL_isSkin_449 (lv_at hl 5 rfl) ?_
                  refine lv_iconst (v := nI (1)) X.1 X.2.1 dL_isSkin_451 (by decide) ?_
                  refine lv_iadd X.1 X.2.1 dL_isSkin_452 ?_
                  refine lv_top (y := nI (r2 + 1)) (nI_add _ _) ?_
                  refine lv_imul X.1 X.2.1 dL_isSkin_453 ?_
                  refine lv_top (y := nI (1024 * (r2 + 1))) (pk_mul _ _) ?_
                  refine lv_iadd X.1 X.2.1 dL_isSkin_454 ?_
                  refine lv_top (y := nI ((hvS F k0) % 1024 + (1024 * (r2 + 1)))) (nI_add _ _) ?_
                  refine q_ast X h 4 (by decide) dL_isSkin_455 (i := k0) N (set1 F 18 k0 (r2 + 1)) B rfl (by show _ < 36; omega) (fun V r => LR.whl r hI (by omega) _) (fun H locs h => ?_)
                  refine lv_aload_n X.1 X.2.1 dL_isSkin_456 rfl (lv_at hl 10 rfl) ?_
                  refine lv_iload X.1 X.2.1 dL_isSkin_457 (lv_at hl 6 rfl) ?_
                  refine lv_aload X.1 X.2.1 dL_isSkin_459 (lv_at hl 14 rfl) ?_
                  refine lv_iconst (v := nI (0)) X.1 X.2.1 dL_isSkin_461 (by decide) ?_
                  refine q_ald X h 9 (by decide) dL_isSkin_462 (i := 0) (v := nI (N 0)) rfl (by show _ < 9; omega) (fun V r => LR.g0 r) ?_
                  refine lv_iload X.1 X.2.1 dL_isSkin_463 (lv_at hl 1 rfl) ?_
                  refine lv_iadd X.1 X.2.1 dL_isSkin_465 ?_
                  refine lv_top (y := nI (N 0 + dy)) (nI_add _ _) ?_
                  refine lv_iconst (v := nI (1)) X.1 X.2.1 dL_isSkin_466 (by decide) ?_
                  refine lv_isub X.1 X.2.1 dL_isSkin_467 ?_
                  refine lv_top (y := nI (N 0 + dy - 1)) (pk_sub (by omega)) ?_
                  refine q_ast X h 5 (by decide) dL_isSkin_468 (i := k0) N (fLend N F k0 r2 dy) B rfl (by show _ < 36; omega) (fun V r => LR.wu r _ _) (fun H locs h => ?_)
                  have hK9 : kLend N F (nI k0) (nI r2) (nI dy) = 0 := by rw [kLend_v (by omega) (by omega) (by omega) (by omega) (by omega), if_neg (show ¬ ¬ (1 ≤ dy ∧ dy ≤ 100) by omega), if_pos (cDeal_m (by omega))]
                  refine lv_aload_n X.1 X.2.1 dL_isSkin_469 rfl (lv_at hl 7 rfl) ?_
                  refine lv_iconst (v := nI (5)) X.1 X.2.1 dL_isSkin_470 (by decide) ?_
                  refine lv_iload X.1 X.2.1 dL_isSkin_471 (lv_at hl 6 rfl) ?_
                  refine lv_iload X.1 X.2.1 dL_isSkin_473 (lv_at hl 5 rfl) ?_
                  refine lv_iload X.1 X.2.1 dL_isSkin_475 (lv_at hl 1 rfl) ?_
                  refine q_callL X hS hZ hN h kcw_L_does kini_L (by decide) kar_L_does kml_L_does kst_L_does dL_isSkin_477 (As := [.ref x, .int (nI (5)), .int (nI (k0)), .int (nI (r2)), .int (nI (dy))]) ((c_L_does_lend l G x ar N F B (N, (fLend N F k0 r2 dy), B) (nI (k0)) (nI (r2)) (nI (dy)) hst hI).k (k := 0) (hK9) (w := nI (N 0 + dy - 1)) (by show nI (N 0 + ix (nI dy) - 1) = nI (N 0 + dy - 1); rw [ix_nI (by omega)]) (C2 := (N, fLend N F k0 r2 dy, B)) (by rw [ix_nI (by omega), ix_nI (by omega), ix_nI (by omega)]; rfl)) rfl hl rfl (Nat.le_of_ble_eq_true rfl) ⟨Nat.le_of_ble_eq_true rfl, Nat.le_of_ble_eq_true rfl⟩ ⟨show 0 + 3 ≤ 20 by omega, show 0 + 18 ≤ 200 by omega⟩ ?_
                  rintro _ _ _ H locs ⟨rfl, rfl, rfl⟩ h
                  refine lv_iload X.1 X.2.1 dL_isSkin_480 (lv_at hl 4 rfl) ?_
                  refine b_if_ne (tgt := 490) X dL_isSkin_482 (by decide) (a := ((1 : Nat) : Int)) (nI_ti (by omega)) (fun c26 => ?_) (fun c26 => ?_)
                  · skip
                    refine lv_iload X.1 X.2.1 dL_isSkin_490 (lv_at hl 0 rfl) ?_
                    refine b_if_ne (tgt := 500) X dL_isSkin_492 (by decide) (a := ((1 : Nat) : Int)) (nI_ti (by omega)) (fun c27 => ?_) (fun c27 => ?_)
                    · skip
                      refine lv_iload X.1 X.2.1 dL_isSkin_500 (lv_at hl 2 rfl) ?_
                      refine b_if_eq (tgt := 512) X dL_isSkin_502 (by decide) (a := ((1 : Nat) : Int)) (nI_ti (by omega)) (fun c28 => ?_) (fun c28 => ?_)
                      · skip
                        exact absurd c28 (by first | decide | omega)
                      · skip
                        refine lv_aload_n X.1 X.2.1 dL_isSkin_505 rfl (lv_at hl 10 rfl) ?_
                        refine lv_iload X.1 X.2.1 dL_isSkin_506 (lv_at hl 6 rfl) ?_
                        refine q_ald X h 5 (by decide) dL_isSkin_508 (i := k0) (v := nI (N 0 + dy - 1)) rfl (by show _ < 36; omega) (fun V r => (LR.u5 r (by omega)).trans (by unfold fLend; rw [set1_at])) ?_
                        have b29 := hI.k (k := k0) (by omega)
                        refine lv_goto (tgt := 514) X.1 X.2.1 dL_isSkin_509 (by decide) ?_
                        refine b_icmp_ne (tgt := 521) X dL_isSkin_514 (by decide) (a := ((N 0 + dy - 1 : Nat) : Int)) (b := ((N 0 + dy - 1 : Nat) : Int)) (nI_ti (by omega)) (nI_ti (by omega)) (fun c30 => ?_) (fun c30 => ?_)
                        · skip
                          exact absurd c30 (by first | decide | omega)
                        · skip
                          refine lv_iconst (v := nI (1)) X.1 X.2.1 dL_isSkin_517 (by decide) ?_
                          refine lv_goto (tgt := 522) X.1 X.2.1 dL_isSkin_518 (by decide) ?_
                          exact q_zret X hr hlocks h dL_isSkin_522 ⟨show 0 + 3 ≤ 20 by omega, show 0 + 18 ≤ 200 by omega⟩ (rfl) (⟨rfl, rfl, by have z9 := stp_lend hLI hK9; rw [ix_nI (by omega), ix_nI (by omega), ix_nI (by omega)] at z9; exact z9⟩)
                    · skip
                      exact absurd c27 (by first | decide | omega)
                  · skip
                    exact absurd c26 (by first | decide | omega)
            refine lv_iload X.1 X.2.1 dL_isSkin_406 (lv_at hl 0 rfl) ?_
            refine b_if_le (tgt := 422) X dL_isSkin_408 (by decide) (a := ((dy : Nat) : Int)) (nI_ti (by omega)) (fun c31 => ?_) (fun c31 => ?_)
            · skip
              refine lv_iconst (v := nI (0)) X.1 X.2.1 dL_isSkin_422 (by decide) ?_
              refine lv_top (y := bI (decide (0 < dy ∧ dy < 101))) (bI_f (decide_eq_false (by omega))) ?_
              exact K423   _ _ _ h (lv_sub hl [0, 1, 2, 3, 4, 5, 6, 7, 8, 9, 10, 11, 12, 13, 14, 15, 16] rfl)
            · skip
              refine lv_iload X.1 X.2.1 dL_isSkin_411 (lv_at hl 0 rfl) ?_
              refine lv_bipush (v := nI (101)) X.1 X.2.1 dL_isSkin_413 (by decide) ?_
              refine b_icmp_ge (tgt := 422) X dL_isSkin_415 (by decide) (a := ((dy : Nat) : Int)) (b := ((101 : Nat) : Int)) (nI_ti (by omega)) (nI_ti (by omega)) (fun c32 => ?_) (fun c32 => ?_)
              · skip
                refine lv_iconst (v := nI (0)) X.1 X.2.1 dL_isSkin_422 (by decide) ?_
                refine lv_top (y := bI (decide (0 < dy ∧ dy < 101))) (bI_f (decide_eq_false (by omega))) ?_
                exact K423   _ _ _ h (lv_sub hl [0, 1, 2, 3, 4, 5, 6, 7, 8, 9, 10, 11, 12, 13, 14, 15, 16] rfl)
              · skip
                refine lv_iconst (v := nI (1)) X.1 X.2.1 dL_isSkin_418 (by decide) ?_
                refine lv_goto (tgt := 423) X.1 X.2.1 dL_isSkin_419 (by decide) ?_
                refine lv_top (y := bI (decide (0 < dy ∧ dy < 101))) (bI_t (decide_eq_true (by omega))) ?_
                exact K423   _ _ _ h (lv_sub hl [0, 1, 2, 3, 4, 5, 6, 7, 8, 9, 10, 11, 12, 13, 14, 15, 16] rfl)
          · skip
            exact absurd c12 (by first | decide | omega)
        refine lv_iload X.1 X.2.1 dL_isSkin_92 (lv_at hl 1 rfl) ?_
        refine b_if_eq (tgt := 135) X dL_isSkin_94 (by decide) (a := ((1 : Nat) : Int)) (nI_ti (by omega)) (fun c33 => ?_) (fun c33 => ?_)
        · skip
          exact absurd c33 (by first | decide | omega)
        · skip
          refine lv_iload X.1 X.2.1 dL_isSkin_97 (lv_at hl 0 rfl) ?_
          refine b_if_lt (tgt := 135) X dL_isSkin_99 (by decide) (a := ((F 17 k0 : Nat) : Int) - 1) (eI_ti (by omega)) (fun c34 => ?_) (fun c34 => ?_)
          · skip
            refine lv_iconst (v := nI (0)) X.1 X.2.1 dL_isSkin_135 (by decide) ?_
            refine lv_top (y := bI (decide (F 17 k0 ≠ 0 ∧ F 17 k0 ≠ r2 + 1 ∧ F 3 (F 17 k0 - 1) ≤ N 0 ∧ F 3 r2 ≤ N 0))) (bI_f (decide_eq_false (by omega))) ?_
            exact K136   _ _ _ h (lv_sub hl [0, 1, 2, 3, 4, 5, 6, 7, 8, 9, 10, 11, 12, 13, 14] rfl)
          · skip
            refine lv_iload X.1 X.2.1 dL_isSkin_102 (lv_at hl 0 rfl) ?_
            refine lv_iload X.1 X.2.1 dL_isSkin_104 (lv_at hl 2 rfl) ?_
            refine b_icmp_eq (tgt := 135) X dL_isSkin_106 (by decide) (a := ((F 17 k0 : Nat) : Int) - 1) (b := ((r2 : Nat) : Int)) (eI_ti (by omega)) (nI_ti (by omega)) (fun c35 => ?_) (fun c35 => ?_)
            · skip
              refine lv_iconst (v := nI (0)) X.1 X.2.1 dL_isSkin_135 (by decide) ?_
              refine lv_top (y := bI (decide (F 17 k0 ≠ 0 ∧ F 17 k0 ≠ r2 + 1 ∧ F 3 (F 17 k0 - 1) ≤ N 0 ∧ F 3 r2 ≤ N 0))) (bI_f (decide_eq_false (by omega))) ?_
              exact K136   _ _ _ h (lv_sub hl [0, 1, 2, 3, 4, 5, 6, 7, 8, 9, 10, 11, 12, 13, 14] rfl)
            · skip
              refine lv_aload_n X.1 X.2.1 dL_isSkin_109 rfl (lv_at hl 5 rfl) ?_
              refine lv_aload X.1 X.2.1 dL_isSkin_110 (lv_at hl 11 rfl) ?_
              refine lv_iload X.1 X.2.1 dL_isSkin_112 (lv_at hl 0 rfl) ?_
              refine lv_top (y := nI (F 17 k0 - 1)) (eI_pos (by omega)) ?_
              refine q_call X hS hZ hN h ck_L_103 kst_L_isBanned dL_isSkin_114 (As := [.ref (ar 0), .ref (ar 9), .int (nI (F 17 k0 - 1))]) (c_L_isBanned l G x ar (N, F, B) N F B (F 17 k0 - 1) (hI).ih (by omega)) rfl hl rfl (Nat.le_of_ble_eq_true rfl) ⟨Nat.le_of_ble_eq_true rfl, Nat.le_of_ble_eq_true rfl⟩ ⟨show 0 + 0 ≤ 20 by omega, show 0 + 0 ≤ 200 by omega⟩ ?_
              rintro _ _ _ H locs ⟨rfl, rfl, rfl⟩ h
              refine b_bool_ne (tgt := 135) X dL_isSkin_117 (by decide) (fun c36 => ?_) (fun c36 => ?_)
              · skip
                have c36 := of_decide_eq_true c36
                refine lv_iconst (v := nI (0)) X.1 X.2.1 dL_isSkin_135 (by decide) ?_
                refine lv_top (y := bI (decide (F 17 k0 ≠ 0 ∧ F 17 k0 ≠ r2 + 1 ∧ F 3 (F 17 k0 - 1) ≤ N 0 ∧ F 3 r2 ≤ N 0))) (bI_f (decide_eq_false (by omega))) ?_
                exact K136   _ _ _ h (lv_sub hl [0, 1, 2, 3, 4, 5, 6, 7, 8, 9, 10, 11, 12, 13, 14] rfl)
              · skip
                have c36 := of_decide_eq_false c36
                refine lv_aload_n X.1 X.2.1 dL_isSkin_120 rfl (lv_at hl 5 rfl) ?_
                refine lv_aload X.1 X.2.1 dL_isSkin_121 (lv_at hl 11 rfl) ?_
                refine lv_iload X.1 X.2.1 dL_isSkin_123 (lv_at hl 2 rfl) ?_
                refine q_call X hS hZ hN h ck_L_103 kst_L_isBanned dL_isSkin_125 (As := [.ref (ar 0), .ref (ar 9), .int (nI (r2))]) (c_L_isBanned l G x ar (N, F, B) N F B r2 (hI).ih (by omega)) rfl hl rfl (Nat.le_of_ble_eq_true rfl) ⟨Nat.le_of_ble_eq_true rfl, Nat.le_of_ble_eq_true rfl⟩ ⟨show 0 + 0 ≤ 20 by omega, show 0 + 0 ≤ 200 by omega⟩ ?_
                rintro _ _ _ H locs ⟨rfl, rfl, rfl⟩ h
                refine b_bool_ne (tgt := 135) X dL_isSkin_128 (by decide) (fun c37 => ?_) (fun c37 => ?_)
                · skip
                  have c37 := of_decide_eq_true c37
                  refine lv_iconst (v := nI (0)) X.1 X.2.1 dL_isSkin_135 (by decide) ?_
                  refine lv_top (y := bI (decide (F 17 k0 ≠ 0 ∧ F 17 k0 ≠ r2 + 1 ∧ F 3 (F 17 k0 - 1) ≤ N 0 ∧ F 3 r2 ≤ N 0))) (bI_f (decide_eq_false (by omega))) ?_
                  exact K136   _ _ _ h (lv_sub hl [0, 1, 2, 3, 4, 5, 6, 7, 8, 9, 10, 11, 12, 13, 14] rfl)
                · skip
                  have c37 := of_decide_eq_false c37
                  refine lv_iconst (v := nI (1)) X.1 X.2.1 dL_isSkin_131 (by decide) ?_
                  refine lv_goto (tgt := 136) X.1 X.2.1 dL_isSkin_132 (by decide) ?_
                  refine lv_top (y := bI (decide (F 17 k0 ≠ 0 ∧ F 17 k0 ≠ r2 + 1 ∧ F 3 (F 17 k0 - 1) ≤ N 0 ∧ F 3 r2 ≤ N 0))) (bI_t (decide_eq_true (by omega))) ?_
                  exact K136   _ _ _ h (lv_sub hl [0, 1, 2, 3, 4, 5, 6, 7, 8, 9, 10, 11, 12, 13, 14] rfl)
    refine lv_iload X.1 X.2.1 dL_isSkin_44 (lv_at hl 1 rfl) ?_
    refine lv_aload X.1 X.2.1 dL_isSkin_46 (lv_at hl 9 rfl) ?_
    refine lv_iconst (v := nI (4)) X.1 X.2.1 dL_isSkin_48 (by decide) ?_
    refine q_ald X h 9 (by decide) dL_isSkin_49 (i := 4) (v := nI (N 13)) rfl (by show _ < 9; omega) (fun V r => LR.g4 r) ?_
    refine b_icmp_ge (tgt := 66) X dL_isSkin_50 (by decide) (a := ((k0 : Nat) : Int)) (b := ((N 13 : Nat) : Int)) (nI_ti (by omega)) (nI_ti (by omega)) (fun c38 => ?_) (fun c38 => ?_)
    · skip
      refine lv_iconst (v := nI (0)) X.1 X.2.1 dL_isSkin_66 (by decide) ?_
      refine lv_top (y := bI (decide (k0 < N 13 ∧ r2 < N 1))) (bI_f (decide_eq_false (by omega))) ?_
      exact K67   _ _ _ h (lv_sub hl [0, 1, 2, 3, 4, 5, 6, 7, 8, 9, 10, 11, 12] rfl)
    · skip
      refine lv_iload X.1 X.2.1 dL_isSkin_53 (lv_at hl 0 rfl) ?_
      refine lv_aload X.1 X.2.1 dL_isSkin_55 (lv_at hl 9 rfl) ?_
      refine lv_iconst (v := nI (1)) X.1 X.2.1 dL_isSkin_57 (by decide) ?_
      refine q_ald X h 9 (by decide) dL_isSkin_58 (i := 1) (v := nI (N 1)) rfl (by show _ < 9; omega) (fun V r => LR.g1 r) ?_
      refine b_icmp_ge (tgt := 66) X dL_isSkin_59 (by decide) (a := ((r2 : Nat) : Int)) (b := ((N 1 : Nat) : Int)) (nI_ti (by omega)) (nI_ti (by omega)) (fun c39 => ?_) (fun c39 => ?_)
      · skip
        refine lv_iconst (v := nI (0)) X.1 X.2.1 dL_isSkin_66 (by decide) ?_
        refine lv_top (y := bI (decide (k0 < N 13 ∧ r2 < N 1))) (bI_f (decide_eq_false (by omega))) ?_
        exact K67   _ _ _ h (lv_sub hl [0, 1, 2, 3, 4, 5, 6, 7, 8, 9, 10, 11, 12] rfl)
      · skip
        refine lv_iconst (v := nI (1)) X.1 X.2.1 dL_isSkin_62 (by decide) ?_
        refine lv_goto (tgt := 67) X.1 X.2.1 dL_isSkin_63 (by decide) ?_
        refine lv_top (y := bI (decide (k0 < N 13 ∧ r2 < N 1))) (bI_t (decide_eq_true (by omega))) ?_
        exact K67   _ _ _ h (lv_sub hl [0, 1, 2, 3, 4, 5, 6, 7, 8, 9, 10, 11, 12] rfl)
  refine lv_iload X.1 X.2.1 dL_isSkin_11 (lv_at hl 0 rfl) ?_
  refine lv_iconst (v := nI (5)) X.1 X.2.1 dL_isSkin_13 (by decide) ?_
  refine b_icmp_le (tgt := 29) X dL_isSkin_14 (by decide) (a := ((r1 : Nat) : Int)) (b := ((5 : Nat) : Int)) (nI_ti (by omega)) (nI_ti (by omega)) (fun c40 => ?_) (fun c40 => ?_)
  · skip
    refine lv_iload X.1 X.2.1 dL_isSkin_29 (lv_at hl 0 rfl) ?_
    exact K31 (r1) (by omega) _ _ _ h (lv_sub hl [0, 1, 2, 3, 4, 5, 6, 7, 8, 9, 10, 11] rfl)
  · skip
    refine lv_iload X.1 X.2.1 dL_isSkin_17 (lv_at hl 9 rfl) ?_
    refine b_if_eq (tgt := 29) X dL_isSkin_19 (by decide) (a := ((0 : Nat) : Int)) (nI_ti (by omega)) (fun c41 => ?_) (fun c41 => ?_)
    · skip
      refine lv_iload X.1 X.2.1 dL_isSkin_29 (lv_at hl 0 rfl) ?_
      exact K31 (r1) (by omega) _ _ _ h (lv_sub hl [0, 1, 2, 3, 4, 5, 6, 7, 8, 9, 10, 11] rfl)
    · skip
      exact absurd c41 (by first | decide | omega)
