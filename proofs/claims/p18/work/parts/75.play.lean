set_option maxHeartbeats 4000000 in
set_option maxRecDepth 100000 in
theorem c_L_isPlay (l : Launch) (G : mG) (x : Nat) (ar : Nat → Nat) (N : Nat → Nat) (F : Nat → Nat → Nat) (B : Nat → Int32) (jj : Nat) (one : Nat) (two : Nat) (hst : l.stackTraces = false) (hLI : LI jj N F B) (hone : one < 60000) (htwo : two < 60000) : QMet l yL_isPlay cL_isPlay 13 (some FieldType.boolean) ({ frames := 9, cells := 20, slots := 200, locals := 157 } : Room) G x ar [.ref x, .ref (ar 0), .ref (ar 1), .ref (ar 2), .ref (ar 9), .int (nI (one)), .int (nI (two))] (N, F, B) (N, F, B) (fun r C' D' => r = some (.int (nI 1)) ∧ C' = D' ∧ LI (jj + 1) D'.1 D'.2.1 D'.2.2) := by
  refine QMet.of (by decide) (Nat.le_of_ble_eq_true rfl) ?_
  intro p e s m args below meth c A ls X hr hlocks hS hZ hN h hl
  have hl : lv_has ls 13 [(0, .ref x), (1, .ref (ar 0)), (2, .ref (ar 1)), (3, .ref (ar 2)), (4, .ref (ar 9)), (5, .int (nI (one))), (6, .int (nI (two)))] := hl
  have hI := hLI.1
  have hJ := hLI.2.1
  have hn := hI.n
  have h6 := qM.n6 h
  refine lv_iload X.1 X.2.1 dL_isPlay_0 (lv_at hl 5 rfl) ?_
  refine lv_aload X.1 X.2.1 dL_isPlay_2 (lv_at hl 4 rfl) ?_
  refine lv_iconst (v := nI (1)) X.1 X.2.1 dL_isPlay_4 (by decide) ?_
  refine q_ald X h 9 (by decide) dL_isPlay_5 (i := 1) (v := nI (N 1)) rfl (by show _ < 9; omega) (fun V r => LR.g1 r) ?_
  refine lv_iconst (v := nI (1)) X.1 X.2.1 dL_isPlay_6 (by decide) ?_
  refine lv_iadd X.1 X.2.1 dL_isPlay_7 ?_
  refine lv_top (y := nI (N 1 + 1)) (nI_add _ _) ?_
  refine lv_irem X.1 X.2.1 dL_isPlay_8 (nI_n0 (by omega) (by omega)) ?_
  refine lv_top (y := nI (one % (N 1 + 1))) (pk_rem (by omega) (by omega) (by omega)) ?_
  have hr1 := Nat.mod_lt one (show 0 < N 1 + 1 by omega)
  generalize one % (N 1 + 1) = r1 at hr1 ⊢
  refine lv_istore (lv' := [(7, .int (nI (r1))), (0, .ref x), (1, .ref (ar 0)), (2, .ref (ar 1)), (3, .ref (ar 2)), (4, .ref (ar 9)), (5, .int (nI (one))), (6, .int (nI (two)))]) X.1 X.2.1 dL_isPlay_9 hl (by decide) rfl (fun ls hl => ?_)
  refine lv_iload X.1 X.2.1 dL_isPlay_11 (lv_at hl 7 rfl) ?_
  refine lv_aload X.1 X.2.1 dL_isPlay_13 (lv_at hl 5 rfl) ?_
  refine lv_iconst (v := nI (1)) X.1 X.2.1 dL_isPlay_15 (by decide) ?_
  refine q_ald X h 9 (by decide) dL_isPlay_16 (i := 1) (v := nI (N 1)) rfl (by show _ < 9; omega) (fun V r => LR.g1 r) ?_
  refine lv_iconst (v := nI (1)) X.1 X.2.1 dL_isPlay_17 (by decide) ?_
  refine lv_iadd X.1 X.2.1 dL_isPlay_18 ?_
  refine lv_top (y := nI (N 1 + 1)) (nI_add _ _) ?_
  refine lv_irem X.1 X.2.1 dL_isPlay_19 (nI_n0 (by omega) (by omega)) ?_
  refine lv_top (y := nI (two % (N 1 + 1))) (pk_rem (by omega) (by omega) (by omega)) ?_
  have hr2 := Nat.mod_lt two (show 0 < N 1 + 1 by omega)
  generalize two % (N 1 + 1) = r2 at hr2 ⊢
  refine lv_istore (lv' := [(8, .int (nI (r2))), (7, .int (nI (r1))), (0, .ref x), (1, .ref (ar 0)), (2, .ref (ar 1)), (3, .ref (ar 2)), (4, .ref (ar 9)), (5, .int (nI (one))), (6, .int (nI (two)))]) X.1 X.2.1 dL_isPlay_20 hl (by decide) rfl (fun ls hl => ?_)
  have K46 : ∀ (g0 : Nat) (hg0 : g0 ≤ 4) (H : Heap) (locs : List Loc) (ls : Array Slot), qM G A s x ar (N, F, B) (N, F, B) H locs → lv_has ls 13 [(8, .int (nI (r2))), (7, .int (nI (r1))), (0, .ref x), (1, .ref (ar 0)), (2, .ref (ar 1)), (3, .ref (ar 2)), (4, .ref (ar 9)), (5, .int (nI (one))), (6, .int (nI (two)))] → W p l e ({ frames := 9, cells := 20, slots := 200, locals := 157 } : Room) s m args below meth c H locs (0) (0) (QZ G A x ar (fun r C' D' => r = some (.int (nI 1)) ∧ C' = D' ∧ LI (jj + 1) D'.1 D'.2.1 D'.2.2) below args s 20 200) (F0 m 46 ls [.int (nI (g0))]) := by
    intro g0 hg0 H locs ls h hl
    refine lv_istore (lv' := [(9, .int (nI (g0))), (8, .int (nI (r2))), (7, .int (nI (r1))), (0, .ref x), (1, .ref (ar 0)), (2, .ref (ar 1)), (3, .ref (ar 2)), (4, .ref (ar 9)), (5, .int (nI (one))), (6, .int (nI (two)))]) X.1 X.2.1 dL_isPlay_46 hl (by decide) rfl (fun ls hl => ?_)
    have K77 : ∀ (H : Heap) (locs : List Loc) (ls : Array Slot), qM G A s x ar (N, F, B) (N, F, B) H locs → lv_has ls 13 [(9, .int (nI (g0))), (8, .int (nI (r2))), (7, .int (nI (r1))), (0, .ref x), (1, .ref (ar 0)), (2, .ref (ar 1)), (3, .ref (ar 2)), (4, .ref (ar 9)), (5, .int (nI (one))), (6, .int (nI (two)))] → W p l e ({ frames := 9, cells := 20, slots := 200, locals := 157 } : Room) s m args below meth c H locs (0) (0) (QZ G A x ar (fun r C' D' => r = some (.int (nI 1)) ∧ C' = D' ∧ LI (jj + 1) D'.1 D'.2.1 D'.2.2) below args s 20 200) (F0 m 77 ls [.int (bI (decide (r1 < N 1 ∧ r2 < N 1 ∧ g0 < 4)))]) := by
      intro  H locs ls h hl
      refine lv_istore (lv' := [(10, .int (bI (decide (r1 < N 1 ∧ r2 < N 1 ∧ g0 < 4)))), (9, .int (nI (g0))), (8, .int (nI (r2))), (7, .int (nI (r1))), (0, .ref x), (1, .ref (ar 0)), (2, .ref (ar 1)), (3, .ref (ar 2)), (4, .ref (ar 9)), (5, .int (nI (one))), (6, .int (nI (two)))]) X.1 X.2.1 dL_isPlay_77 hl (by decide) rfl (fun ls hl => ?_)
      refine lv_iconst (v := nI (0)) X.1 X.2.1 dL_isPlay_79 (by decide) ?_
      refine lv_istore (lv' := [(11, .int (nI (0))), (10, .int (bI (decide (r1 < N 1 ∧ r2 < N 1 ∧ g0 < 4)))), (9, .int (nI (g0))), (8, .int (nI (r2))), (7, .int (nI (r1))), (0, .ref x), (1, .ref (ar 0)), (2, .ref (ar 1)), (3, .ref (ar 2)), (4, .ref (ar 9)), (5, .int (nI (one))), (6, .int (nI (two)))]) X.1 X.2.1 dL_isPlay_80 hl (by decide) rfl (fun ls hl => ?_)
      refine lv_iconst (v := nI (0)) X.1 X.2.1 dL_isPlay_82 (by decide) ?_
      refine lv_istore (lv' := [(12, .int (nI (0))), (11, .int (nI (0))), (10, .int (bI (decide (r1 < N 1 ∧ r2 < N 1 ∧ g0 < 4)))), (9, .int (nI (g0))), (8, .int (nI (r2))), (7, .int (nI (r1))), (0, .ref x), (1, .ref (ar 0)), (2, .ref (ar 1)), (3, .ref (ar 2)), (4, .ref (ar 9)), (5, .int (nI (one))), (6, .int (nI (two)))]) X.1 X.2.1 dL_isPlay_83 hl (by decide) rfl (fun ls hl => ?_)
      have loop : ∀ (n9 : Nat) (j3 : Nat), (N 6 + 1 ≤ j3 + n9) → (j3 ≤ N 6) → ∀ (H : Heap) (locs : List Loc) (ls : Array Slot), qM G A s x ar (N, F, B) (N, F, B) H locs → lv_has ls 13 [(11, .int (nI (tdy F (N 0) g0 j3))), (12, .int (nI (j3))), (10, .int (bI (decide (r1 < N 1 ∧ r2 < N 1 ∧ g0 < 4)))), (9, .int (nI (g0))), (8, .int (nI (r2))), (7, .int (nI (r1))), (0, .ref x), (1, .ref (ar 0)), (2, .ref (ar 1)), (3, .ref (ar 2)), (4, .ref (ar 9)), (5, .int (nI (one))), (6, .int (nI (two)))] → W p l e ({ frames := 9, cells := 20, slots := 200, locals := 157 } : Room) s m args below meth c H locs (0) (0) (QZ G A x ar (fun r C' D' => r = some (.int (nI 1)) ∧ C' = D' ∧ LI (jj + 1) D'.1 D'.2.1 D'.2.2) below args s 20 200) (F0 m 85 ls []) := by
        intro n9
        induction n9 with
        | zero => intro j3 hm9 hj3; exact absurd hm9 (by omega)
        | succ n9 ih_loop =>
          intro j3 hm9 hj3 H locs ls h hl
          have htd := tdy_le F (N 0) g0 j3
          refine lv_iload X.1 X.2.1 dL_isPlay_85 (lv_at hl 1 rfl) ?_
          refine lv_aload X.1 X.2.1 dL_isPlay_87 (lv_at hl 10 rfl) ?_
          refine lv_iconst (v := nI (2)) X.1 X.2.1 dL_isPlay_89 (by decide) ?_
          refine q_ald X h 9 (by decide) dL_isPlay_90 (i := 2) (v := nI (N 6)) rfl (by show _ < 9; omega) (fun V r => LR.g2 r) ?_
          refine b_icmp_ge (tgt := 136) X dL_isPlay_91 (by decide) (a := ((j3 : Nat) : Int)) (b := ((N 6 : Nat) : Int)) (nI_ti (by omega)) (nI_ti (by omega)) (fun c3 => ?_) (fun c3 => ?_)
          · skip
            have ej : j3 = N 6 := by omega
            subst ej
            have K206 : ∀ (H : Heap) (locs : List Loc) (ls : Array Slot), qM G A s x ar (N, F, B) (N, F, B) H locs → lv_has ls 13 [(11, .int (nI (tdy F (N 0) g0 (N 6)))), (12, .int (nI (N 6))), (10, .int (bI (decide (r1 < N 1 ∧ r2 < N 1 ∧ g0 < 4)))), (9, .int (nI (g0))), (8, .int (nI (r2))), (7, .int (nI (r1))), (0, .ref x), (1, .ref (ar 0)), (2, .ref (ar 1)), (3, .ref (ar 2)), (4, .ref (ar 9)), (5, .int (nI (one))), (6, .int (nI (two)))] → W p l e ({ frames := 9, cells := 20, slots := 200, locals := 157 } : Room) s m args below meth c H locs (0) (0) (QZ G A x ar (fun r C' D' => r = some (.int (nI 1)) ∧ C' = D' ∧ LI (jj + 1) D'.1 D'.2.1 D'.2.2) below args s 20 200) (F0 m 206 ls [.int (bI (decide (r1 < N 1 ∧ r2 < N 1 ∧ g0 < 4 ∧ r1 ≠ r2 ∧ F 3 r1 ≤ N 0 ∧ F 3 r2 ≤ N 0 ∧ tdy F (N 0) g0 (N 6) < F 5 g0 ∧ N 6 < 60)))]) := by
              intro  H locs ls h hl
              refine lv_istore (lv' := [(12, .int (bI (decide (r1 < N 1 ∧ r2 < N 1 ∧ g0 < 4 ∧ r1 ≠ r2 ∧ F 3 r1 ≤ N 0 ∧ F 3 r2 ≤ N 0 ∧ tdy F (N 0) g0 (N 6) < F 5 g0 ∧ N 6 < 60)))), (11, .int (nI (tdy F (N 0) g0 (N 6)))), (10, .int (bI (decide (r1 < N 1 ∧ r2 < N 1 ∧ g0 < 4)))), (9, .int (nI (g0))), (8, .int (nI (r2))), (7, .int (nI (r1))), (0, .ref x), (1, .ref (ar 0)), (2, .ref (ar 1)), (3, .ref (ar 2)), (4, .ref (ar 9)), (5, .int (nI (one))), (6, .int (nI (two)))]) X.1 X.2.1 dL_isPlay_206 hl (by decide) rfl (fun ls hl => ?_)
              refine lv_aload X.1 X.2.1 dL_isPlay_208 (lv_at hl 10 rfl) ?_
              refine lv_iconst (v := nI (2)) X.1 X.2.1 dL_isPlay_210 (by decide) ?_
              refine q_ald X h 9 (by decide) dL_isPlay_211 (i := 2) (v := nI (N 6)) rfl (by show _ < 9; omega) (fun V r => LR.g2 r) ?_
              refine lv_bipush (v := nI (60)) X.1 X.2.1 dL_isPlay_212 (by decide) ?_
              refine b_icmp_ne (tgt := 219) X dL_isPlay_214 (by decide) (a := ((N 6 : Nat) : Int)) (b := ((60 : Nat) : Int)) (nI_ti (by omega)) (nI_ti (by omega)) (fun c4 => ?_) (fun c4 => ?_)
              · skip
                refine lv_iload X.1 X.2.1 dL_isPlay_219 (lv_at hl 0 rfl) ?_
                refine b_bool_eq (tgt := 272) X dL_isPlay_221 (by decide) (fun c5 => ?_) (fun c5 => ?_)
                · skip
                  have c5 := of_decide_eq_false c5
                  rw [show bI (decide (r1 < N 1 ∧ r2 < N 1 ∧ g0 < 4 ∧ r1 ≠ r2 ∧ F 3 r1 ≤ N 0 ∧ F 3 r2 ≤ N 0 ∧ tdy F (N 0) g0 (N 6) < F 5 g0 ∧ N 6 < 60)) = nI 0 from (bI_f (decide_eq_false c5)).symm] at hl
                  by_cases hT : r1 < N 1 ∧ r2 < N 1 ∧ g0 < 4
                  · skip
                    rw [show bI (decide (r1 < N 1 ∧ r2 < N 1 ∧ g0 < 4)) = nI 1 from (bI_t (decide_eq_true hT)).symm] at hl
                    by_cases hE : r1 = r2
                    · skip
                      have hK9 : kMatch N F (nI r1) (nI r2) (nI g0) = 2 := by rw [kMatch_v (by omega) (by omega) (by omega) (by omega), if_pos hE]
                      refine lv_aload_n X.1 X.2.1 dL_isPlay_272 rfl (lv_at hl 6 rfl) ?_
                      refine lv_iconst (v := nI (2)) X.1 X.2.1 dL_isPlay_273 (by decide) ?_
                      refine lv_iload X.1 X.2.1 dL_isPlay_274 (lv_at hl 5 rfl) ?_
                      refine lv_iload X.1 X.2.1 dL_isPlay_276 (lv_at hl 4 rfl) ?_
                      refine lv_iload X.1 X.2.1 dL_isPlay_278 (lv_at hl 3 rfl) ?_
                      refine q_callL X hS hZ hN h kcw_L_does kini_L (by decide) kar_L_does kml_L_does kst_L_does dL_isPlay_280 (As := [.ref x, .int (nI (2)), .int (nI (r1)), .int (nI (r2)), .int (nI (g0))]) ((c_L_does_match l G x ar N F B (N, F, B) (nI (r1)) (nI (r2)) (nI (g0)) hst hI).k (k := 2) (hK9) (w := (-2000000)) (rfl) (C2 := (N, F, B)) (rfl)) rfl hl rfl (Nat.le_of_ble_eq_true rfl) ⟨Nat.le_of_ble_eq_true rfl, Nat.le_of_ble_eq_true rfl⟩ ⟨show 0 + 4 ≤ 20 by omega, show 0 + 24 ≤ 200 by omega⟩ ?_
                      rintro _ _ _ H locs ⟨rfl, rfl, rfl⟩ h
                      refine lv_iload X.1 X.2.1 dL_isPlay_283 (lv_at hl 2 rfl) ?_
                      refine b_if_ne (tgt := 293) X dL_isPlay_285 (by decide) (a := ((1 : Nat) : Int)) (nI_ti (by omega)) (fun c6 => ?_) (fun c6 => ?_)
                      · skip
                        refine lv_iload X.1 X.2.1 dL_isPlay_293 (lv_at hl 5 rfl) ?_
                        refine lv_iload X.1 X.2.1 dL_isPlay_295 (lv_at hl 4 rfl) ?_
                        refine b_icmp_ne (tgt := 305) X dL_isPlay_297 (by decide) (a := ((r1 : Nat) : Int)) (b := ((r2 : Nat) : Int)) (nI_ti (by omega)) (nI_ti (by omega)) (fun c7 => ?_) (fun c7 => ?_)
                        · skip
                          exact absurd c7 (by omega)
                        · skip
                          refine lv_ldc (own := RL) (index := 67) (v := (-2000000)) X.1 X.2.1 X.2.2.2.1 (X.2.2.2.2.1.use kco_L_67) dL_isPlay_300 ?_
                          refine lv_goto (tgt := 321) X.1 X.2.1 dL_isPlay_302 (by decide) ?_
                          refine b_icmp_ne (tgt := 328) X dL_isPlay_321 (by decide) (a := (-2000000)) (b := (-2000000)) ((by decide)) ((by decide)) (fun c8 => ?_) (fun c8 => ?_)
                          · skip
                            exact absurd c8 (by first | decide | omega)
                          · skip
                            refine lv_iconst (v := nI (1)) X.1 X.2.1 dL_isPlay_324 (by decide) ?_
                            refine lv_goto (tgt := 329) X.1 X.2.1 dL_isPlay_325 (by decide) ?_
                            exact q_zret X hr hlocks h dL_isPlay_329 ⟨show 0 + 4 ≤ 20 by omega, show 0 + 24 ≤ 200 by omega⟩ (rfl) (⟨rfl, rfl, hLI.more⟩)
                      · skip
                        exact absurd c6 (by first | decide | omega)
                    · skip
                      have hK9 : kMatch N F (nI r1) (nI r2) (nI g0) = 3 := by rw [kMatch_v (by omega) (by omega) (by omega) (by omega), if_neg hE, if_neg (fun z => by have z2 := cMatch_t z; omega)]
                      refine lv_aload_n X.1 X.2.1 dL_isPlay_272 rfl (lv_at hl 6 rfl) ?_
                      refine lv_iconst (v := nI (2)) X.1 X.2.1 dL_isPlay_273 (by decide) ?_
                      refine lv_iload X.1 X.2.1 dL_isPlay_274 (lv_at hl 5 rfl) ?_
                      refine lv_iload X.1 X.2.1 dL_isPlay_276 (lv_at hl 4 rfl) ?_
                      refine lv_iload X.1 X.2.1 dL_isPlay_278 (lv_at hl 3 rfl) ?_
                      refine q_callL X hS hZ hN h kcw_L_does kini_L (by decide) kar_L_does kml_L_does kst_L_does dL_isPlay_280 (As := [.ref x, .int (nI (2)), .int (nI (r1)), .int (nI (r2)), .int (nI (g0))]) ((c_L_does_match l G x ar N F B (N, F, B) (nI (r1)) (nI (r2)) (nI (g0)) hst hI).k (k := 3) (hK9) (w := (-1000000)) (rfl) (C2 := (N, F, B)) (rfl)) rfl hl rfl (Nat.le_of_ble_eq_true rfl) ⟨Nat.le_of_ble_eq_true rfl, Nat.le_of_ble_eq_true rfl⟩ ⟨show 0 + 4 ≤ 20 by omega, show 0 + 24 ≤ 200 by omega⟩ ?_
                      rintro _ _ _ H locs ⟨rfl, rfl, rfl⟩ h
                      refine lv_iload X.1 X.2.1 dL_isPlay_283 (lv_at hl 2 rfl) ?_
                      refine b_if_ne (tgt := 293) X dL_isPlay_285 (by decide) (a := ((1 : Nat) : Int)) (nI_ti (by omega)) (fun c9 => ?_) (fun c9 => ?_)
                      · skip
                        refine lv_iload X.1 X.2.1 dL_isPlay_293 (lv_at hl 5 rfl) ?_
                        refine lv_iload X.1 X.2.1 dL_isPlay_295 (lv_at hl 4 rfl) ?_
                        refine b_icmp_ne (tgt := 305) X dL_isPlay_297 (by decide) (a := ((r1 : Nat) : Int)) (b := ((r2 : Nat) : Int)) (nI_ti (by omega)) (nI_ti (by omega)) (fun c10 => ?_) (fun c10 => ?_)
                        · skip
                          refine lv_iload X.1 X.2.1 dL_isPlay_305 (lv_at hl 0 rfl) ?_
                          refine b_if_eq (tgt := 319) X dL_isPlay_307 (by decide) (a := ((0 : Nat) : Int)) (nI_ti (by omega)) (fun c11 => ?_) (fun c11 => ?_)
                          · skip
                            refine lv_ldc (own := RL) (index := 70) (v := (-1000000)) X.1 X.2.1 X.2.2.2.1 (X.2.2.2.2.1.use kco_L_70) dL_isPlay_319 ?_
                            refine b_icmp_ne (tgt := 328) X dL_isPlay_321 (by decide) (a := (-1000000)) (b := (-1000000)) ((by decide)) ((by decide)) (fun c12 => ?_) (fun c12 => ?_)
                            · skip
                              exact absurd c12 (by first | decide | omega)
                            · skip
                              refine lv_iconst (v := nI (1)) X.1 X.2.1 dL_isPlay_324 (by decide) ?_
                              refine lv_goto (tgt := 329) X.1 X.2.1 dL_isPlay_325 (by decide) ?_
                              exact q_zret X hr hlocks h dL_isPlay_329 ⟨show 0 + 4 ≤ 20 by omega, show 0 + 24 ≤ 200 by omega⟩ (rfl) (⟨rfl, rfl, hLI.more⟩)
                          · skip
                            exact absurd c11 (by first | decide | omega)
                        · skip
                          exact absurd c10 (by omega)
                      · skip
                        exact absurd c9 (by first | decide | omega)
                  · skip
                    rw [show bI (decide (r1 < N 1 ∧ r2 < N 1 ∧ g0 < 4)) = nI 0 from (bI_f (decide_eq_false hT)).symm] at hl
                    have hK9 : kMatch N F (nI r1) (nI r2) (nI g0) = 1 := kMatch_1 (by omega) (by omega) (by omega) (by omega) hT
                    refine lv_aload_n X.1 X.2.1 dL_isPlay_272 rfl (lv_at hl 6 rfl) ?_
                    refine lv_iconst (v := nI (2)) X.1 X.2.1 dL_isPlay_273 (by decide) ?_
                    refine lv_iload X.1 X.2.1 dL_isPlay_274 (lv_at hl 5 rfl) ?_
                    refine lv_iload X.1 X.2.1 dL_isPlay_276 (lv_at hl 4 rfl) ?_
                    refine lv_iload X.1 X.2.1 dL_isPlay_278 (lv_at hl 3 rfl) ?_
                    refine q_callL X hS hZ hN h kcw_L_does kini_L (by decide) kar_L_does kml_L_does kst_L_does dL_isPlay_280 (As := [.ref x, .int (nI (2)), .int (nI (r1)), .int (nI (r2)), .int (nI (g0))]) ((c_L_does_match l G x ar N F B (N, F, B) (nI (r1)) (nI (r2)) (nI (g0)) hst hI).k (k := 1) (hK9) (w := (-3000000)) (rfl) (C2 := (N, F, B)) (rfl)) rfl hl rfl (Nat.le_of_ble_eq_true rfl) ⟨Nat.le_of_ble_eq_true rfl, Nat.le_of_ble_eq_true rfl⟩ ⟨show 0 + 4 ≤ 20 by omega, show 0 + 24 ≤ 200 by omega⟩ ?_
                    rintro _ _ _ H locs ⟨rfl, rfl, rfl⟩ h
                    refine lv_iload X.1 X.2.1 dL_isPlay_283 (lv_at hl 2 rfl) ?_
                    refine b_if_ne (tgt := 293) X dL_isPlay_285 (by decide) (a := ((0 : Nat) : Int)) (nI_ti (by omega)) (fun c13 => ?_) (fun c13 => ?_)
                    · skip
                      exact absurd c13 (by first | decide | omega)
                    · skip
                      refine lv_ldc (own := RL) (index := 64) (v := (-3000000)) X.1 X.2.1 X.2.2.2.1 (X.2.2.2.2.1.use kco_L_64) dL_isPlay_288 ?_
                      refine lv_goto (tgt := 321) X.1 X.2.1 dL_isPlay_290 (by decide) ?_
                      refine b_icmp_ne (tgt := 328) X dL_isPlay_321 (by decide) (a := (-3000000)) (b := (-3000000)) ((by decide)) ((by decide)) (fun c14 => ?_) (fun c14 => ?_)
                      · skip
                        exact absurd c14 (by first | decide | omega)
                      · skip
                        refine lv_iconst (v := nI (1)) X.1 X.2.1 dL_isPlay_324 (by decide) ?_
                        refine lv_goto (tgt := 329) X.1 X.2.1 dL_isPlay_325 (by decide) ?_
                        exact q_zret X hr hlocks h dL_isPlay_329 ⟨show 0 + 4 ≤ 20 by omega, show 0 + 24 ≤ 200 by omega⟩ (rfl) (⟨rfl, rfl, hLI.more⟩)
                · skip
                  have c5 := of_decide_eq_true c5
                  rw [show bI (decide (r1 < N 1 ∧ r2 < N 1 ∧ g0 < 4 ∧ r1 ≠ r2 ∧ F 3 r1 ≤ N 0 ∧ F 3 r2 ≤ N 0 ∧ tdy F (N 0) g0 (N 6) < F 5 g0 ∧ N 6 < 60)) = nI 1 from (bI_t (decide_eq_true c5)).symm] at hl
                  rw [show bI (decide (r1 < N 1 ∧ r2 < N 1 ∧ g0 < 4)) = nI 1 from (bI_t (decide_eq_true (by omega))).symm] at hl
                  obtain ⟨V, lr, h⟩ := qM.opn h
                  refine lv_aload_n X.1 X.2.1 dL_isPlay_224 rfl (lv_at hl 8 rfl) ?_
                  refine lv_aload X.1 X.2.1 dL_isPlay_225 (lv_at hl 10 rfl) ?_
                  refine lv_iconst (v := nI (2)) X.1 X.2.1 dL_isPlay_227 (by decide) ?_
                  refine v_ald X h 9 (by decide) dL_isPlay_228 (i := 2) (v := nI (N 6)) rfl (by show _ < 9; omega) (show V 9 (2) = _ from LR.g2 lr) ?_
                  refine lv_iload X.1 X.2.1 dL_isPlay_229 (lv_at hl 5 rfl) ?_
                  refine lv_bipush (v := nI (16)) X.1 X.2.1 dL_isPlay_231 (by decide) ?_
                  refine lv_iload X.1 X.2.1 dL_isPlay_233 (lv_at hl 4 rfl) ?_
                  refine lv_imul X.1 X.2.1 dL_isPlay_235 ?_
                  refine lv_top (y := nI (16 * r2)) (pk_mul _ _) ?_
                  refine lv_iadd X.1 X.2.1 dL_isPlay_236 ?_
                  refine lv_top (y := nI (r1 + (16 * r2))) (nI_add _ _) ?_
                  refine lv_sipush (v := nI (256)) X.1 X.2.1 dL_isPlay_237 (by decide) ?_
                  refine lv_iload X.1 X.2.1 dL_isPlay_240 (lv_at hl 3 rfl) ?_
                  refine lv_imul X.1 X.2.1 dL_isPlay_242 ?_
                  refine lv_top (y := nI (256 * g0)) (pk_mul _ _) ?_
                  refine lv_iadd X.1 X.2.1 dL_isPlay_243 ?_
                  refine lv_top (y := nI (r1 + (16 * r2) + (256 * g0))) (nI_add _ _) ?_
                  refine lv_sipush (v := nI (1024)) X.1 X.2.1 dL_isPlay_244 (by decide) ?_
                  refine lv_aload X.1 X.2.1 dL_isPlay_247 (lv_at hl 10 rfl) ?_
                  refine lv_iconst (v := nI (3)) X.1 X.2.1 dL_isPlay_249 (by decide) ?_
                  refine v_ald X h 9 (by decide) dL_isPlay_250 (i := 3) (v := nI (N 12)) rfl (by show _ < 9; omega) (show V 9 (3) = _ from LR.g3 lr) ?_
                  refine lv_imul X.1 X.2.1 dL_isPlay_251 ?_
                  refine lv_top (y := nI (1024 * (N 12))) (pk_mul _ _) ?_
                  refine lv_iadd X.1 X.2.1 dL_isPlay_252 ?_
                  refine lv_top (y := nI (r1 + (16 * r2) + (256 * g0) + (1024 * (N 12)))) (nI_add _ _) ?_
                  refine v_ast X h 1 (by decide) dL_isPlay_253 (i := N 6) (w := nI (r1 + (16 * r2) + (256 * g0) + (1024 * (N 12)))) rfl (by show _ < 60; omega) (fun H locs h => ?_)
                  refine lv_aload_n X.1 X.2.1 dL_isPlay_254 rfl (lv_at hl 9 rfl) ?_
                  refine lv_aload X.1 X.2.1 dL_isPlay_255 (lv_at hl 10 rfl) ?_
                  refine lv_iconst (v := nI (2)) X.1 X.2.1 dL_isPlay_257 (by decide) ?_
                  refine v_ald X h 9 (by decide) dL_isPlay_258 (i := 2) (v := nI (N 6)) rfl (by show _ < 9; omega) (show V 9 (2) = _ from LR.g2 lr) ?_
                  refine lv_aload X.1 X.2.1 dL_isPlay_259 (lv_at hl 10 rfl) ?_
                  refine lv_iconst (v := nI (0)) X.1 X.2.1 dL_isPlay_261 (by decide) ?_
                  refine v_ald X h 9 (by decide) dL_isPlay_262 (i := 0) (v := nI (N 0)) rfl (by show _ < 9; omega) (show V 9 (0) = _ from LR.g0 lr) ?_
                  refine v_ast X h 2 (by decide) dL_isPlay_263 (i := N 6) (w := nI (N 0)) rfl (by show _ < 60; omega) (fun H locs h => ?_)
                  refine lv_aload X.1 X.2.1 dL_isPlay_264 (lv_at hl 10 rfl) ?_
                  refine lv_iconst (v := nI (2)) X.1 X.2.1 dL_isPlay_266 (by decide) ?_
                  refine lv_dup2_11 X.1 X.2.1 dL_isPlay_267 rfl rfl ?_
                  refine v_ald X h 9 (by decide) dL_isPlay_268 (i := 2) (v := nI (N 6)) rfl (by show _ < 9; omega) (show V 9 (2) = _ from LR.g2 lr) ?_
                  refine lv_iconst (v := nI (1)) X.1 X.2.1 dL_isPlay_269 (by decide) ?_
                  refine lv_iadd X.1 X.2.1 dL_isPlay_270 ?_
                  refine lv_top (y := nI (N 6 + 1)) (nI_add _ _) ?_
                  refine v_ast X h 9 (by decide) dL_isPlay_271 (i := 2) (w := nI (N 6 + 1)) rfl (by show _ < 9; omega) (fun H locs h => ?_)
                  have h := qV.close h (lr.mt (a := r1) (b := r2) (r := g0) (by omega))
                  have hK9 : kMatch N F (nI r1) (nI r2) (nI g0) = 0 := by rw [kMatch_v (by omega) (by omega) (by omega) (by omega), if_neg (by omega), if_pos (cMatch_m (by omega))]
                  refine lv_aload_n X.1 X.2.1 dL_isPlay_272 rfl (lv_at hl 6 rfl) ?_
                  refine lv_iconst (v := nI (2)) X.1 X.2.1 dL_isPlay_273 (by decide) ?_
                  refine lv_iload X.1 X.2.1 dL_isPlay_274 (lv_at hl 5 rfl) ?_
                  refine lv_iload X.1 X.2.1 dL_isPlay_276 (lv_at hl 4 rfl) ?_
                  refine lv_iload X.1 X.2.1 dL_isPlay_278 (lv_at hl 3 rfl) ?_
                  refine q_callL X hS hZ hN h kcw_L_does kini_L (by decide) kar_L_does kml_L_does kst_L_does dL_isPlay_280 (As := [.ref x, .int (nI (2)), .int (nI (r1)), .int (nI (r2)), .int (nI (g0))]) ((c_L_does_match l G x ar N F B ((va_up N 6 (N 6 + 1)), (set1 (set1 (set1 (set1 (set1 F 7 (N 6) r1) 8 (N 6) r2) 9 (N 6) g0) 10 (N 6) (N 0)) 11 (N 6) (N 12)), B) (nI (r1)) (nI (r2)) (nI (g0)) hst hI).k (k := 0) (hK9) (w := nI (N 6)) (rfl) (C2 := ((va_up N 6 (N 6 + 1)), (set1 (set1 (set1 (set1 (set1 F 7 (N 6) r1) 8 (N 6) r2) 9 (N 6) g0) 10 (N 6) (N 0)) 11 (N 6) (N 12)), B)) (by rw [fMatch_n (by omega) (by omega) (by omega)]; rfl)) rfl hl rfl (Nat.le_of_ble_eq_true rfl) ⟨Nat.le_of_ble_eq_true rfl, Nat.le_of_ble_eq_true rfl⟩ ⟨show 0 + 4 ≤ 20 by omega, show 0 + 24 ≤ 200 by omega⟩ ?_
                  rintro _ _ _ H locs ⟨rfl, rfl, rfl⟩ h
                  refine lv_iload X.1 X.2.1 dL_isPlay_283 (lv_at hl 2 rfl) ?_
                  refine b_if_ne (tgt := 293) X dL_isPlay_285 (by decide) (a := ((1 : Nat) : Int)) (nI_ti (by omega)) (fun c15 => ?_) (fun c15 => ?_)
                  · skip
                    refine lv_iload X.1 X.2.1 dL_isPlay_293 (lv_at hl 5 rfl) ?_
                    refine lv_iload X.1 X.2.1 dL_isPlay_295 (lv_at hl 4 rfl) ?_
                    refine b_icmp_ne (tgt := 305) X dL_isPlay_297 (by decide) (a := ((r1 : Nat) : Int)) (b := ((r2 : Nat) : Int)) (nI_ti (by omega)) (nI_ti (by omega)) (fun c16 => ?_) (fun c16 => ?_)
                    · skip
                      refine lv_iload X.1 X.2.1 dL_isPlay_305 (lv_at hl 0 rfl) ?_
                      refine b_if_eq (tgt := 319) X dL_isPlay_307 (by decide) (a := ((1 : Nat) : Int)) (nI_ti (by omega)) (fun c17 => ?_) (fun c17 => ?_)
                      · skip
                        exact absurd c17 (by first | decide | omega)
                      · skip
                        refine lv_aload X.1 X.2.1 dL_isPlay_310 (lv_at hl 10 rfl) ?_
                        refine lv_iconst (v := nI (2)) X.1 X.2.1 dL_isPlay_312 (by decide) ?_
                        refine q_ald X h 9 (by decide) dL_isPlay_313 (i := 2) (v := nI ((N 6 + 1))) rfl (by show _ < 9; omega) (fun V r => LR.g2 r) ?_
                        refine lv_iconst (v := nI (1)) X.1 X.2.1 dL_isPlay_314 (by decide) ?_
                        refine lv_isub X.1 X.2.1 dL_isPlay_315 ?_
                        refine lv_top (y := nI ((N 6 + 1)) - 1) rfl ?_
                        refine lv_goto (tgt := 321) X.1 X.2.1 dL_isPlay_316 (by decide) ?_
                        refine b_icmp_ne (tgt := 328) X dL_isPlay_321 (by decide) (a := ((N 6 : Nat) : Int)) (b := (((N 6 + 1) : Nat) : Int) - 1) (nI_ti (by omega)) (eI_ti (by omega)) (fun c18 => ?_) (fun c18 => ?_)
                        · skip
                          exact absurd c18 (by omega)
                        · skip
                          refine lv_iconst (v := nI (1)) X.1 X.2.1 dL_isPlay_324 (by decide) ?_
                          refine lv_goto (tgt := 329) X.1 X.2.1 dL_isPlay_325 (by decide) ?_
                          exact q_zret X hr hlocks h dL_isPlay_329 ⟨show 0 + 4 ≤ 20 by omega, show 0 + 24 ≤ 200 by omega⟩ (rfl) (⟨rfl, rfl, by have z9 := stp_match hLI hK9; rw [fMatch_n (by omega) (by omega) (by omega)] at z9; exact z9⟩)
                    · skip
                      exact absurd c16 (by omega)
                  · skip
                    exact absurd c15 (by first | decide | omega)
              · skip
                refine lv_iconst (v := nI (1)) X.1 X.2.1 dL_isPlay_217 (by decide) ?_
                exact q_zret X hr hlocks h dL_isPlay_218 ⟨show 0 ≤ 20 by omega, show 0 ≤ 200 by omega⟩ (rfl) (⟨rfl, rfl, hLI.more⟩)
            refine lv_iload X.1 X.2.1 dL_isPlay_136 (lv_at hl 2 rfl) ?_
            refine b_bool_eq (tgt := 205) X dL_isPlay_138 (by decide) (fun c19 => ?_) (fun c19 => ?_)
            · skip
              have c19 := of_decide_eq_false c19
              refine lv_iconst (v := nI (0)) X.1 X.2.1 dL_isPlay_205 (by decide) ?_
              refine lv_top (y := bI (decide (r1 < N 1 ∧ r2 < N 1 ∧ g0 < 4 ∧ r1 ≠ r2 ∧ F 3 r1 ≤ N 0 ∧ F 3 r2 ≤ N 0 ∧ tdy F (N 0) g0 (N 6) < F 5 g0 ∧ N 6 < 60))) (bI_f (decide_eq_false (by omega))) ?_
              exact K206   _ _ _ h (lv_sub hl [0, 1, 2, 3, 4, 5, 6, 7, 8, 9, 10, 11, 12] rfl)
            · skip
              have c19 := of_decide_eq_true c19
              refine lv_iload X.1 X.2.1 dL_isPlay_141 (lv_at hl 5 rfl) ?_
              refine lv_iload X.1 X.2.1 dL_isPlay_143 (lv_at hl 4 rfl) ?_
              refine b_icmp_eq (tgt := 205) X dL_isPlay_145 (by decide) (a := ((r1 : Nat) : Int)) (b := ((r2 : Nat) : Int)) (nI_ti (by omega)) (nI_ti (by omega)) (fun c20 => ?_) (fun c20 => ?_)
              · skip
                refine lv_iconst (v := nI (0)) X.1 X.2.1 dL_isPlay_205 (by decide) ?_
                refine lv_top (y := bI (decide (r1 < N 1 ∧ r2 < N 1 ∧ g0 < 4 ∧ r1 ≠ r2 ∧ F 3 r1 ≤ N 0 ∧ F 3 r2 ≤ N 0 ∧ tdy F (N 0) g0 (N 6) < F 5 g0 ∧ N 6 < 60))) (bI_f (decide_eq_false (by omega))) ?_
                exact K206   _ _ _ h (lv_sub hl [0, 1, 2, 3, 4, 5, 6, 7, 8, 9, 10, 11, 12] rfl)
              · skip
                refine lv_aload_n X.1 X.2.1 dL_isPlay_148 rfl (lv_at hl 7 rfl) ?_
                refine lv_aload X.1 X.2.1 dL_isPlay_149 (lv_at hl 10 rfl) ?_
                refine lv_iload X.1 X.2.1 dL_isPlay_151 (lv_at hl 5 rfl) ?_
                refine q_call X hS hZ hN h ck_L_103 kst_L_isBanned dL_isPlay_153 (As := [.ref (ar 0), .ref (ar 9), .int (nI (r1))]) (c_L_isBanned l G x ar (N, F, B) N F B r1 (hI).ih (by omega)) rfl hl rfl (Nat.le_of_ble_eq_true rfl) ⟨Nat.le_of_ble_eq_true rfl, Nat.le_of_ble_eq_true rfl⟩ ⟨show 0 + 0 ≤ 20 by omega, show 0 + 0 ≤ 200 by omega⟩ ?_
                rintro _ _ _ H locs ⟨rfl, rfl, rfl⟩ h
                refine b_bool_ne (tgt := 205) X dL_isPlay_156 (by decide) (fun c21 => ?_) (fun c21 => ?_)
                · skip
                  have c21 := of_decide_eq_true c21
                  refine lv_iconst (v := nI (0)) X.1 X.2.1 dL_isPlay_205 (by decide) ?_
                  refine lv_top (y := bI (decide (r1 < N 1 ∧ r2 < N 1 ∧ g0 < 4 ∧ r1 ≠ r2 ∧ F 3 r1 ≤ N 0 ∧ F 3 r2 ≤ N 0 ∧ tdy F (N 0) g0 (N 6) < F 5 g0 ∧ N 6 < 60))) (bI_f (decide_eq_false (by omega))) ?_
                  exact K206   _ _ _ h (lv_sub hl [0, 1, 2, 3, 4, 5, 6, 7, 8, 9, 10, 11, 12] rfl)
                · skip
                  have c21 := of_decide_eq_false c21
                  refine lv_aload_n X.1 X.2.1 dL_isPlay_159 rfl (lv_at hl 7 rfl) ?_
                  refine lv_aload X.1 X.2.1 dL_isPlay_160 (lv_at hl 10 rfl) ?_
                  refine lv_iload X.1 X.2.1 dL_isPlay_162 (lv_at hl 4 rfl) ?_
                  refine q_call X hS hZ hN h ck_L_103 kst_L_isBanned dL_isPlay_164 (As := [.ref (ar 0), .ref (ar 9), .int (nI (r2))]) (c_L_isBanned l G x ar (N, F, B) N F B r2 (hI).ih (by omega)) rfl hl rfl (Nat.le_of_ble_eq_true rfl) ⟨Nat.le_of_ble_eq_true rfl, Nat.le_of_ble_eq_true rfl⟩ ⟨show 0 + 0 ≤ 20 by omega, show 0 + 0 ≤ 200 by omega⟩ ?_
                  rintro _ _ _ H locs ⟨rfl, rfl, rfl⟩ h
                  refine b_bool_ne (tgt := 205) X dL_isPlay_167 (by decide) (fun c22 => ?_) (fun c22 => ?_)
                  · skip
                    have c22 := of_decide_eq_true c22
                    refine lv_iconst (v := nI (0)) X.1 X.2.1 dL_isPlay_205 (by decide) ?_
                    refine lv_top (y := bI (decide (r1 < N 1 ∧ r2 < N 1 ∧ g0 < 4 ∧ r1 ≠ r2 ∧ F 3 r1 ≤ N 0 ∧ F 3 r2 ≤ N 0 ∧ tdy F (N 0) g0 (N 6) < F 5 g0 ∧ N 6 < 60))) (bI_f (decide_eq_false (by omega))) ?_
                    exact K206   _ _ _ h (lv_sub hl [0, 1, 2, 3, 4, 5, 6, 7, 8, 9, 10, 11, 12] rfl)
                  · skip
                    have c22 := of_decide_eq_false c22
                    refine lv_iload X.1 X.2.1 dL_isPlay_170 (lv_at hl 0 rfl) ?_
                    refine lv_aload X.1 X.2.1 dL_isPlay_172 (lv_at hl 10 rfl) ?_
                    refine lv_iconst (v := nI (5)) X.1 X.2.1 dL_isPlay_174 (by decide) ?_
                    refine lv_iload X.1 X.2.1 dL_isPlay_175 (lv_at hl 3 rfl) ?_
                    refine lv_iconst (v := nI (4)) X.1 X.2.1 dL_isPlay_177 (by decide) ?_
                    refine b_icmp_ge (tgt := 186) X dL_isPlay_178 (by decide) (a := ((g0 : Nat) : Int)) (b := ((4 : Nat) : Int)) (nI_ti (by omega)) (nI_ti (by omega)) (fun c23 => ?_) (fun c23 => ?_)
                    · skip
                      exact absurd c23 (by omega)
                    · skip
                      refine lv_iload X.1 X.2.1 dL_isPlay_181 (lv_at hl 3 rfl) ?_
                      refine lv_goto (tgt := 187) X.1 X.2.1 dL_isPlay_183 (by decide) ?_
                      refine lv_iadd X.1 X.2.1 dL_isPlay_187 ?_
                      refine lv_top (y := nI (5 + g0)) (nI_add _ _) ?_
                      refine q_ald X h 9 (by decide) dL_isPlay_188 (i := 5 + g0) (v := nI (F 5 (g0))) rfl (by show _ < 9; omega) (fun V r => LR.g5 r (by omega)) ?_
                      have b24 := hI.r (g0)
                      refine b_icmp_ge (tgt := 205) X dL_isPlay_189 (by decide) (a := ((tdy F (N 0) g0 (N 6) : Nat) : Int)) (b := ((F 5 (g0) : Nat) : Int)) (nI_ti (by omega)) (nI_ti (by omega)) (fun c25 => ?_) (fun c25 => ?_)
                      · skip
                        refine lv_iconst (v := nI (0)) X.1 X.2.1 dL_isPlay_205 (by decide) ?_
                        refine lv_top (y := bI (decide (r1 < N 1 ∧ r2 < N 1 ∧ g0 < 4 ∧ r1 ≠ r2 ∧ F 3 r1 ≤ N 0 ∧ F 3 r2 ≤ N 0 ∧ tdy F (N 0) g0 (N 6) < F 5 g0 ∧ N 6 < 60))) (bI_f (decide_eq_false (by omega))) ?_
                        exact K206   _ _ _ h (lv_sub hl [0, 1, 2, 3, 4, 5, 6, 7, 8, 9, 10, 11, 12] rfl)
                      · skip
                        refine lv_aload X.1 X.2.1 dL_isPlay_192 (lv_at hl 10 rfl) ?_
                        refine lv_iconst (v := nI (2)) X.1 X.2.1 dL_isPlay_194 (by decide) ?_
                        refine q_ald X h 9 (by decide) dL_isPlay_195 (i := 2) (v := nI (N 6)) rfl (by show _ < 9; omega) (fun V r => LR.g2 r) ?_
                        refine lv_bipush (v := nI (60)) X.1 X.2.1 dL_isPlay_196 (by decide) ?_
                        refine b_icmp_ge (tgt := 205) X dL_isPlay_198 (by decide) (a := ((N 6 : Nat) : Int)) (b := ((60 : Nat) : Int)) (nI_ti (by omega)) (nI_ti (by omega)) (fun c26 => ?_) (fun c26 => ?_)
                        · skip
                          refine lv_iconst (v := nI (0)) X.1 X.2.1 dL_isPlay_205 (by decide) ?_
                          refine lv_top (y := bI (decide (r1 < N 1 ∧ r2 < N 1 ∧ g0 < 4 ∧ r1 ≠ r2 ∧ F 3 r1 ≤ N 0 ∧ F 3 r2 ≤ N 0 ∧ tdy F (N 0) g0 (N 6) < F 5 g0 ∧ N 6 < 60))) (bI_f (decide_eq_false (by omega))) ?_
                          exact K206   _ _ _ h (lv_sub hl [0, 1, 2, 3, 4, 5, 6, 7, 8, 9, 10, 11, 12] rfl)
                        · skip
                          refine lv_iconst (v := nI (1)) X.1 X.2.1 dL_isPlay_201 (by decide) ?_
                          refine lv_goto (tgt := 206) X.1 X.2.1 dL_isPlay_202 (by decide) ?_
                          refine lv_top (y := bI (decide (r1 < N 1 ∧ r2 < N 1 ∧ g0 < 4 ∧ r1 ≠ r2 ∧ F 3 r1 ≤ N 0 ∧ F 3 r2 ≤ N 0 ∧ tdy F (N 0) g0 (N 6) < F 5 g0 ∧ N 6 < 60))) (bI_t (decide_eq_true (by omega))) ?_
                          exact K206   _ _ _ h (lv_sub hl [0, 1, 2, 3, 4, 5, 6, 7, 8, 9, 10, 11, 12] rfl)
          · skip
            refine lv_iload X.1 X.2.1 dL_isPlay_94 (lv_at hl 0 rfl) ?_
            refine lv_aload_n X.1 X.2.1 dL_isPlay_96 rfl (lv_at hl 8 rfl) ?_
            refine lv_iload X.1 X.2.1 dL_isPlay_97 (lv_at hl 1 rfl) ?_
            refine q_ald X h 1 (by decide) dL_isPlay_99 (i := j3) (v := nI (mvS F j3)) rfl (by show _ < 60; omega) (fun V r => LR.m1 r (by omega)) ?_
            have b27 := mv_b (hI.ih) (show j3 < N 6 by omega)
            refine lv_sipush (v := nI (256)) X.1 X.2.1 dL_isPlay_100 (by decide) ?_
            refine lv_idiv X.1 X.2.1 dL_isPlay_103 (by decide) ?_
            refine lv_top (y := nI ((mvS F j3) / 256)) (pk_div (by omega) (by omega) (by omega)) ?_
            refine lv_iconst (v := nI (4)) X.1 X.2.1 dL_isPlay_104 (by decide) ?_
            refine lv_irem X.1 X.2.1 dL_isPlay_105 (by decide) ?_
            refine lv_top (y := nI (F 9 j3)) ((pk_rem (by omega) (by omega) (by omega)).trans (congrArg nI b27.2.2.2.1)) ?_
            refine lv_iload X.1 X.2.1 dL_isPlay_106 (lv_at hl 3 rfl) ?_
            refine b_icmp_ne (tgt := 126) X dL_isPlay_108 (by decide) (a := ((F 9 j3 : Nat) : Int)) (b := ((g0 : Nat) : Int)) (nI_ti (by omega)) (nI_ti (by omega)) (fun c28 => ?_) (fun c28 => ?_)
            · skip
              refine lv_iconst (v := nI (0)) X.1 X.2.1 dL_isPlay_126 (by decide) ?_
              refine lv_iadd X.1 X.2.1 dL_isPlay_127 ?_
              refine lv_top (y := nI (tdy F (N 0) g0 (j3 + 1))) (tdy_a (by first | exact tdy_t (by omega) (by omega) | exact tdy_f (by omega))) ?_
              refine lv_istore (lv' := [(11, .int (nI (tdy F (N 0) g0 (j3 + 1)))), (12, .int (nI (j3))), (10, .int (bI (decide (r1 < N 1 ∧ r2 < N 1 ∧ g0 < 4)))), (9, .int (nI (g0))), (8, .int (nI (r2))), (7, .int (nI (r1))), (0, .ref x), (1, .ref (ar 0)), (2, .ref (ar 1)), (3, .ref (ar 2)), (4, .ref (ar 9)), (5, .int (nI (one))), (6, .int (nI (two)))]) X.1 X.2.1 dL_isPlay_128 hl (by decide) rfl (fun ls hl => ?_)
              refine lv_iinc (v := nI (j3 + 1)) (lv' := [(12, .int (nI (j3 + 1))), (11, .int (nI (tdy F (N 0) g0 (j3 + 1)))), (10, .int (bI (decide (r1 < N 1 ∧ r2 < N 1 ∧ g0 < 4)))), (9, .int (nI (g0))), (8, .int (nI (r2))), (7, .int (nI (r1))), (0, .ref x), (1, .ref (ar 0)), (2, .ref (ar 1)), (3, .ref (ar 2)), (4, .ref (ar 9)), (5, .int (nI (one))), (6, .int (nI (two)))]) X.1 X.2.1 dL_isPlay_130 hl (k := 1) rfl (nI_add (j3) 1) (by decide) rfl (fun ls hl => ?_)
              refine lv_goto (tgt := 85) X.1 X.2.1 dL_isPlay_133 (by decide) ?_
              exact ih_loop (j3 + 1) (by omega) (by omega) _ _ _ h (lv_sub hl [1, 0, 2, 3, 4, 5, 6, 7, 8, 9, 10, 11, 12] rfl)
            · skip
              refine lv_aload_n X.1 X.2.1 dL_isPlay_111 rfl (lv_at hl 9 rfl) ?_
              refine lv_iload X.1 X.2.1 dL_isPlay_112 (lv_at hl 1 rfl) ?_
              refine q_ald X h 2 (by decide) dL_isPlay_114 (i := j3) (v := nI (F 10 (j3))) rfl (by show _ < 60; omega) (fun V r => LR.d2 r (by omega)) ?_
              have b29 := hI.m (m := j3) (by omega)
              refine lv_aload X.1 X.2.1 dL_isPlay_115 (lv_at hl 10 rfl) ?_
              refine lv_iconst (v := nI (0)) X.1 X.2.1 dL_isPlay_117 (by decide) ?_
              refine q_ald X h 9 (by decide) dL_isPlay_118 (i := 0) (v := nI (N 0)) rfl (by show _ < 9; omega) (fun V r => LR.g0 r) ?_
              refine b_icmp_ne (tgt := 126) X dL_isPlay_119 (by decide) (a := ((F 10 (j3) : Nat) : Int)) (b := ((N 0 : Nat) : Int)) (nI_ti (by omega)) (nI_ti (by omega)) (fun c30 => ?_) (fun c30 => ?_)
              · skip
                refine lv_iconst (v := nI (0)) X.1 X.2.1 dL_isPlay_126 (by decide) ?_
                refine lv_iadd X.1 X.2.1 dL_isPlay_127 ?_
                refine lv_top (y := nI (tdy F (N 0) g0 (j3 + 1))) (tdy_a (by first | exact tdy_t (by omega) (by omega) | exact tdy_f (by omega))) ?_
                refine lv_istore (lv' := [(11, .int (nI (tdy F (N 0) g0 (j3 + 1)))), (12, .int (nI (j3))), (10, .int (bI (decide (r1 < N 1 ∧ r2 < N 1 ∧ g0 < 4)))), (9, .int (nI (g0))), (8, .int (nI (r2))), (7, .int (nI (r1))), (0, .ref x), (1, .ref (ar 0)), (2, .ref (ar 1)), (3, .ref (ar 2)), (4, .ref (ar 9)), (5, .int (nI (one))), (6, .int (nI (two)))]) X.1 X.2.1 dL_isPlay_128 hl (by decide) rfl (fun ls hl => ?_)
                refine lv_iinc (v := nI (j3 + 1)) (lv' := [(12, .int (nI (j3 + 1))), (11, .int (nI (tdy F (N 0) g0 (j3 + 1)))), (10, .int (bI (decide (r1 < N 1 ∧ r2 < N 1 ∧ g0 < 4)))), (9, .int (nI (g0))), (8, .int (nI (r2))), (7, .int (nI (r1))), (0, .ref x), (1, .ref (ar 0)), (2, .ref (ar 1)), (3, .ref (ar 2)), (4, .ref (ar 9)), (5, .int (nI (one))), (6, .int (nI (two)))]) X.1 X.2.1 dL_isPlay_130 hl (k := 1) rfl (nI_add (j3) 1) (by decide) rfl (fun ls hl => ?_)
                refine lv_goto (tgt := 85) X.1 X.2.1 dL_isPlay_133 (by decide) ?_
                exact ih_loop (j3 + 1) (by omega) (by omega) _ _ _ h (lv_sub hl [1, 0, 2, 3, 4, 5, 6, 7, 8, 9, 10, 11, 12] rfl)
              · skip
                refine lv_iconst (v := nI (1)) X.1 X.2.1 dL_isPlay_122 (by decide) ?_
                refine lv_goto (tgt := 127) X.1 X.2.1 dL_isPlay_123 (by decide) ?_
                refine lv_iadd X.1 X.2.1 dL_isPlay_127 ?_
                refine lv_top (y := nI (tdy F (N 0) g0 (j3 + 1))) (tdy_a (by first | exact tdy_t (by omega) (by omega) | exact tdy_f (by omega))) ?_
                refine lv_istore (lv' := [(11, .int (nI (tdy F (N 0) g0 (j3 + 1)))), (12, .int (nI (j3))), (10, .int (bI (decide (r1 < N 1 ∧ r2 < N 1 ∧ g0 < 4)))), (9, .int (nI (g0))), (8, .int (nI (r2))), (7, .int (nI (r1))), (0, .ref x), (1, .ref (ar 0)), (2, .ref (ar 1)), (3, .ref (ar 2)), (4, .ref (ar 9)), (5, .int (nI (one))), (6, .int (nI (two)))]) X.1 X.2.1 dL_isPlay_128 hl (by decide) rfl (fun ls hl => ?_)
                refine lv_iinc (v := nI (j3 + 1)) (lv' := [(12, .int (nI (j3 + 1))), (11, .int (nI (tdy F (N 0) g0 (j3 + 1)))), (10, .int (bI (decide (r1 < N 1 ∧ r2 < N 1 ∧ g0 < 4)))), (9, .int (nI (g0))), (8, .int (nI (r2))), (7, .int (nI (r1))), (0, .ref x), (1, .ref (ar 0)), (2, .ref (ar 1)), (3, .ref (ar 2)), (4, .ref (ar 9)), (5, .int (nI (one))), (6, .int (nI (two)))]) X.1 X.2.1 dL_isPlay_130 hl (k := 1) rfl (nI_add (j3) 1) (by decide) rfl (fun ls hl => ?_)
                refine lv_goto (tgt := 85) X.1 X.2.1 dL_isPlay_133 (by decide) ?_
                exact ih_loop (j3 + 1) (by omega) (by omega) _ _ _ h (lv_sub hl [1, 0, 2, 3, 4, 5, 6, 7, 8, 9, 10, 11, 12] rfl)
      exact loop (N 6 + 1) 0 (by omega) (by omega) _ _ _ h (lv_sub hl [1, 0, 2, 3, 4, 5, 6, 7, 8, 9, 10, 11, 12] rfl)
    refine lv_iload X.1 X.2.1 dL_isPlay_48 (lv_at hl 2 rfl) ?_
    refine lv_aload X.1 X.2.1 dL_isPlay_50 (lv_at hl 7 rfl) ?_
    refine lv_iconst (v := nI (1)) X.1 X.2.1 dL_isPlay_52 (by decide) ?_
    refine q_ald X h 9 (by decide) dL_isPlay_53 (i := 1) (v := nI (N 1)) rfl (by show _ < 9; omega) (fun V r => LR.g1 r) ?_
    refine b_icmp_ge (tgt := 76) X dL_isPlay_54 (by decide) (a := ((r1 : Nat) : Int)) (b := ((N 1 : Nat) : Int)) (nI_ti (by omega)) (nI_ti (by omega)) (fun c31 => ?_) (fun c31 => ?_)
    · skip
      refine lv_iconst (v := nI (0)) X.1 X.2.1 dL_isPlay_76 (by decide) ?_
      refine lv_top (y := bI (decide (r1 < N 1 ∧ r2 < N 1 ∧ g0 < 4))) (bI_f (decide_eq_false (by omega))) ?_
      exact K77   _ _ _ h (lv_sub hl [0, 1, 2, 3, 4, 5, 6, 7, 8, 9] rfl)
    · skip
      refine lv_iload X.1 X.2.1 dL_isPlay_57 (lv_at hl 1 rfl) ?_
      refine lv_aload X.1 X.2.1 dL_isPlay_59 (lv_at hl 7 rfl) ?_
      refine lv_iconst (v := nI (1)) X.1 X.2.1 dL_isPlay_61 (by decide) ?_
      refine q_ald X h 9 (by decide) dL_isPlay_62 (i := 1) (v := nI (N 1)) rfl (by show _ < 9; omega) (fun V r => LR.g1 r) ?_
      refine b_icmp_ge (tgt := 76) X dL_isPlay_63 (by decide) (a := ((r2 : Nat) : Int)) (b := ((N 1 : Nat) : Int)) (nI_ti (by omega)) (nI_ti (by omega)) (fun c32 => ?_) (fun c32 => ?_)
      · skip
        refine lv_iconst (v := nI (0)) X.1 X.2.1 dL_isPlay_76 (by decide) ?_
        refine lv_top (y := bI (decide (r1 < N 1 ∧ r2 < N 1 ∧ g0 < 4))) (bI_f (decide_eq_false (by omega))) ?_
        exact K77   _ _ _ h (lv_sub hl [0, 1, 2, 3, 4, 5, 6, 7, 8, 9] rfl)
      · skip
        refine lv_iload X.1 X.2.1 dL_isPlay_66 (lv_at hl 0 rfl) ?_
        refine lv_iconst (v := nI (4)) X.1 X.2.1 dL_isPlay_68 (by decide) ?_
        refine b_icmp_ge (tgt := 76) X dL_isPlay_69 (by decide) (a := ((g0 : Nat) : Int)) (b := ((4 : Nat) : Int)) (nI_ti (by omega)) (nI_ti (by omega)) (fun c33 => ?_) (fun c33 => ?_)
        · skip
          refine lv_iconst (v := nI (0)) X.1 X.2.1 dL_isPlay_76 (by decide) ?_
          refine lv_top (y := bI (decide (r1 < N 1 ∧ r2 < N 1 ∧ g0 < 4))) (bI_f (decide_eq_false (by omega))) ?_
          exact K77   _ _ _ h (lv_sub hl [0, 1, 2, 3, 4, 5, 6, 7, 8, 9] rfl)
        · skip
          refine lv_iconst (v := nI (1)) X.1 X.2.1 dL_isPlay_72 (by decide) ?_
          refine lv_goto (tgt := 77) X.1 X.2.1 dL_isPlay_73 (by decide) ?_
          refine lv_top (y := bI (decide (r1 < N 1 ∧ r2 < N 1 ∧ g0 < 4))) (bI_t (decide_eq_true (by omega))) ?_
          exact K77   _ _ _ h (lv_sub hl [0, 1, 2, 3, 4, 5, 6, 7, 8, 9] rfl)
  refine lv_iload X.1 X.2.1 dL_isPlay_22 (lv_at hl 8 rfl) ?_
  refine lv_bipush (v := nI (17)) X.1 X.2.1 dL_isPlay_24 (by decide) ?_
  refine lv_idiv X.1 X.2.1 dL_isPlay_26 (by decide) ?_
  refine lv_top (y := nI (two / 17)) (pk_div (by omega) (by omega) (by omega)) ?_
  refine lv_bipush (v := nI (9)) X.1 X.2.1 dL_isPlay_27 (by decide) ?_
  refine lv_irem X.1 X.2.1 dL_isPlay_29 (by decide) ?_
  refine lv_top (y := nI ((two / 17) % 9)) (pk_rem (by omega) (by omega) (by omega)) ?_
  refine lv_bipush (v := nI (8)) X.1 X.2.1 dL_isPlay_30 (by decide) ?_
  refine b_icmp_ne (tgt := 39) X dL_isPlay_32 (by decide) (a := (((two / 17) % 9 : Nat) : Int)) (b := ((8 : Nat) : Int)) (nI_ti (by omega)) (nI_ti (by omega)) (fun c34 => ?_) (fun c34 => ?_)
  · skip
    refine lv_iload X.1 X.2.1 dL_isPlay_39 (lv_at hl 8 rfl) ?_
    refine lv_bipush (v := nI (17)) X.1 X.2.1 dL_isPlay_41 (by decide) ?_
    refine lv_idiv X.1 X.2.1 dL_isPlay_43 (by decide) ?_
    refine lv_top (y := nI (two / 17)) (pk_div (by omega) (by omega) (by omega)) ?_
    refine lv_iconst (v := nI (4)) X.1 X.2.1 dL_isPlay_44 (by decide) ?_
    refine lv_irem X.1 X.2.1 dL_isPlay_45 (by decide) ?_
    refine lv_top (y := nI ((two / 17) % 4)) (pk_rem (by omega) (by omega) (by omega)) ?_
    exact K46 ((two / 17) % 4) (by omega) _ _ _ h (lv_sub hl [0, 1, 2, 3, 4, 5, 6, 7, 8] rfl)
  · skip
    refine lv_iconst (v := nI (4)) X.1 X.2.1 dL_isPlay_35 (by decide) ?_
    refine lv_goto (tgt := 46) X.1 X.2.1 dL_isPlay_36 (by decide) ?_
    exact K46 (4) (by omega) _ _ _ h (lv_sub hl [0, 1, 2, 3, 4, 5, 6, 7, 8] rfl)
