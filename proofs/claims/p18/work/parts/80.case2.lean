set_option maxHeartbeats 4000000 in
set_option maxRecDepth 100000 in
theorem law_proof {p : Program} {l : Launch} {e : Env} {s : State} {m : MethodId} {below : List Frame} {meth : Method} {c : Code} {H : Heap} {locs : List Loc} {ls : Array Slot} {G : mG} {x : Nat} {ar : Nat → Nat} {j b one two : Nat} {N : Nat → Nat} {F : Nat → Nat → Nat} {B : Nat → Int32} {pl : Nat} (X : Cx p c s m cL_law RL 23 G) (hS : XS s) (hZ : XZ G (lA s) s s.heap) (hN : NC s) (hst : l.stackTraces = false) (hLI : LI j N F B) (hjj : j < 64) (hone : one < 60000) (htwo : two < 60000) (hpl : pl < N 1 + 1) (h : qM G (lA s) s x ar (N, F, B) (N, F, B) H locs) (hl : lv_has ls 23 [(13, .int (nI (j))), (15, .int (nI (one))), (16, .int (nI (two))), (17, .int (nI (pl))), (18, .int (bI (decide (pl < N 1)))), (0, .ref b), (1, .ref x), (2, .ref (ar 0)), (3, .ref (ar 1)), (4, .ref (ar 2)), (5, .ref (ar 3)), (6, .ref (ar 4)), (7, .ref (ar 5)), (8, .ref (ar 6)), (9, .ref (ar 7)), (10, .ref (ar 8)), (11, .ref (ar 9))]) (K : LK p l e s m below meth c G x ar j b one two) : W p l e room_1 s m #[Value.ref b] below meth c H locs (1000 + 1100 * j) (10000 + 7000 * j) (lw_Z below #[Value.ref b] s) (F0 m 622 ls []) := by
  have hI := hLI.1
  have hJ := hLI.2.1
  have hn := hI.n
  have h6 := qM.n6 h
  refine lv_iload X.1 X.2.1 dL_law_622 (lv_at hl 2 rfl) ?_
  refine lv_aload X.1 X.2.1 dL_law_624 (lv_at hl 16 rfl) ?_
  refine lv_iconst (v := nI (0)) X.1 X.2.1 dL_law_626 (by decide) ?_
  refine q_ald X h 9 (by decide) dL_law_627 (i := 0) (v := nI (N 0)) rfl (by show _ < 9; omega) (fun V r => LR.g0 r) ?_
  refine lv_iconst (v := nI (2)) X.1 X.2.1 dL_law_628 (by decide) ?_
  refine lv_iadd X.1 X.2.1 dL_law_629 ?_
  refine lv_top (y := nI (N 0 + 2)) (nI_add _ _) ?_
  refine lv_irem X.1 X.2.1 dL_law_630 (nI_n0 (by omega) (by omega)) ?_
  refine lv_top (y := nI (two % (N 0 + 2))) (pk_rem (by omega) (by omega) (by omega)) ?_
  have hr1 := Nat.mod_lt two (show 0 < N 0 + 2 by omega)
  generalize two % (N 0 + 2) = r1 at hr1 ⊢
  refine lv_istore (lv' := [(19, .int (nI (r1))), (13, .int (nI (j))), (15, .int (nI (one))), (16, .int (nI (two))), (17, .int (nI (pl))), (18, .int (bI (decide (pl < N 1)))), (0, .ref b), (1, .ref x), (2, .ref (ar 0)), (3, .ref (ar 1)), (4, .ref (ar 2)), (5, .ref (ar 3)), (6, .ref (ar 4)), (7, .ref (ar 5)), (8, .ref (ar 6)), (9, .ref (ar 7)), (10, .ref (ar 8)), (11, .ref (ar 9))]) X.1 X.2.1 dL_law_631 hl (by decide) rfl (fun ls hl => ?_)
  refine lv_iload X.1 X.2.1 dL_law_633 (lv_at hl 0 rfl) ?_
  refine lv_aload X.1 X.2.1 dL_law_635 (lv_at hl 17 rfl) ?_
  refine lv_iconst (v := nI (0)) X.1 X.2.1 dL_law_637 (by decide) ?_
  refine q_ald X h 9 (by decide) dL_law_638 (i := 0) (v := nI (N 0)) rfl (by show _ < 9; omega) (fun V r => LR.g0 r) ?_
  refine b_icmp_gt (tgt := 646) X dL_law_639 (by decide) (a := ((r1 : Nat) : Int)) (b := ((N 0 : Nat) : Int)) (nI_ti (by omega)) (nI_ti (by omega)) (fun c2 => ?_) (fun c2 => ?_)
  · skip
    refine lv_iconst (v := nI (0)) X.1 X.2.1 dL_law_646 (by decide) ?_
    refine lv_istore (lv' := [(20, .int (nI (0))), (19, .int (nI (r1))), (13, .int (nI (j))), (15, .int (nI (one))), (16, .int (nI (two))), (17, .int (nI (pl))), (18, .int (bI (decide (pl < N 1)))), (0, .ref b), (1, .ref x), (2, .ref (ar 0)), (3, .ref (ar 1)), (4, .ref (ar 2)), (5, .ref (ar 3)), (6, .ref (ar 4)), (7, .ref (ar 5)), (8, .ref (ar 6)), (9, .ref (ar 7)), (10, .ref (ar 8)), (11, .ref (ar 9))]) X.1 X.2.1 dL_law_647 hl (by decide) rfl (fun ls hl => ?_)
    refine lv_iload X.1 X.2.1 dL_law_649 (lv_at hl 6 rfl) ?_
    refine b_bool_eq (tgt := 707) X dL_law_651 (by decide) (fun c3 => ?_) (fun c3 => ?_)
    · skip
      have c3 := of_decide_eq_false c3
      rw [show bI (decide (pl < N 1)) = nI 0 from (bI_f (decide_eq_false c3)).symm] at hl
      refine lv_iconst (v := nI (0)) X.1 X.2.1 dL_law_707 (by decide) ?_
      refine lv_istore (lv' := [(21, .int (nI (0))), (20, .int (nI (0))), (19, .int (nI (r1))), (13, .int (nI (j))), (15, .int (nI (one))), (16, .int (nI (two))), (17, .int (nI (pl))), (18, .int (nI (0))), (0, .ref b), (1, .ref x), (2, .ref (ar 0)), (3, .ref (ar 1)), (4, .ref (ar 2)), (5, .ref (ar 3)), (6, .ref (ar 4)), (7, .ref (ar 5)), (8, .ref (ar 6)), (9, .ref (ar 7)), (10, .ref (ar 8)), (11, .ref (ar 9))]) X.1 X.2.1 dL_law_708 hl (by decide) rfl (fun ls hl => ?_)
      refine lv_iconst (v := nI (0)) X.1 X.2.1 dL_law_710 (by decide) ?_
      refine lv_istore (lv' := [(22, .int (nI (0))), (21, .int (nI (0))), (20, .int (nI (0))), (19, .int (nI (r1))), (13, .int (nI (j))), (15, .int (nI (one))), (16, .int (nI (two))), (17, .int (nI (pl))), (18, .int (nI (0))), (0, .ref b), (1, .ref x), (2, .ref (ar 0)), (3, .ref (ar 1)), (4, .ref (ar 2)), (5, .ref (ar 3)), (6, .ref (ar 4)), (7, .ref (ar 5)), (8, .ref (ar 6)), (9, .ref (ar 7)), (10, .ref (ar 8)), (11, .ref (ar 9))]) X.1 X.2.1 dL_law_711 hl (by decide) rfl (fun ls hl => ?_)
      have loop : ∀ (n9 : Nat) (j3 : Nat), (N 6 + 1 ≤ j3 + n9) → (j3 ≤ N 6) → ∀ (H : Heap) (locs : List Loc) (ls : Array Slot), qM G (lA s) s x ar (N, F, B) (N, F, B) H locs → lv_has ls 23 [(21, .int (nI (badN F j3))), (22, .int (nI (j3))), (20, .int (nI (0))), (19, .int (nI (r1))), (13, .int (nI (j))), (15, .int (nI (one))), (16, .int (nI (two))), (17, .int (nI (pl))), (18, .int (nI (0))), (0, .ref b), (1, .ref x), (2, .ref (ar 0)), (3, .ref (ar 1)), (4, .ref (ar 2)), (5, .ref (ar 3)), (6, .ref (ar 4)), (7, .ref (ar 5)), (8, .ref (ar 6)), (9, .ref (ar 7)), (10, .ref (ar 8)), (11, .ref (ar 9))] → W p l e room_1 s m #[Value.ref b] below meth c H locs (1000 + 1100 * j) (10000 + 7000 * j) (lw_Z below #[Value.ref b] s) (F0 m 713 ls []) := by
        intro n9
        induction n9 with
        | zero => intro j3 hm9 hj3; exact absurd hm9 (by omega)
        | succ n9 ih_loop =>
          intro j3 hm9 hj3 H locs ls h hl
          have hbl := badN_le F j3
          refine lv_iload X.1 X.2.1 dL_law_713 (lv_at hl 1 rfl) ?_
          refine lv_aload X.1 X.2.1 dL_law_715 (lv_at hl 20 rfl) ?_
          refine lv_iconst (v := nI (2)) X.1 X.2.1 dL_law_717 (by decide) ?_
          refine q_ald X h 9 (by decide) dL_law_718 (i := 2) (v := nI (N 6)) rfl (by show _ < 9; omega) (fun V r => LR.g2 r) ?_
          refine b_icmp_ge (tgt := 750) X dL_law_719 (by decide) (a := ((j3 : Nat) : Int)) (b := ((N 6 : Nat) : Int)) (nI_ti (by omega)) (nI_ti (by omega)) (fun c4 => ?_) (fun c4 => ?_)
          · skip
            have ej : j3 = N 6 := by omega
            subst ej
            have hK9 : kProof N (nI pl) (nI r1) = 1 := kProof_1 (by omega) (by omega) c3
            refine lv_aload_n X.1 X.2.1 dL_law_750 rfl (lv_at hl 10 rfl) ?_
            refine lv_bipush (v := nI (6)) X.1 X.2.1 dL_law_751 (by decide) ?_
            refine lv_iload X.1 X.2.1 dL_law_753 (lv_at hl 7 rfl) ?_
            refine lv_iload X.1 X.2.1 dL_law_755 (lv_at hl 3 rfl) ?_
            refine lv_iconst (v := nI (0)) X.1 X.2.1 dL_law_757 (by decide) ?_
            refine q_callL X hS hZ hN h kcw_L_does kini_L (by decide) kar_L_does kml_L_does kst_L_does dL_law_758 (As := [.ref x, .int (nI (6)), .int (nI (pl)), .int (nI (r1)), .int (nI (0))]) ((c_L_does_proof l G x ar N F B (N, F, B) (nI (pl)) (nI (r1)) (nI (0)) hst hI).k (k := 1) (hK9) (w := (-3000000)) (rfl) (C2 := (N, F, B)) (rfl)) rfl hl rfl (Nat.le_of_ble_eq_true rfl) ⟨Nat.le_of_ble_eq_true rfl, Nat.le_of_ble_eq_true rfl⟩ ⟨show 1000 + 1100 * j + 2 ≤ 733361 by omega, show 10000 + 7000 * j + 12 ≤ 6901384 by omega⟩ ?_
            rintro _ _ _ H locs ⟨rfl, rfl, rfl⟩ h
            refine lv_iload X.1 X.2.1 dL_law_761 (lv_at hl 8 rfl) ?_
            refine b_if_ne (tgt := 771) X dL_law_763 (by decide) (a := ((0 : Nat) : Int)) (nI_ti (by omega)) (fun c5 => ?_) (fun c5 => ?_)
            · skip
              exact absurd c5 (by first | decide | omega)
            · skip
              refine lv_ldc (own := RL) (index := 64) (v := (-3000000)) X.1 X.2.1 X.2.2.2.1 (X.2.2.2.2.1.use kco_L_64) dL_law_766 ?_
              refine lv_goto (tgt := 783) X.1 X.2.1 dL_law_768 (by decide) ?_
              refine b_icmp_ne (tgt := 790) X dL_law_783 (by decide) (a := (-3000000)) (b := (-3000000)) ((by decide)) ((by decide)) (fun c6 => ?_) (fun c6 => ?_)
              · skip
                exact absurd c6 (by first | decide | omega)
              · skip
                refine lv_iconst (v := nI (1)) X.1 X.2.1 dL_law_786 (by decide) ?_
                refine lv_goto (tgt := 791) X.1 X.2.1 dL_law_787 (by decide) ?_
                refine lv_istore (lv' := [(12, .int (nI (1))), (21, .int (nI (badN F (N 6)))), (22, .int (nI (N 6))), (20, .int (nI (0))), (19, .int (nI (r1))), (13, .int (nI (j))), (15, .int (nI (one))), (16, .int (nI (two))), (17, .int (nI (pl))), (18, .int (nI (0))), (0, .ref b), (1, .ref x), (2, .ref (ar 0)), (3, .ref (ar 1)), (4, .ref (ar 2)), (5, .ref (ar 3)), (6, .ref (ar 4)), (7, .ref (ar 5)), (8, .ref (ar 6)), (9, .ref (ar 7)), (10, .ref (ar 8)), (11, .ref (ar 9))]) X.1 X.2.1 dL_law_791 hl (by decide) rfl (fun ls hl => ?_)
                refine lv_goto (tgt := 1241) X.1 X.2.1 dL_law_793 (by decide) ?_
                refine W.widen (k := 1000 + 1100 * j + 40) (n := 10000 + 7000 * j + 400) (show 1000 + 1100 * j + 2 ≤ 1000 + 1100 * j + 40 by omega) (show 10000 + 7000 * j + 12 ≤ 10000 + 7000 * j + 400 by omega) ?_
                exact K N F B _ _ _ (hLI.more) h (lv_sub hl [0, 5, 6, 7, 10, 11, 12, 13, 14, 15, 16, 17, 18, 19, 20, 21] rfl)
          · skip
            refine lv_iload X.1 X.2.1 dL_law_722 (lv_at hl 0 rfl) ?_
            refine lv_aload_n X.1 X.2.1 dL_law_724 rfl (lv_at hl 11 rfl) ?_
            refine lv_aload_n X.1 X.2.1 dL_law_725 rfl (lv_at hl 12 rfl) ?_
            refine lv_aload X.1 X.2.1 dL_law_726 (lv_at hl 13 rfl) ?_
            refine lv_iload X.1 X.2.1 dL_law_728 (lv_at hl 1 rfl) ?_
            refine q_call X hS hZ hN h ck_L_71 kst_L_isGood dL_law_730 (As := [.ref (ar 0), .ref (ar 1), .ref (ar 2), .int (nI (j3))]) (c_L_isGood l G x ar (N, F, B) N F B j3 hI.ih (by omega)) rfl hl rfl (Nat.le_of_ble_eq_true rfl) ⟨Nat.le_of_ble_eq_true rfl, Nat.le_of_ble_eq_true rfl⟩ ⟨show 1000 + 1100 * j + 0 ≤ 733361 by omega, show 10000 + 7000 * j + 0 ≤ 6901384 by omega⟩ ?_
            rintro _ _ _ H locs ⟨rfl, rfl, rfl⟩ h
            refine b_bool_eq (tgt := 740) X dL_law_733 (by decide) (fun c7 => ?_) (fun c7 => ?_)
            · skip
              refine lv_iconst (v := nI (1)) X.1 X.2.1 dL_law_740 (by decide) ?_
              refine lv_iadd X.1 X.2.1 dL_law_741 ?_
              refine lv_top (y := nI (badN F (j3 + 1))) (badN_at (by first | exact badN_t (by assumption) | exact badN_f (by assumption))) ?_
              refine lv_istore (lv' := [(21, .int (nI (badN F (j3 + 1)))), (22, .int (nI (j3))), (20, .int (nI (0))), (19, .int (nI (r1))), (13, .int (nI (j))), (15, .int (nI (one))), (16, .int (nI (two))), (17, .int (nI (pl))), (18, .int (nI (0))), (0, .ref b), (1, .ref x), (2, .ref (ar 0)), (3, .ref (ar 1)), (4, .ref (ar 2)), (5, .ref (ar 3)), (6, .ref (ar 4)), (7, .ref (ar 5)), (8, .ref (ar 6)), (9, .ref (ar 7)), (10, .ref (ar 8)), (11, .ref (ar 9))]) X.1 X.2.1 dL_law_742 hl (by decide) rfl (fun ls hl => ?_)
              refine lv_iinc (v := nI (j3 + 1)) (lv' := [(22, .int (nI (j3 + 1))), (21, .int (nI (badN F (j3 + 1)))), (20, .int (nI (0))), (19, .int (nI (r1))), (13, .int (nI (j))), (15, .int (nI (one))), (16, .int (nI (two))), (17, .int (nI (pl))), (18, .int (nI (0))), (0, .ref b), (1, .ref x), (2, .ref (ar 0)), (3, .ref (ar 1)), (4, .ref (ar 2)), (5, .ref (ar 3)), (6, .ref (ar 4)), (7, .ref (ar 5)), (8, .ref (ar 6)), (9, .ref (ar 7)), (10, .ref (ar 8)), (11, .ref (ar 9))]) X.1 X.2.1 dL_law_744 hl (k := 1) rfl (nI_add (j3) 1) (by decide) rfl (fun ls hl => ?_)
              refine lv_goto (tgt := 713) X.1 X.2.1 dL_law_747 (by decide) ?_
              exact ih_loop (j3 + 1) (by omega) (by omega) _ _ _ h (lv_sub hl [1, 0, 2, 3, 4, 5, 6, 7, 8, 9, 10, 11, 12, 13, 14, 15, 16, 17, 18, 19, 20] rfl)
            · skip
              refine lv_iconst (v := nI (0)) X.1 X.2.1 dL_law_736 (by decide) ?_
              refine lv_goto (tgt := 741) X.1 X.2.1 dL_law_737 (by decide) ?_
              refine lv_iadd X.1 X.2.1 dL_law_741 ?_
              refine lv_top (y := nI (badN F (j3 + 1))) (badN_at (by first | exact badN_t (by assumption) | exact badN_f (by assumption))) ?_
              refine lv_istore (lv' := [(21, .int (nI (badN F (j3 + 1)))), (22, .int (nI (j3))), (20, .int (nI (0))), (19, .int (nI (r1))), (13, .int (nI (j))), (15, .int (nI (one))), (16, .int (nI (two))), (17, .int (nI (pl))), (18, .int (nI (0))), (0, .ref b), (1, .ref x), (2, .ref (ar 0)), (3, .ref (ar 1)), (4, .ref (ar 2)), (5, .ref (ar 3)), (6, .ref (ar 4)), (7, .ref (ar 5)), (8, .ref (ar 6)), (9, .ref (ar 7)), (10, .ref (ar 8)), (11, .ref (ar 9))]) X.1 X.2.1 dL_law_742 hl (by decide) rfl (fun ls hl => ?_)
              refine lv_iinc (v := nI (j3 + 1)) (lv' := [(22, .int (nI (j3 + 1))), (21, .int (nI (badN F (j3 + 1)))), (20, .int (nI (0))), (19, .int (nI (r1))), (13, .int (nI (j))), (15, .int (nI (one))), (16, .int (nI (two))), (17, .int (nI (pl))), (18, .int (nI (0))), (0, .ref b), (1, .ref x), (2, .ref (ar 0)), (3, .ref (ar 1)), (4, .ref (ar 2)), (5, .ref (ar 3)), (6, .ref (ar 4)), (7, .ref (ar 5)), (8, .ref (ar 6)), (9, .ref (ar 7)), (10, .ref (ar 8)), (11, .ref (ar 9))]) X.1 X.2.1 dL_law_744 hl (k := 1) rfl (nI_add (j3) 1) (by decide) rfl (fun ls hl => ?_)
              refine lv_goto (tgt := 713) X.1 X.2.1 dL_law_747 (by decide) ?_
              exact ih_loop (j3 + 1) (by omega) (by omega) _ _ _ h (lv_sub hl [1, 0, 2, 3, 4, 5, 6, 7, 8, 9, 10, 11, 12, 13, 14, 15, 16, 17, 18, 19, 20] rfl)
      exact loop (N 6 + 1) 0 (by omega) (by omega) _ _ _ h (lv_sub hl [1, 0, 2, 3, 4, 5, 6, 7, 8, 9, 10, 11, 12, 13, 14, 15, 16, 17, 18, 19, 20] rfl)
    · skip
      have c3 := of_decide_eq_true c3
      rw [show bI (decide (pl < N 1)) = nI 1 from (bI_t (decide_eq_true c3)).symm] at hl
      refine lv_iload X.1 X.2.1 dL_law_654 (lv_at hl 0 rfl) ?_
      refine b_if_eq (tgt := 707) X dL_law_656 (by decide) (a := ((0 : Nat) : Int)) (nI_ti (by omega)) (fun c8 => ?_) (fun c8 => ?_)
      · skip
        refine lv_iconst (v := nI (0)) X.1 X.2.1 dL_law_707 (by decide) ?_
        refine lv_istore (lv' := [(21, .int (nI (0))), (20, .int (nI (0))), (19, .int (nI (r1))), (13, .int (nI (j))), (15, .int (nI (one))), (16, .int (nI (two))), (17, .int (nI (pl))), (18, .int (nI (1))), (0, .ref b), (1, .ref x), (2, .ref (ar 0)), (3, .ref (ar 1)), (4, .ref (ar 2)), (5, .ref (ar 3)), (6, .ref (ar 4)), (7, .ref (ar 5)), (8, .ref (ar 6)), (9, .ref (ar 7)), (10, .ref (ar 8)), (11, .ref (ar 9))]) X.1 X.2.1 dL_law_708 hl (by decide) rfl (fun ls hl => ?_)
        refine lv_iconst (v := nI (0)) X.1 X.2.1 dL_law_710 (by decide) ?_
        refine lv_istore (lv' := [(22, .int (nI (0))), (21, .int (nI (0))), (20, .int (nI (0))), (19, .int (nI (r1))), (13, .int (nI (j))), (15, .int (nI (one))), (16, .int (nI (two))), (17, .int (nI (pl))), (18, .int (nI (1))), (0, .ref b), (1, .ref x), (2, .ref (ar 0)), (3, .ref (ar 1)), (4, .ref (ar 2)), (5, .ref (ar 3)), (6, .ref (ar 4)), (7, .ref (ar 5)), (8, .ref (ar 6)), (9, .ref (ar 7)), (10, .ref (ar 8)), (11, .ref (ar 9))]) X.1 X.2.1 dL_law_711 hl (by decide) rfl (fun ls hl => ?_)
        have loop : ∀ (n9 : Nat) (j3 : Nat), (N 6 + 1 ≤ j3 + n9) → (j3 ≤ N 6) → ∀ (H : Heap) (locs : List Loc) (ls : Array Slot), qM G (lA s) s x ar (N, F, B) (N, F, B) H locs → lv_has ls 23 [(21, .int (nI (badN F j3))), (22, .int (nI (j3))), (20, .int (nI (0))), (19, .int (nI (r1))), (13, .int (nI (j))), (15, .int (nI (one))), (16, .int (nI (two))), (17, .int (nI (pl))), (18, .int (nI (1))), (0, .ref b), (1, .ref x), (2, .ref (ar 0)), (3, .ref (ar 1)), (4, .ref (ar 2)), (5, .ref (ar 3)), (6, .ref (ar 4)), (7, .ref (ar 5)), (8, .ref (ar 6)), (9, .ref (ar 7)), (10, .ref (ar 8)), (11, .ref (ar 9))] → W p l e room_1 s m #[Value.ref b] below meth c H locs (1000 + 1100 * j) (10000 + 7000 * j) (lw_Z below #[Value.ref b] s) (F0 m 713 ls []) := by
          intro n9
          induction n9 with
          | zero => intro j3 hm9 hj3; exact absurd hm9 (by omega)
          | succ n9 ih_loop =>
            intro j3 hm9 hj3 H locs ls h hl
            have hbl := badN_le F j3
            refine lv_iload X.1 X.2.1 dL_law_713 (lv_at hl 1 rfl) ?_
            refine lv_aload X.1 X.2.1 dL_law_715 (lv_at hl 20 rfl) ?_
            refine lv_iconst (v := nI (2)) X.1 X.2.1 dL_law_717 (by decide) ?_
            refine q_ald X h 9 (by decide) dL_law_718 (i := 2) (v := nI (N 6)) rfl (by show _ < 9; omega) (fun V r => LR.g2 r) ?_
            refine b_icmp_ge (tgt := 750) X dL_law_719 (by decide) (a := ((j3 : Nat) : Int)) (b := ((N 6 : Nat) : Int)) (nI_ti (by omega)) (nI_ti (by omega)) (fun c9 => ?_) (fun c9 => ?_)
            · skip
              have ej : j3 = N 6 := by omega
              subst ej
              have hK9 : kProof N (nI pl) (nI r1) = 2 := by rw [kProof_v (by omega) (by omega) (by omega), if_neg (by omega)]
              refine lv_aload_n X.1 X.2.1 dL_law_750 rfl (lv_at hl 10 rfl) ?_
              refine lv_bipush (v := nI (6)) X.1 X.2.1 dL_law_751 (by decide) ?_
              refine lv_iload X.1 X.2.1 dL_law_753 (lv_at hl 7 rfl) ?_
              refine lv_iload X.1 X.2.1 dL_law_755 (lv_at hl 3 rfl) ?_
              refine lv_iconst (v := nI (0)) X.1 X.2.1 dL_law_757 (by decide) ?_
              refine q_callL X hS hZ hN h kcw_L_does kini_L (by decide) kar_L_does kml_L_does kst_L_does dL_law_758 (As := [.ref x, .int (nI (6)), .int (nI (pl)), .int (nI (r1)), .int (nI (0))]) ((c_L_does_proof l G x ar N F B (N, F, B) (nI (pl)) (nI (r1)) (nI (0)) hst hI).k (k := 2) (hK9) (w := (-2000000)) (rfl) (C2 := (N, F, B)) (rfl)) rfl hl rfl (Nat.le_of_ble_eq_true rfl) ⟨Nat.le_of_ble_eq_true rfl, Nat.le_of_ble_eq_true rfl⟩ ⟨show 1000 + 1100 * j + 2 ≤ 733361 by omega, show 10000 + 7000 * j + 12 ≤ 6901384 by omega⟩ ?_
              rintro _ _ _ H locs ⟨rfl, rfl, rfl⟩ h
              refine lv_iload X.1 X.2.1 dL_law_761 (lv_at hl 8 rfl) ?_
              refine b_if_ne (tgt := 771) X dL_law_763 (by decide) (a := ((1 : Nat) : Int)) (nI_ti (by omega)) (fun c10 => ?_) (fun c10 => ?_)
              · skip
                refine lv_iload X.1 X.2.1 dL_law_771 (lv_at hl 2 rfl) ?_
                refine b_if_eq (tgt := 781) X dL_law_773 (by decide) (a := ((0 : Nat) : Int)) (nI_ti (by omega)) (fun c11 => ?_) (fun c11 => ?_)
                · skip
                  refine lv_ldc (own := RL) (index := 67) (v := (-2000000)) X.1 X.2.1 X.2.2.2.1 (X.2.2.2.2.1.use kco_L_67) dL_law_781 ?_
                  refine b_icmp_ne (tgt := 790) X dL_law_783 (by decide) (a := (-2000000)) (b := (-2000000)) ((by decide)) ((by decide)) (fun c12 => ?_) (fun c12 => ?_)
                  · skip
                    exact absurd c12 (by first | decide | omega)
                  · skip
                    refine lv_iconst (v := nI (1)) X.1 X.2.1 dL_law_786 (by decide) ?_
                    refine lv_goto (tgt := 791) X.1 X.2.1 dL_law_787 (by decide) ?_
                    refine lv_istore (lv' := [(12, .int (nI (1))), (21, .int (nI (badN F (N 6)))), (22, .int (nI (N 6))), (20, .int (nI (0))), (19, .int (nI (r1))), (13, .int (nI (j))), (15, .int (nI (one))), (16, .int (nI (two))), (17, .int (nI (pl))), (18, .int (nI (1))), (0, .ref b), (1, .ref x), (2, .ref (ar 0)), (3, .ref (ar 1)), (4, .ref (ar 2)), (5, .ref (ar 3)), (6, .ref (ar 4)), (7, .ref (ar 5)), (8, .ref (ar 6)), (9, .ref (ar 7)), (10, .ref (ar 8)), (11, .ref (ar 9))]) X.1 X.2.1 dL_law_791 hl (by decide) rfl (fun ls hl => ?_)
                    refine lv_goto (tgt := 1241) X.1 X.2.1 dL_law_793 (by decide) ?_
                    refine W.widen (k := 1000 + 1100 * j + 40) (n := 10000 + 7000 * j + 400) (show 1000 + 1100 * j + 2 ≤ 1000 + 1100 * j + 40 by omega) (show 10000 + 7000 * j + 12 ≤ 10000 + 7000 * j + 400 by omega) ?_
                    exact K N F B _ _ _ (hLI.more) h (lv_sub hl [0, 5, 6, 7, 10, 11, 12, 13, 14, 15, 16, 17, 18, 19, 20, 21] rfl)
                · skip
                  exact absurd c11 (by first | decide | omega)
              · skip
                exact absurd c10 (by first | decide | omega)
            · skip
              refine lv_iload X.1 X.2.1 dL_law_722 (lv_at hl 0 rfl) ?_
              refine lv_aload_n X.1 X.2.1 dL_law_724 rfl (lv_at hl 11 rfl) ?_
              refine lv_aload_n X.1 X.2.1 dL_law_725 rfl (lv_at hl 12 rfl) ?_
              refine lv_aload X.1 X.2.1 dL_law_726 (lv_at hl 13 rfl) ?_
              refine lv_iload X.1 X.2.1 dL_law_728 (lv_at hl 1 rfl) ?_
              refine q_call X hS hZ hN h ck_L_71 kst_L_isGood dL_law_730 (As := [.ref (ar 0), .ref (ar 1), .ref (ar 2), .int (nI (j3))]) (c_L_isGood l G x ar (N, F, B) N F B j3 hI.ih (by omega)) rfl hl rfl (Nat.le_of_ble_eq_true rfl) ⟨Nat.le_of_ble_eq_true rfl, Nat.le_of_ble_eq_true rfl⟩ ⟨show 1000 + 1100 * j + 0 ≤ 733361 by omega, show 10000 + 7000 * j + 0 ≤ 6901384 by omega⟩ ?_
              rintro _ _ _ H locs ⟨rfl, rfl, rfl⟩ h
              refine b_bool_eq (tgt := 740) X dL_law_733 (by decide) (fun c13 => ?_) (fun c13 => ?_)
              · skip
                refine lv_iconst (v := nI (1)) X.1 X.2.1 dL_law_740 (by decide) ?_
                refine lv_iadd X.1 X.2.1 dL_law_741 ?_
                refine lv_top (y := nI (badN F (j3 + 1))) (badN_at (by first | exact badN_t (by assumption) | exact badN_f (by assumption))) ?_
                refine lv_istore (lv' := [(21, .int (nI (badN F (j3 + 1)))), (22, .int (nI (j3))), (20, .int (nI (0))), (19, .int (nI (r1))), (13, .int (nI (j))), (15, .int (nI (one))), (16, .int (nI (two))), (17, .int (nI (pl))), (18, .int (nI (1))), (0, .ref b), (1, .ref x), (2, .ref (ar 0)), (3, .ref (ar 1)), (4, .ref (ar 2)), (5, .ref (ar 3)), (6, .ref (ar 4)), (7, .ref (ar 5)), (8, .ref (ar 6)), (9, .ref (ar 7)), (10, .ref (ar 8)), (11, .ref (ar 9))]) X.1 X.2.1 dL_law_742 hl (by decide) rfl (fun ls hl => ?_)
                refine lv_iinc (v := nI (j3 + 1)) (lv' := [(22, .int (nI (j3 + 1))), (21, .int (nI (badN F (j3 + 1)))), (20, .int (nI (0))), (19, .int (nI (r1))), (13, .int (nI (j))), (15, .int (nI (one))), (16, .int (nI (two))), (17, .int (nI (pl))), (18, .int (nI (1))), (0, .ref b), (1, .ref x), (2, .ref (ar 0)), (3, .ref (ar 1)), (4, .ref (ar 2)), (5, .ref (ar 3)), (6, .ref (ar 4)), (7, .ref (ar 5)), (8, .ref (ar 6)), (9, .ref (ar 7)), (10, .ref (ar 8)), (11, .ref (ar 9))]) X.1 X.2.1 dL_law_744 hl (k := 1) rfl (nI_add (j3) 1) (by decide) rfl (fun ls hl => ?_)
                refine lv_goto (tgt := 713) X.1 X.2.1 dL_law_747 (by decide) ?_
                exact ih_loop (j3 + 1) (by omega) (by omega) _ _ _ h (lv_sub hl [1, 0, 2, 3, 4, 5, 6, 7, 8, 9, 10, 11, 12, 13, 14, 15, 16, 17, 18, 19, 20] rfl)
              · skip
                refine lv_iconst (v := nI (0)) X.1 X.2.1 dL_law_736 (by decide) ?_
                refine lv_goto (tgt := 741) X.1 X.2.1 dL_law_737 (by decide) ?_
                refine lv_iadd X.1 X.2.1 dL_law_741 ?_
                refine lv_top (y := nI (badN F (j3 + 1))) (badN_at (by first | exact badN_t (by assumption) | exact badN_f (by assumption))) ?_
                refine lv_istore (lv' := [(21, .int (nI (badN F (j3 + 1)))), (22, .int (nI (j3))), (20, .int (nI (0))), (19, .int (nI (r1))), (13, .int (nI (j))), (15, .int (nI (one))), (16, .int (nI (two))), (17, .int (nI (pl))), (18, .int (nI (1))), (0, .ref b), (1, .ref x), (2, .ref (ar 0)), (3, .ref (ar 1)), (4, .ref (ar 2)), (5, .ref (ar 3)), (6, .ref (ar 4)), (7, .ref (ar 5)), (8, .ref (ar 6)), (9, .ref (ar 7)), (10, .ref (ar 8)), (11, .ref (ar 9))]) X.1 X.2.1 dL_law_742 hl (by decide) rfl (fun ls hl => ?_)
                refine lv_iinc (v := nI (j3 + 1)) (lv' := [(22, .int (nI (j3 + 1))), (21, .int (nI (badN F (j3 + 1)))), (20, .int (nI (0))), (19, .int (nI (r1))), (13, .int (nI (j))), (15, .int (nI (one))), (16, .int (nI (two))), (17, .int (nI (pl))), (18, .int (nI (1))), (0, .ref b), (1, .ref x), (2, .ref (ar 0)), (3, .ref (ar 1)), (4, .ref (ar 2)), (5, .ref (ar 3)), (6, .ref (ar 4)), (7, .ref (ar 5)), (8, .ref (ar 6)), (9, .ref (ar 7)), (10, .ref (ar 8)), (11, .ref (ar 9))]) X.1 X.2.1 dL_law_744 hl (k := 1) rfl (nI_add (j3) 1) (by decide) rfl (fun ls hl => ?_)
                refine lv_goto (tgt := 713) X.1 X.2.1 dL_law_747 (by decide) ?_
                exact ih_loop (j3 + 1) (by omega) (by omega) _ _ _ h (lv_sub hl [1, 0, 2, 3, 4, 5, 6, 7, 8, 9, 10, 11, 12, 13, 14, 15, 16, 17, 18, 19, 20] rfl)
        exact loop (N 6 + 1) 0 (by omega) (by omega) _ _ _ h (lv_sub hl [1, 0, 2, 3, 4, 5, 6, 7, 8, 9, 10, 11, 12, 13, 14, 15, 16, 17, 18, 19, 20] rfl)
      · skip
        exact absurd c8 (by first | decide | omega)
  · skip
    refine lv_iconst (v := nI (1)) X.1 X.2.1 dL_law_642 (by decide) ?_
    refine lv_goto (tgt := 647) X.1 X.2.1 dL_law_643 (by decide) ?_
    refine lv_istore (lv' := [(20, .int (nI (1))), (19, .int (nI (r1))), (13, .int (nI (j))), (15, .int (nI (one))), (16, .int (nI (two))), (17, .int (nI (pl))), (18, .int (bI (decide (pl < N 1)))), (0, .ref b), (1, .ref x), (2, .ref (ar 0)), (3, .ref (ar 1)), (4, .ref (ar 2)), (5, .ref (ar 3)), (6, .ref (ar 4)), (7, .ref (ar 5)), (8, .ref (ar 6)), (9, .ref (ar 7)), (10, .ref (ar 8)), (11, .ref (ar 9))]) X.1 X.2.1 dL_law_647 hl (by decide) rfl (fun ls hl => ?_)
    refine lv_iload X.1 X.2.1 dL_law_649 (lv_at hl 6 rfl) ?_
    refine b_bool_eq (tgt := 707) X dL_law_651 (by decide) (fun c14 => ?_) (fun c14 => ?_)
    · skip
      have c14 := of_decide_eq_false c14
      rw [show bI (decide (pl < N 1)) = nI 0 from (bI_f (decide_eq_false c14)).symm] at hl
      refine lv_iconst (v := nI (0)) X.1 X.2.1 dL_law_707 (by decide) ?_
      refine lv_istore (lv' := [(21, .int (nI (0))), (20, .int (nI (1))), (19, .int (nI (r1))), (13, .int (nI (j))), (15, .int (nI (one))), (16, .int (nI (two))), (17, .int (nI (pl))), (18, .int (nI (0))), (0, .ref b), (1, .ref x), (2, .ref (ar 0)), (3, .ref (ar 1)), (4, .ref (ar 2)), (5, .ref (ar 3)), (6, .ref (ar 4)), (7, .ref (ar 5)), (8, .ref (ar 6)), (9, .ref (ar 7)), (10, .ref (ar 8)), (11, .ref (ar 9))]) X.1 X.2.1 dL_law_708 hl (by decide) rfl (fun ls hl => ?_)
      refine lv_iconst (v := nI (0)) X.1 X.2.1 dL_law_710 (by decide) ?_
      refine lv_istore (lv' := [(22, .int (nI (0))), (21, .int (nI (0))), (20, .int (nI (1))), (19, .int (nI (r1))), (13, .int (nI (j))), (15, .int (nI (one))), (16, .int (nI (two))), (17, .int (nI (pl))), (18, .int (nI (0))), (0, .ref b), (1, .ref x), (2, .ref (ar 0)), (3, .ref (ar 1)), (4, .ref (ar 2)), (5, .ref (ar 3)), (6, .ref (ar 4)), (7, .ref (ar 5)), (8, .ref (ar 6)), (9, .ref (ar 7)), (10, .ref (ar 8)), (11, .ref (ar 9))]) X.1 X.2.1 dL_law_711 hl (by decide) rfl (fun ls hl => ?_)
      have loop : ∀ (n9 : Nat) (j3 : Nat), (N 6 + 1 ≤ j3 + n9) → (j3 ≤ N 6) → ∀ (H : Heap) (locs : List Loc) (ls : Array Slot), qM G (lA s) s x ar (N, F, B) (N, F, B) H locs → lv_has ls 23 [(21, .int (nI (badN F j3))), (22, .int (nI (j3))), (20, .int (nI (1))), (19, .int (nI (r1))), (13, .int (nI (j))), (15, .int (nI (one))), (16, .int (nI (two))), (17, .int (nI (pl))), (18, .int (nI (0))), (0, .ref b), (1, .ref x), (2, .ref (ar 0)), (3, .ref (ar 1)), (4, .ref (ar 2)), (5, .ref (ar 3)), (6, .ref (ar 4)), (7, .ref (ar 5)), (8, .ref (ar 6)), (9, .ref (ar 7)), (10, .ref (ar 8)), (11, .ref (ar 9))] → W p l e room_1 s m #[Value.ref b] below meth c H locs (1000 + 1100 * j) (10000 + 7000 * j) (lw_Z below #[Value.ref b] s) (F0 m 713 ls []) := by
        intro n9
        induction n9 with
        | zero => intro j3 hm9 hj3; exact absurd hm9 (by omega)
        | succ n9 ih_loop =>
          intro j3 hm9 hj3 H locs ls h hl
          have hbl := badN_le F j3
          refine lv_iload X.1 X.2.1 dL_law_713 (lv_at hl 1 rfl) ?_
          refine lv_aload X.1 X.2.1 dL_law_715 (lv_at hl 20 rfl) ?_
          refine lv_iconst (v := nI (2)) X.1 X.2.1 dL_law_717 (by decide) ?_
          refine q_ald X h 9 (by decide) dL_law_718 (i := 2) (v := nI (N 6)) rfl (by show _ < 9; omega) (fun V r => LR.g2 r) ?_
          refine b_icmp_ge (tgt := 750) X dL_law_719 (by decide) (a := ((j3 : Nat) : Int)) (b := ((N 6 : Nat) : Int)) (nI_ti (by omega)) (nI_ti (by omega)) (fun c15 => ?_) (fun c15 => ?_)
          · skip
            have ej : j3 = N 6 := by omega
            subst ej
            have hK9 : kProof N (nI pl) (nI r1) = 1 := kProof_1 (by omega) (by omega) c14
            refine lv_aload_n X.1 X.2.1 dL_law_750 rfl (lv_at hl 10 rfl) ?_
            refine lv_bipush (v := nI (6)) X.1 X.2.1 dL_law_751 (by decide) ?_
            refine lv_iload X.1 X.2.1 dL_law_753 (lv_at hl 7 rfl) ?_
            refine lv_iload X.1 X.2.1 dL_law_755 (lv_at hl 3 rfl) ?_
            refine lv_iconst (v := nI (0)) X.1 X.2.1 dL_law_757 (by decide) ?_
            refine q_callL X hS hZ hN h kcw_L_does kini_L (by decide) kar_L_does kml_L_does kst_L_does dL_law_758 (As := [.ref x, .int (nI (6)), .int (nI (pl)), .int (nI (r1)), .int (nI (0))]) ((c_L_does_proof l G x ar N F B (N, F, B) (nI (pl)) (nI (r1)) (nI (0)) hst hI).k (k := 1) (hK9) (w := (-3000000)) (rfl) (C2 := (N, F, B)) (rfl)) rfl hl rfl (Nat.le_of_ble_eq_true rfl) ⟨Nat.le_of_ble_eq_true rfl, Nat.le_of_ble_eq_true rfl⟩ ⟨show 1000 + 1100 * j + 2 ≤ 733361 by omega, show 10000 + 7000 * j + 12 ≤ 6901384 by omega⟩ ?_
            rintro _ _ _ H locs ⟨rfl, rfl, rfl⟩ h
            refine lv_iload X.1 X.2.1 dL_law_761 (lv_at hl 8 rfl) ?_
            refine b_if_ne (tgt := 771) X dL_law_763 (by decide) (a := ((0 : Nat) : Int)) (nI_ti (by omega)) (fun c16 => ?_) (fun c16 => ?_)
            · skip
              exact absurd c16 (by first | decide | omega)
            · skip
              refine lv_ldc (own := RL) (index := 64) (v := (-3000000)) X.1 X.2.1 X.2.2.2.1 (X.2.2.2.2.1.use kco_L_64) dL_law_766 ?_
              refine lv_goto (tgt := 783) X.1 X.2.1 dL_law_768 (by decide) ?_
              refine b_icmp_ne (tgt := 790) X dL_law_783 (by decide) (a := (-3000000)) (b := (-3000000)) ((by decide)) ((by decide)) (fun c17 => ?_) (fun c17 => ?_)
              · skip
                exact absurd c17 (by first | decide | omega)
              · skip
                refine lv_iconst (v := nI (1)) X.1 X.2.1 dL_law_786 (by decide) ?_
                refine lv_goto (tgt := 791) X.1 X.2.1 dL_law_787 (by decide) ?_
                refine lv_istore (lv' := [(12, .int (nI (1))), (21, .int (nI (badN F (N 6)))), (22, .int (nI (N 6))), (20, .int (nI (1))), (19, .int (nI (r1))), (13, .int (nI (j))), (15, .int (nI (one))), (16, .int (nI (two))), (17, .int (nI (pl))), (18, .int (nI (0))), (0, .ref b), (1, .ref x), (2, .ref (ar 0)), (3, .ref (ar 1)), (4, .ref (ar 2)), (5, .ref (ar 3)), (6, .ref (ar 4)), (7, .ref (ar 5)), (8, .ref (ar 6)), (9, .ref (ar 7)), (10, .ref (ar 8)), (11, .ref (ar 9))]) X.1 X.2.1 dL_law_791 hl (by decide) rfl (fun ls hl => ?_)
                refine lv_goto (tgt := 1241) X.1 X.2.1 dL_law_793 (by decide) ?_
                refine W.widen (k := 1000 + 1100 * j + 40) (n := 10000 + 7000 * j + 400) (show 1000 + 1100 * j + 2 ≤ 1000 + 1100 * j + 40 by omega) (show 10000 + 7000 * j + 12 ≤ 10000 + 7000 * j + 400 by omega) ?_
                exact K N F B _ _ _ (hLI.more) h (lv_sub hl [0, 5, 6, 7, 10, 11, 12, 13, 14, 15, 16, 17, 18, 19, 20, 21] rfl)
          · skip
            refine lv_iload X.1 X.2.1 dL_law_722 (lv_at hl 0 rfl) ?_
            refine lv_aload_n X.1 X.2.1 dL_law_724 rfl (lv_at hl 11 rfl) ?_
            refine lv_aload_n X.1 X.2.1 dL_law_725 rfl (lv_at hl 12 rfl) ?_
            refine lv_aload X.1 X.2.1 dL_law_726 (lv_at hl 13 rfl) ?_
            refine lv_iload X.1 X.2.1 dL_law_728 (lv_at hl 1 rfl) ?_
            refine q_call X hS hZ hN h ck_L_71 kst_L_isGood dL_law_730 (As := [.ref (ar 0), .ref (ar 1), .ref (ar 2), .int (nI (j3))]) (c_L_isGood l G x ar (N, F, B) N F B j3 hI.ih (by omega)) rfl hl rfl (Nat.le_of_ble_eq_true rfl) ⟨Nat.le_of_ble_eq_true rfl, Nat.le_of_ble_eq_true rfl⟩ ⟨show 1000 + 1100 * j + 0 ≤ 733361 by omega, show 10000 + 7000 * j + 0 ≤ 6901384 by omega⟩ ?_
            rintro _ _ _ H locs ⟨rfl, rfl, rfl⟩ h
            refine b_bool_eq (tgt := 740) X dL_law_733 (by decide) (fun c18 => ?_) (fun c18 => ?_)
            · skip
              refine lv_iconst (v := nI (1)) X.1 X.2.1 dL_law_740 (by decide) ?_
              refine lv_iadd X.1 X.2.1 dL_law_741 ?_
              refine lv_top (y := nI (badN F (j3 + 1))) (badN_at (by first | exact badN_t (by assumption) | exact badN_f (by assumption))) ?_
              refine lv_istore (lv' := [(21, .int (nI (badN F (j3 + 1)))), (22, .int (nI (j3))), (20, .int (nI (1))), (19, .int (nI (r1))), (13, .int (nI (j))), (15, .int (nI (one))), (16, .int (nI (two))), (17, .int (nI (pl))), (18, .int (nI (0))), (0, .ref b), (1, .ref x), (2, .ref (ar 0)), (3, .ref (ar 1)), (4, .ref (ar 2)), (5, .ref (ar 3)), (6, .ref (ar 4)), (7, .ref (ar 5)), (8, .ref (ar 6)), (9, .ref (ar 7)), (10, .ref (ar 8)), (11, .ref (ar 9))]) X.1 X.2.1 dL_law_742 hl (by decide) rfl (fun ls hl => ?_)
              refine lv_iinc (v := nI (j3 + 1)) (lv' := [(22, .int (nI (j3 + 1))), (21, .int (nI (badN F (j3 + 1)))), (20, .int (nI (1))), (19, .int (nI (r1))), (13, .int (nI (j))), (15, .int (nI (one))), (16, .int (nI (two))), (17, .int (nI (pl))), (18, .int (nI (0))), (0, .ref b), (1, .ref x), (2, .ref (ar 0)), (3, .ref (ar 1)), (4, .ref (ar 2)), (5, .ref (ar 3)), (6, .ref (ar 4)), (7, .ref (ar 5)), (8, .ref (ar 6)), (9, .ref (ar 7)), (10, .ref (ar 8)), (11, .ref (ar 9))]) X.1 X.2.1 dL_law_744 hl (k := 1) rfl (nI_add (j3) 1) (by decide) rfl (fun ls hl => ?_)
              refine lv_goto (tgt := 713) X.1 X.2.1 dL_law_747 (by decide) ?_
              exact ih_loop (j3 + 1) (by omega) (by omega) _ _ _ h (lv_sub hl [1, 0, 2, 3, 4, 5, 6, 7, 8, 9, 10, 11, 12, 13, 14, 15, 16, 17, 18, 19, 20] rfl)
            · skip
              refine lv_iconst (v := nI (0)) X.1 X.2.1 dL_law_736 (by decide) ?_
              refine lv_goto (tgt := 741) X.1 X.2.1 dL_law_737 (by decide) ?_
              refine lv_iadd X.1 X.2.1 dL_law_741 ?_
              refine lv_top (y := nI (badN F (j3 + 1))) (badN_at (by first | exact badN_t (by assumption) | exact badN_f (by assumption))) ?_
              refine lv_istore (lv' := [(21, .int (nI (badN F (j3 + 1)))), (22, .int (nI (j3))), (20, .int (nI (1))), (19, .int (nI (r1))), (13, .int (nI (j))), (15, .int (nI (one))), (16, .int (nI (two))), (17, .int (nI (pl))), (18, .int (nI (0))), (0, .ref b), (1, .ref x), (2, .ref (ar 0)), (3, .ref (ar 1)), (4, .ref (ar 2)), (5, .ref (ar 3)), (6, .ref (ar 4)), (7, .ref (ar 5)), (8, .ref (ar 6)), (9, .ref (ar 7)), (10, .ref (ar 8)), (11, .ref (ar 9))]) X.1 X.2.1 dL_law_742 hl (by decide) rfl (fun ls hl => ?_)
              refine lv_iinc (v := nI (j3 + 1)) (lv' := [(22, .int (nI (j3 + 1))), (21, .int (nI (badN F (j3 + 1)))), (20, .int (nI (1))), (19, .int (nI (r1))), (13, .int (nI (j))), (15, .int (nI (one))), (16, .int (nI (two))), (17, .int (nI (pl))), (18, .int (nI (0))), (0, .ref b), (1, .ref x), (2, .ref (ar 0)), (3, .ref (ar 1)), (4, .ref (ar 2)), (5, .ref (ar 3)), (6, .ref (ar 4)), (7, .ref (ar 5)), (8, .ref (ar 6)), (9, .ref (ar 7)), (10, .ref (ar 8)), (11, .ref (ar 9))]) X.1 X.2.1 dL_law_744 hl (k := 1) rfl (nI_add (j3) 1) (by decide) rfl (fun ls hl => ?_)
              refine lv_goto (tgt := 713) X.1 X.2.1 dL_law_747 (by decide) ?_
              exact ih_loop (j3 + 1) (by omega) (by omega) _ _ _ h (lv_sub hl [1, 0, 2, 3, 4, 5, 6, 7, 8, 9, 10, 11, 12, 13, 14, 15, 16, 17, 18, 19, 20] rfl)
      exact loop (N 6 + 1) 0 (by omega) (by omega) _ _ _ h (lv_sub hl [1, 0, 2, 3, 4, 5, 6, 7, 8, 9, 10, 11, 12, 13, 14, 15, 16, 17, 18, 19, 20] rfl)
    · skip
      have c14 := of_decide_eq_true c14
      rw [show bI (decide (pl < N 1)) = nI 1 from (bI_t (decide_eq_true c14)).symm] at hl
      refine lv_iload X.1 X.2.1 dL_law_654 (lv_at hl 0 rfl) ?_
      refine b_if_eq (tgt := 707) X dL_law_656 (by decide) (a := ((1 : Nat) : Int)) (nI_ti (by omega)) (fun c19 => ?_) (fun c19 => ?_)
      · skip
        exact absurd c19 (by first | decide | omega)
      · skip
        refine lv_aload_n X.1 X.2.1 dL_law_659 rfl (lv_at hl 9 rfl) ?_
        refine lv_iload X.1 X.2.1 dL_law_660 (lv_at hl 5 rfl) ?_
        have K687 : ∀ (H : Heap) (locs : List Loc) (ls : Array Slot), qM G (lA s) s x ar (N, F, B) (N, F, B) H locs → lv_has ls 23 [(20, .int (nI (1))), (19, .int (nI (r1))), (13, .int (nI (j))), (15, .int (nI (one))), (16, .int (nI (two))), (17, .int (nI (pl))), (18, .int (nI (1))), (0, .ref b), (1, .ref x), (2, .ref (ar 0)), (3, .ref (ar 1)), (4, .ref (ar 2)), (5, .ref (ar 3)), (6, .ref (ar 4)), (7, .ref (ar 5)), (8, .ref (ar 6)), (9, .ref (ar 7)), (10, .ref (ar 8)), (11, .ref (ar 9))] → W p l e room_1 s m #[Value.ref b] below meth c H locs (1000 + 1100 * j) (10000 + 7000 * j) (lw_Z below #[Value.ref b] s) (F0 m 687 ls [.int (nI ((if F 2 pl = 0 ∨ r1 + 1 < F 2 pl then r1 + 1 else F 2 pl)) - 1), .int (nI (pl)), .ref (ar 0)]) := by
          intro  H locs ls h hl
          refine q_ast X h 0 (by decide) dL_law_687 (i := pl) N (fProof F pl r1) B rfl (by show _ < 48; omega) (fun V r => LR.wp r (by omega) (by omega) _) (fun H locs h => ?_)
          refine lv_aload_n X.1 X.2.1 dL_law_688 rfl (lv_at hl 9 rfl) ?_
          refine lv_aload_n X.1 X.2.1 dL_law_689 rfl (lv_at hl 10 rfl) ?_
          refine lv_aload X.1 X.2.1 dL_law_690 (lv_at hl 11 rfl) ?_
          refine lv_aload X.1 X.2.1 dL_law_692 (lv_at hl 12 rfl) ?_
          refine lv_aload X.1 X.2.1 dL_law_694 (lv_at hl 13 rfl) ?_
          refine lv_aload X.1 X.2.1 dL_law_696 (lv_at hl 15 rfl) ?_
          refine lv_aload X.1 X.2.1 dL_law_698 (lv_at hl 16 rfl) ?_
          refine lv_aload X.1 X.2.1 dL_law_700 (lv_at hl 17 rfl) ?_
          refine lv_aload X.1 X.2.1 dL_law_702 (lv_at hl 18 rfl) ?_
          refine q_call X hS hZ hN h ck_L_121 kst_L_looks dL_law_704 (As := [.ref (ar 0), .ref (ar 1), .ref (ar 2), .ref (ar 3), .ref (ar 4), .ref (ar 6), .ref (ar 7), .ref (ar 8), .ref (ar 9)]) (c_L_looks l G x ar (N, F, B) N (fProof F pl r1) B (hI.pf pl r1 (by omega))) rfl hl rfl (Nat.le_of_ble_eq_true rfl) ⟨Nat.le_of_ble_eq_true rfl, Nat.le_of_ble_eq_true rfl⟩ ⟨show 1000 + 1100 * j + 0 ≤ 733361 by omega, show 10000 + 7000 * j + 0 ≤ 6901384 by omega⟩ ?_
          rintro _ _ _ H locs ⟨rfl, rfl, rfl⟩ h
          have hi2 : Ih N (lookS N (fProof F pl r1) B (N 13)).1 := Ih.look (hI.pf pl r1 (by omega)).ih _
          have hbad : badN (lookS N (fProof F pl r1) B (N 13)).1 = badN (fProof F pl r1) := badN_look _ _ _ _
          obtain ⟨F2, eF⟩ : ∃ F2, (lookS N (fProof F pl r1) B (N 13)).1 = F2 := ⟨_, rfl⟩
          obtain ⟨B2, eB⟩ : ∃ B2, (lookS N (fProof F pl r1) B (N 13)).2 = B2 := ⟨_, rfl⟩
          rw [eF, eB] at h
          rw [eF] at hi2 hbad
          refine lv_iconst (v := nI (0)) X.1 X.2.1 dL_law_707 (by decide) ?_
          refine lv_istore (lv' := [(21, .int (nI (0))), (20, .int (nI (1))), (19, .int (nI (r1))), (13, .int (nI (j))), (15, .int (nI (one))), (16, .int (nI (two))), (17, .int (nI (pl))), (18, .int (nI (1))), (0, .ref b), (1, .ref x), (2, .ref (ar 0)), (3, .ref (ar 1)), (4, .ref (ar 2)), (5, .ref (ar 3)), (6, .ref (ar 4)), (7, .ref (ar 5)), (8, .ref (ar 6)), (9, .ref (ar 7)), (10, .ref (ar 8)), (11, .ref (ar 9))]) X.1 X.2.1 dL_law_708 hl (by decide) rfl (fun ls hl => ?_)
          refine lv_iconst (v := nI (0)) X.1 X.2.1 dL_law_710 (by decide) ?_
          refine lv_istore (lv' := [(22, .int (nI (0))), (21, .int (nI (0))), (20, .int (nI (1))), (19, .int (nI (r1))), (13, .int (nI (j))), (15, .int (nI (one))), (16, .int (nI (two))), (17, .int (nI (pl))), (18, .int (nI (1))), (0, .ref b), (1, .ref x), (2, .ref (ar 0)), (3, .ref (ar 1)), (4, .ref (ar 2)), (5, .ref (ar 3)), (6, .ref (ar 4)), (7, .ref (ar 5)), (8, .ref (ar 6)), (9, .ref (ar 7)), (10, .ref (ar 8)), (11, .ref (ar 9))]) X.1 X.2.1 dL_law_711 hl (by decide) rfl (fun ls hl => ?_)
          have loop : ∀ (n9 : Nat) (j3 : Nat), (N 6 + 1 ≤ j3 + n9) → (j3 ≤ N 6) → ∀ (H : Heap) (locs : List Loc) (ls : Array Slot), qM G (lA s) s x ar (N, F, B) (N, F2, B2) H locs → lv_has ls 23 [(21, .int (nI (badN F2 j3))), (22, .int (nI (j3))), (20, .int (nI (1))), (19, .int (nI (r1))), (13, .int (nI (j))), (15, .int (nI (one))), (16, .int (nI (two))), (17, .int (nI (pl))), (18, .int (nI (1))), (0, .ref b), (1, .ref x), (2, .ref (ar 0)), (3, .ref (ar 1)), (4, .ref (ar 2)), (5, .ref (ar 3)), (6, .ref (ar 4)), (7, .ref (ar 5)), (8, .ref (ar 6)), (9, .ref (ar 7)), (10, .ref (ar 8)), (11, .ref (ar 9))] → W p l e room_1 s m #[Value.ref b] below meth c H locs (1000 + 1100 * j) (10000 + 7000 * j) (lw_Z below #[Value.ref b] s) (F0 m 713 ls []) := by
            intro n9
            induction n9 with
            | zero => intro j3 hm9 hj3; exact absurd hm9 (by omega)
            | succ n9 ih_loop =>
              intro j3 hm9 hj3 H locs ls h hl
              have hbl := badN_le F2 j3
              refine lv_iload X.1 X.2.1 dL_law_713 (lv_at hl 1 rfl) ?_
              refine lv_aload X.1 X.2.1 dL_law_715 (lv_at hl 20 rfl) ?_
              refine lv_iconst (v := nI (2)) X.1 X.2.1 dL_law_717 (by decide) ?_
              refine q_ald X h 9 (by decide) dL_law_718 (i := 2) (v := nI (N 6)) rfl (by show _ < 9; omega) (fun V r => LR.g2 r) ?_
              refine b_icmp_ge (tgt := 750) X dL_law_719 (by decide) (a := ((j3 : Nat) : Int)) (b := ((N 6 : Nat) : Int)) (nI_ti (by omega)) (nI_ti (by omega)) (fun c20 => ?_) (fun c20 => ?_)
              · skip
                have ej : j3 = N 6 := by omega
                subst ej
                have hK9 : kProof N (nI pl) (nI r1) = 0 := by rw [kProof_v (by omega) (by omega) (by omega), if_pos (by omega)]
                refine lv_aload_n X.1 X.2.1 dL_law_750 rfl (lv_at hl 10 rfl) ?_
                refine lv_bipush (v := nI (6)) X.1 X.2.1 dL_law_751 (by decide) ?_
                refine lv_iload X.1 X.2.1 dL_law_753 (lv_at hl 7 rfl) ?_
                refine lv_iload X.1 X.2.1 dL_law_755 (lv_at hl 3 rfl) ?_
                refine lv_iconst (v := nI (0)) X.1 X.2.1 dL_law_757 (by decide) ?_
                refine q_callL X hS hZ hN h kcw_L_does kini_L (by decide) kar_L_does kml_L_does kst_L_does dL_law_758 (As := [.ref x, .int (nI (6)), .int (nI (pl)), .int (nI (r1)), .int (nI (0))]) ((c_L_does_proof l G x ar N F B (N, F2, B2) (nI (pl)) (nI (r1)) (nI (0)) hst hI).k (k := 0) (hK9) (w := nI (badN F2 (N 6))) (by show nI (badN (fProof F (ix (nI pl)) (ix (nI r1))) (N 6)) = nI (badN F2 (N 6)); rw [ix_nI (by omega), ix_nI (by omega), hbad]) (C2 := (N, F2, B2)) (by rw [ix_nI (by omega), ix_nI (by omega), eF, eB]; rfl)) rfl hl rfl (Nat.le_of_ble_eq_true rfl) ⟨Nat.le_of_ble_eq_true rfl, Nat.le_of_ble_eq_true rfl⟩ ⟨show 1000 + 1100 * j + 2 ≤ 733361 by omega, show 10000 + 7000 * j + 12 ≤ 6901384 by omega⟩ ?_
                rintro _ _ _ H locs ⟨rfl, rfl, rfl⟩ h
                refine lv_iload X.1 X.2.1 dL_law_761 (lv_at hl 8 rfl) ?_
                refine b_if_ne (tgt := 771) X dL_law_763 (by decide) (a := ((1 : Nat) : Int)) (nI_ti (by omega)) (fun c21 => ?_) (fun c21 => ?_)
                · skip
                  refine lv_iload X.1 X.2.1 dL_law_771 (lv_at hl 2 rfl) ?_
                  refine b_if_eq (tgt := 781) X dL_law_773 (by decide) (a := ((1 : Nat) : Int)) (nI_ti (by omega)) (fun c22 => ?_) (fun c22 => ?_)
                  · skip
                    exact absurd c22 (by first | decide | omega)
                  · skip
                    refine lv_iload X.1 X.2.1 dL_law_776 (lv_at hl 0 rfl) ?_
                    refine lv_goto (tgt := 783) X.1 X.2.1 dL_law_778 (by decide) ?_
                    refine b_icmp_ne (tgt := 790) X dL_law_783 (by decide) (a := ((badN F2 (N 6) : Nat) : Int)) (b := ((badN F2 (N 6) : Nat) : Int)) (nI_ti (by omega)) (nI_ti (by omega)) (fun c23 => ?_) (fun c23 => ?_)
                    · skip
                      exact absurd c23 (by first | decide | omega)
                    · skip
                      refine lv_iconst (v := nI (1)) X.1 X.2.1 dL_law_786 (by decide) ?_
                      refine lv_goto (tgt := 791) X.1 X.2.1 dL_law_787 (by decide) ?_
                      refine lv_istore (lv' := [(12, .int (nI (1))), (21, .int (nI (badN F2 (N 6)))), (22, .int (nI (N 6))), (20, .int (nI (1))), (19, .int (nI (r1))), (13, .int (nI (j))), (15, .int (nI (one))), (16, .int (nI (two))), (17, .int (nI (pl))), (18, .int (nI (1))), (0, .ref b), (1, .ref x), (2, .ref (ar 0)), (3, .ref (ar 1)), (4, .ref (ar 2)), (5, .ref (ar 3)), (6, .ref (ar 4)), (7, .ref (ar 5)), (8, .ref (ar 6)), (9, .ref (ar 7)), (10, .ref (ar 8)), (11, .ref (ar 9))]) X.1 X.2.1 dL_law_791 hl (by decide) rfl (fun ls hl => ?_)
                      refine lv_goto (tgt := 1241) X.1 X.2.1 dL_law_793 (by decide) ?_
                      refine W.widen (k := 1000 + 1100 * j + 40) (n := 10000 + 7000 * j + 400) (show 1000 + 1100 * j + 2 ≤ 1000 + 1100 * j + 40 by omega) (show 10000 + 7000 * j + 12 ≤ 10000 + 7000 * j + 400 by omega) ?_
                      exact K N F2 B2 _ _ _ (by have z9 := stp_proof hLI hK9; rw [ix_nI (by omega), ix_nI (by omega), eF, eB] at z9; exact z9) h (lv_sub hl [0, 5, 6, 7, 10, 11, 12, 13, 14, 15, 16, 17, 18, 19, 20, 21] rfl)
                · skip
                  exact absurd c21 (by first | decide | omega)
              · skip
                refine lv_iload X.1 X.2.1 dL_law_722 (lv_at hl 0 rfl) ?_
                refine lv_aload_n X.1 X.2.1 dL_law_724 rfl (lv_at hl 11 rfl) ?_
                refine lv_aload_n X.1 X.2.1 dL_law_725 rfl (lv_at hl 12 rfl) ?_
                refine lv_aload X.1 X.2.1 dL_law_726 (lv_at hl 13 rfl) ?_
                refine lv_iload X.1 X.2.1 dL_law_728 (lv_at hl 1 rfl) ?_
                refine q_call X hS hZ hN h ck_L_71 kst_L_isGood dL_law_730 (As := [.ref (ar 0), .ref (ar 1), .ref (ar 2), .int (nI (j3))]) (c_L_isGood l G x ar (N, F, B) N F2 B2 j3 hi2 (by omega)) rfl hl rfl (Nat.le_of_ble_eq_true rfl) ⟨Nat.le_of_ble_eq_true rfl, Nat.le_of_ble_eq_true rfl⟩ ⟨show 1000 + 1100 * j + 0 ≤ 733361 by omega, show 10000 + 7000 * j + 0 ≤ 6901384 by omega⟩ ?_
                rintro _ _ _ H locs ⟨rfl, rfl, rfl⟩ h
                refine b_bool_eq (tgt := 740) X dL_law_733 (by decide) (fun c24 => ?_) (fun c24 => ?_)
                · skip
                  refine lv_iconst (v := nI (1)) X.1 X.2.1 dL_law_740 (by decide) ?_
                  refine lv_iadd X.1 X.2.1 dL_law_741 ?_
                  refine lv_top (y := nI (badN F2 (j3 + 1))) (badN_at (by first | exact badN_t (by assumption) | exact badN_f (by assumption))) ?_
                  refine lv_istore (lv' := [(21, .int (nI (badN F2 (j3 + 1)))), (22, .int (nI (j3))), (20, .int (nI (1))), (19, .int (nI (r1))), (13, .int (nI (j))), (15, .int (nI (one))), (16, .int (nI (two))), (17, .int (nI (pl))), (18, .int (nI (1))), (0, .ref b), (1, .ref x), (2, .ref (ar 0)), (3, .ref (ar 1)), (4, .ref (ar 2)), (5, .ref (ar 3)), (6, .ref (ar 4)), (7, .ref (ar 5)), (8, .ref (ar 6)), (9, .ref (ar 7)), (10, .ref (ar 8)), (11, .ref (ar 9))]) X.1 X.2.1 dL_law_742 hl (by decide) rfl (fun ls hl => ?_)
                  refine lv_iinc (v := nI (j3 + 1)) (lv' := [(22, .int (nI (j3 + 1))), (21, .int (nI (badN F2 (j3 + 1)))), (20, .int (nI (1))), (19, .int (nI (r1))), (13, .int (nI (j))), (15, .int (nI (one))), (16, .int (nI (two))), (17, .int (nI (pl))), (18, .int (nI (1))), (0, .ref b), (1, .ref x), (2, .ref (ar 0)), (3, .ref (ar 1)), (4, .ref (ar 2)), (5, .ref (ar 3)), (6, .ref (ar 4)), (7, .ref (ar 5)), (8, .ref (ar 6)), (9, .ref (ar 7)), (10, .ref (ar 8)), (11, .ref (ar 9))]) X.1 X.2.1 dL_law_744 hl (k := 1) rfl (nI_add (j3) 1) (by decide) rfl (fun ls hl => ?_)
                  refine lv_goto (tgt := 713) X.1 X.2.1 dL_law_747 (by decide) ?_
                  exact ih_loop (j3 + 1) (by omega) (by omega) _ _ _ h (lv_sub hl [1, 0, 2, 3, 4, 5, 6, 7, 8, 9, 10, 11, 12, 13, 14, 15, 16, 17, 18, 19, 20] rfl)
                · skip
                  refine lv_iconst (v := nI (0)) X.1 X.2.1 dL_law_736 (by decide) ?_
                  refine lv_goto (tgt := 741) X.1 X.2.1 dL_law_737 (by decide) ?_
                  refine lv_iadd X.1 X.2.1 dL_law_741 ?_
                  refine lv_top (y := nI (badN F2 (j3 + 1))) (badN_at (by first | exact badN_t (by assumption) | exact badN_f (by assumption))) ?_
                  refine lv_istore (lv' := [(21, .int (nI (badN F2 (j3 + 1)))), (22, .int (nI (j3))), (20, .int (nI (1))), (19, .int (nI (r1))), (13, .int (nI (j))), (15, .int (nI (one))), (16, .int (nI (two))), (17, .int (nI (pl))), (18, .int (nI (1))), (0, .ref b), (1, .ref x), (2, .ref (ar 0)), (3, .ref (ar 1)), (4, .ref (ar 2)), (5, .ref (ar 3)), (6, .ref (ar 4)), (7, .ref (ar 5)), (8, .ref (ar 6)), (9, .ref (ar 7)), (10, .ref (ar 8)), (11, .ref (ar 9))]) X.1 X.2.1 dL_law_742 hl (by decide) rfl (fun ls hl => ?_)
                  refine lv_iinc (v := nI (j3 + 1)) (lv' := [(22, .int (nI (j3 + 1))), (21, .int (nI (badN F2 (j3 + 1)))), (20, .int (nI (1))), (19, .int (nI (r1))), (13, .int (nI (j))), (15, .int (nI (one))), (16, .int (nI (two))), (17, .int (nI (pl))), (18, .int (nI (1))), (0, .ref b), (1, .ref x), (2, .ref (ar 0)), (3, .ref (ar 1)), (4, .ref (ar 2)), (5, .ref (ar 3)), (6, .ref (ar 4)), (7, .ref (ar 5)), (8, .ref (ar 6)), (9, .ref (ar 7)), (10, .ref (ar 8)), (11, .ref (ar 9))]) X.1 X.2.1 dL_law_744 hl (k := 1) rfl (nI_add (j3) 1) (by decide) rfl (fun ls hl => ?_)
                  refine lv_goto (tgt := 713) X.1 X.2.1 dL_law_747 (by decide) ?_
                  exact ih_loop (j3 + 1) (by omega) (by omega) _ _ _ h (lv_sub hl [1, 0, 2, 3, 4, 5, 6, 7, 8, 9, 10, 11, 12, 13, 14, 15, 16, 17, 18, 19, 20] rfl)
          exact loop (N 6 + 1) 0 (by omega) (by omega) _ _ _ h (lv_sub hl [1, 0, 2, 3, 4, 5, 6, 7, 8, 9, 10, 11, 12, 13, 14, 15, 16, 17, 18, 19, 20] rfl)
        refine lv_aload_n X.1 X.2.1 dL_law_662 rfl (lv_at hl 9 rfl) ?_
        refine lv_iload X.1 X.2.1 dL_law_663 (lv_at hl 5 rfl) ?_
        refine q_ald X h 0 (by decide) dL_law_665 (i := pl) (v := nI (F 2 (pl)) - 1) rfl (by show _ < 48; omega) (fun V r => LR.p0 r (by omega)) ?_
        have b25 := hI.p (pl)
        refine b_if_lt (tgt := 678) X dL_law_666 (by decide) (a := ((F 2 (pl) : Nat) : Int) - 1) (eI_ti (by omega)) (fun c26 => ?_) (fun c26 => ?_)
        · skip
          refine lv_iload X.1 X.2.1 dL_law_678 (lv_at hl 1 rfl) ?_
          refine lv_goto (tgt := 687) X.1 X.2.1 dL_law_680 (by decide) ?_
          refine lv_top (y := nI ((if F 2 pl = 0 ∨ r1 + 1 < F 2 pl then r1 + 1 else F 2 pl)) - 1) (by rw [if_pos (by omega)]; exact eI_suc _) ?_
          exact K687   _ _ _ h (lv_sub hl [0, 1, 2, 3, 4, 5, 6, 7, 8, 9, 10, 11, 12, 13, 14, 15, 16, 17, 18] rfl)
        · skip
          refine lv_iload X.1 X.2.1 dL_law_669 (lv_at hl 1 rfl) ?_
          refine lv_aload_n X.1 X.2.1 dL_law_671 rfl (lv_at hl 9 rfl) ?_
          refine lv_iload X.1 X.2.1 dL_law_672 (lv_at hl 5 rfl) ?_
          refine q_ald X h 0 (by decide) dL_law_674 (i := pl) (v := nI (F 2 (pl)) - 1) rfl (by show _ < 48; omega) (fun V r => LR.p0 r (by omega)) ?_
          have b27 := hI.p (pl)
          refine b_icmp_ge (tgt := 683) X dL_law_675 (by decide) (a := ((r1 : Nat) : Int)) (b := ((F 2 (pl) : Nat) : Int) - 1) (nI_ti (by omega)) (eI_ti (by omega)) (fun c28 => ?_) (fun c28 => ?_)
          · skip
            refine lv_aload_n X.1 X.2.1 dL_law_683 rfl (lv_at hl 9 rfl) ?_
            refine lv_iload X.1 X.2.1 dL_law_684 (lv_at hl 5 rfl) ?_
            refine q_ald X h 0 (by decide) dL_law_686 (i := pl) (v := nI (F 2 (pl)) - 1) rfl (by show _ < 48; omega) (fun V r => LR.p0 r (by omega)) ?_
            have b29 := hI.p (pl)
            refine lv_top (y := nI ((if F 2 pl = 0 ∨ r1 + 1 < F 2 pl then r1 + 1 else F 2 pl)) - 1) (by rw [if_neg (by omega)]) ?_
            exact K687   _ _ _ h (lv_sub hl [0, 1, 2, 3, 4, 5, 6, 7, 8, 9, 10, 11, 12, 13, 14, 15, 16, 17, 18] rfl)
          · skip
            refine lv_iload X.1 X.2.1 dL_law_678 (lv_at hl 1 rfl) ?_
            refine lv_goto (tgt := 687) X.1 X.2.1 dL_law_680 (by decide) ?_
            refine lv_top (y := nI ((if F 2 pl = 0 ∨ r1 + 1 < F 2 pl then r1 + 1 else F 2 pl)) - 1) (by rw [if_pos (by omega)]; exact eI_suc _) ?_
            exact K687   _ _ _ h (lv_sub hl [0, 1, 2, 3, 4, 5, 6, 7, 8, 9, 10, 11, 12, 13, 14, 15, 16, 17, 18] rfl)
set_option maxHeartbeats 4000000 in
set_option maxRecDepth 100000 in
theorem law_clear {p : Program} {l : Launch} {e : Env} {s : State} {m : MethodId} {below : List Frame} {meth : Method} {c : Code} {H : Heap} {locs : List Loc} {ls : Array Slot} {G : mG} {x : Nat} {ar : Nat → Nat} {j b one two : Nat} {N : Nat → Nat} {F : Nat → Nat → Nat} {B : Nat → Int32} {pl : Nat} (X : Cx p c s m cL_law RL 23 G) (hS : XS s) (hZ : XZ G (lA s) s s.heap) (hN : NC s) (hst : l.stackTraces = false) (hLI : LI j N F B) (hjj : j < 64) (hone : one < 60000) (htwo : two < 60000) (hpl : pl < N 1 + 1) (h : qM G (lA s) s x ar (N, F, B) (N, F, B) H locs) (hl : lv_has ls 23 [(13, .int (nI (j))), (15, .int (nI (one))), (16, .int (nI (two))), (17, .int (nI (pl))), (18, .int (bI (decide (pl < N 1)))), (0, .ref b), (1, .ref x), (2, .ref (ar 0)), (3, .ref (ar 1)), (4, .ref (ar 2)), (5, .ref (ar 3)), (6, .ref (ar 4)), (7, .ref (ar 5)), (8, .ref (ar 6)), (9, .ref (ar 7)), (10, .ref (ar 8)), (11, .ref (ar 9))]) (K : LK p l e s m below meth c G x ar j b one two) : W p l e room_1 s m #[Value.ref b] below meth c H locs (1000 + 1100 * j) (10000 + 7000 * j) (lw_Z below #[Value.ref b] s) (F0 m 803 ls []) := by
  have hI := hLI.1
  have hJ := hLI.2.1
  have hn := hI.n
  have h6 := qM.n6 h
  refine lv_iload X.1 X.2.1 dL_law_803 (lv_at hl 4 rfl) ?_
  refine b_bool_eq (tgt := 815) X dL_law_805 (by decide) (fun c1 => ?_) (fun c1 => ?_)
  · skip
    have c1 := of_decide_eq_false c1
    rw [show bI (decide (pl < N 1)) = nI 0 from (bI_f (decide_eq_false c1)).symm] at hl
    refine lv_iconst (v := nI (0) - 1) X.1 X.2.1 dL_law_815 (by decide) ?_
    refine lv_istore (lv' := [(19, .int (nI (0) - 1)), (13, .int (nI (j))), (15, .int (nI (one))), (16, .int (nI (two))), (17, .int (nI (pl))), (18, .int (nI (0))), (0, .ref b), (1, .ref x), (2, .ref (ar 0)), (3, .ref (ar 1)), (4, .ref (ar 2)), (5, .ref (ar 3)), (6, .ref (ar 4)), (7, .ref (ar 5)), (8, .ref (ar 6)), (9, .ref (ar 7)), (10, .ref (ar 8)), (11, .ref (ar 9))]) X.1 X.2.1 dL_law_816 hl (by decide) rfl (fun ls hl => ?_)
    refine lv_iload X.1 X.2.1 dL_law_818 (lv_at hl 0 rfl) ?_
    refine b_if_lt (tgt := 847) X dL_law_820 (by decide) (a := ((0 : Nat) : Int) - 1) (eI_ti (by omega)) (fun c2 => ?_) (fun c2 => ?_)
    · skip
      have hK9 : kClear N F (nI pl) = 1 := kClear_1 (by omega) (by omega) c1
      refine lv_aload_n X.1 X.2.1 dL_law_847 rfl (lv_at hl 7 rfl) ?_
      refine lv_bipush (v := nI (7)) X.1 X.2.1 dL_law_848 (by decide) ?_
      refine lv_iload X.1 X.2.1 dL_law_850 (lv_at hl 4 rfl) ?_
      refine lv_iconst (v := nI (0)) X.1 X.2.1 dL_law_852 (by decide) ?_
      refine lv_iconst (v := nI (0)) X.1 X.2.1 dL_law_853 (by decide) ?_
      refine q_callL X hS hZ hN h kcw_L_does kini_L (by decide) kar_L_does kml_L_does kst_L_does dL_law_854 (As := [.ref x, .int (nI (7)), .int (nI (pl)), .int (nI (0)), .int (nI (0))]) ((c_L_does_clear l G x ar N F B (N, F, B) (nI (pl)) (nI (0)) (nI (0)) hst hI).k (k := 1) (hK9) (w := (-3000000)) (rfl) (C2 := (N, F, B)) (rfl)) rfl hl rfl (Nat.le_of_ble_eq_true rfl) ⟨Nat.le_of_ble_eq_true rfl, Nat.le_of_ble_eq_true rfl⟩ ⟨show 1000 + 1100 * j + 2 ≤ 733361 by omega, show 10000 + 7000 * j + 12 ≤ 6901384 by omega⟩ ?_
      rintro _ _ _ H locs ⟨rfl, rfl, rfl⟩ h
      refine lv_iload X.1 X.2.1 dL_law_857 (lv_at hl 5 rfl) ?_
      refine b_if_ne (tgt := 867) X dL_law_859 (by decide) (a := ((0 : Nat) : Int)) (nI_ti (by omega)) (fun c3 => ?_) (fun c3 => ?_)
      · skip
        exact absurd c3 (by first | decide | omega)
      · skip
        refine lv_ldc (own := RL) (index := 64) (v := (-3000000)) X.1 X.2.1 X.2.2.2.1 (X.2.2.2.2.1.use kco_L_64) dL_law_862 ?_
        refine lv_goto (tgt := 879) X.1 X.2.1 dL_law_864 (by decide) ?_
        refine b_icmp_ne (tgt := 886) X dL_law_879 (by decide) (a := (-3000000)) (b := (-3000000)) ((by decide)) ((by decide)) (fun c4 => ?_) (fun c4 => ?_)
        · skip
          exact absurd c4 (by first | decide | omega)
        · skip
          refine lv_iconst (v := nI (1)) X.1 X.2.1 dL_law_882 (by decide) ?_
          refine lv_goto (tgt := 887) X.1 X.2.1 dL_law_883 (by decide) ?_
          refine lv_istore (lv' := [(12, .int (nI (1))), (19, .int (nI (0) - 1)), (13, .int (nI (j))), (15, .int (nI (one))), (16, .int (nI (two))), (17, .int (nI (pl))), (18, .int (nI (0))), (0, .ref b), (1, .ref x), (2, .ref (ar 0)), (3, .ref (ar 1)), (4, .ref (ar 2)), (5, .ref (ar 3)), (6, .ref (ar 4)), (7, .ref (ar 5)), (8, .ref (ar 6)), (9, .ref (ar 7)), (10, .ref (ar 8)), (11, .ref (ar 9))]) X.1 X.2.1 dL_law_887 hl (by decide) rfl (fun ls hl => ?_)
          refine lv_goto (tgt := 1241) X.1 X.2.1 dL_law_889 (by decide) ?_
          refine W.widen (k := 1000 + 1100 * j + 40) (n := 10000 + 7000 * j + 400) (show 1000 + 1100 * j + 2 ≤ 1000 + 1100 * j + 40 by omega) (show 10000 + 7000 * j + 12 ≤ 10000 + 7000 * j + 400 by omega) ?_
          exact K N F B _ _ _ (hLI.more) h (lv_sub hl [0, 2, 3, 4, 7, 8, 9, 10, 11, 12, 13, 14, 15, 16, 17, 18] rfl)
    · skip
      exact absurd c2 (by first | decide | omega)
  · skip
    have c1 := of_decide_eq_true c1
    rw [show bI (decide (pl < N 1)) = nI 1 from (bI_t (decide_eq_true c1)).symm] at hl
    refine lv_aload_n X.1 X.2.1 dL_law_808 rfl (lv_at hl 7 rfl) ?_
    refine lv_iload X.1 X.2.1 dL_law_809 (lv_at hl 3 rfl) ?_
    refine q_ald X h 0 (by decide) dL_law_811 (i := pl) (v := nI (F 2 (pl)) - 1) rfl (by show _ < 48; omega) (fun V r => LR.p0 r (by omega)) ?_
    have b5 := hI.p (pl)
    refine lv_goto (tgt := 816) X.1 X.2.1 dL_law_812 (by decide) ?_
    refine lv_istore (lv' := [(19, .int (nI (F 2 (pl)) - 1)), (13, .int (nI (j))), (15, .int (nI (one))), (16, .int (nI (two))), (17, .int (nI (pl))), (18, .int (nI (1))), (0, .ref b), (1, .ref x), (2, .ref (ar 0)), (3, .ref (ar 1)), (4, .ref (ar 2)), (5, .ref (ar 3)), (6, .ref (ar 4)), (7, .ref (ar 5)), (8, .ref (ar 6)), (9, .ref (ar 7)), (10, .ref (ar 8)), (11, .ref (ar 9))]) X.1 X.2.1 dL_law_816 hl (by decide) rfl (fun ls hl => ?_)
    refine lv_iload X.1 X.2.1 dL_law_818 (lv_at hl 0 rfl) ?_
    refine b_if_lt (tgt := 847) X dL_law_820 (by decide) (a := ((F 2 (pl) : Nat) : Int) - 1) (eI_ti (by omega)) (fun c6 => ?_) (fun c6 => ?_)
    · skip
      have hK9 : kClear N F (nI pl) = 2 := by rw [kClear_v (by omega) (by omega), if_pos (by omega)]
      refine lv_aload_n X.1 X.2.1 dL_law_847 rfl (lv_at hl 7 rfl) ?_
      refine lv_bipush (v := nI (7)) X.1 X.2.1 dL_law_848 (by decide) ?_
      refine lv_iload X.1 X.2.1 dL_law_850 (lv_at hl 4 rfl) ?_
      refine lv_iconst (v := nI (0)) X.1 X.2.1 dL_law_852 (by decide) ?_
      refine lv_iconst (v := nI (0)) X.1 X.2.1 dL_law_853 (by decide) ?_
      refine q_callL X hS hZ hN h kcw_L_does kini_L (by decide) kar_L_does kml_L_does kst_L_does dL_law_854 (As := [.ref x, .int (nI (7)), .int (nI (pl)), .int (nI (0)), .int (nI (0))]) ((c_L_does_clear l G x ar N F B (N, F, B) (nI (pl)) (nI (0)) (nI (0)) hst hI).k (k := 2) (hK9) (w := (-1000000)) (rfl) (C2 := (N, F, B)) (rfl)) rfl hl rfl (Nat.le_of_ble_eq_true rfl) ⟨Nat.le_of_ble_eq_true rfl, Nat.le_of_ble_eq_true rfl⟩ ⟨show 1000 + 1100 * j + 2 ≤ 733361 by omega, show 10000 + 7000 * j + 12 ≤ 6901384 by omega⟩ ?_
      rintro _ _ _ H locs ⟨rfl, rfl, rfl⟩ h
      refine lv_iload X.1 X.2.1 dL_law_857 (lv_at hl 5 rfl) ?_
      refine b_if_ne (tgt := 867) X dL_law_859 (by decide) (a := ((1 : Nat) : Int)) (nI_ti (by omega)) (fun c7 => ?_) (fun c7 => ?_)
      · skip
        refine lv_iload X.1 X.2.1 dL_law_867 (lv_at hl 0 rfl) ?_
        refine b_if_ge (tgt := 877) X dL_law_869 (by decide) (a := ((F 2 (pl) : Nat) : Int) - 1) (eI_ti (by omega)) (fun c8 => ?_) (fun c8 => ?_)
        · skip
          exact absurd c8 (by omega)
        · skip
          refine lv_ldc (own := RL) (index := 70) (v := (-1000000)) X.1 X.2.1 X.2.2.2.1 (X.2.2.2.2.1.use kco_L_70) dL_law_872 ?_
          refine lv_goto (tgt := 879) X.1 X.2.1 dL_law_874 (by decide) ?_
          refine b_icmp_ne (tgt := 886) X dL_law_879 (by decide) (a := (-1000000)) (b := (-1000000)) ((by decide)) ((by decide)) (fun c9 => ?_) (fun c9 => ?_)
          · skip
            exact absurd c9 (by first | decide | omega)
          · skip
            refine lv_iconst (v := nI (1)) X.1 X.2.1 dL_law_882 (by decide) ?_
            refine lv_goto (tgt := 887) X.1 X.2.1 dL_law_883 (by decide) ?_
            refine lv_istore (lv' := [(12, .int (nI (1))), (19, .int (nI (F 2 (pl)) - 1)), (13, .int (nI (j))), (15, .int (nI (one))), (16, .int (nI (two))), (17, .int (nI (pl))), (18, .int (nI (1))), (0, .ref b), (1, .ref x), (2, .ref (ar 0)), (3, .ref (ar 1)), (4, .ref (ar 2)), (5, .ref (ar 3)), (6, .ref (ar 4)), (7, .ref (ar 5)), (8, .ref (ar 6)), (9, .ref (ar 7)), (10, .ref (ar 8)), (11, .ref (ar 9))]) X.1 X.2.1 dL_law_887 hl (by decide) rfl (fun ls hl => ?_)
            refine lv_goto (tgt := 1241) X.1 X.2.1 dL_law_889 (by decide) ?_
            refine W.widen (k := 1000 + 1100 * j + 40) (n := 10000 + 7000 * j + 400) (show 1000 + 1100 * j + 2 ≤ 1000 + 1100 * j + 40 by omega) (show 10000 + 7000 * j + 12 ≤ 10000 + 7000 * j + 400 by omega) ?_
            exact K N F B _ _ _ (hLI.more) h (lv_sub hl [0, 2, 3, 4, 7, 8, 9, 10, 11, 12, 13, 14, 15, 16, 17, 18] rfl)
      · skip
        exact absurd c7 (by first | decide | omega)
    · skip
      refine lv_aload_n X.1 X.2.1 dL_law_823 rfl (lv_at hl 8 rfl) ?_
      refine lv_iload X.1 X.2.1 dL_law_824 (lv_at hl 4 rfl) ?_
      refine lv_iconst (v := nI (0) - 1) X.1 X.2.1 dL_law_826 (by decide) ?_
      refine q_ast X h 0 (by decide) dL_law_827 (i := pl) N (set1 F 2 pl 0) B rfl (by show _ < 48; omega) (fun V r => LR.wp r (by omega) (by omega) _) (fun H locs h => ?_)
      refine lv_aload_n X.1 X.2.1 dL_law_828 rfl (lv_at hl 8 rfl) ?_
      refine lv_aload_n X.1 X.2.1 dL_law_829 rfl (lv_at hl 9 rfl) ?_
      refine lv_aload X.1 X.2.1 dL_law_830 (lv_at hl 10 rfl) ?_
      refine lv_aload X.1 X.2.1 dL_law_832 (lv_at hl 11 rfl) ?_
      refine lv_aload X.1 X.2.1 dL_law_834 (lv_at hl 12 rfl) ?_
      refine lv_aload X.1 X.2.1 dL_law_836 (lv_at hl 14 rfl) ?_
      refine lv_aload X.1 X.2.1 dL_law_838 (lv_at hl 15 rfl) ?_
      refine lv_aload X.1 X.2.1 dL_law_840 (lv_at hl 16 rfl) ?_
      refine lv_aload X.1 X.2.1 dL_law_842 (lv_at hl 17 rfl) ?_
      refine q_call X hS hZ hN h ck_L_121 kst_L_looks dL_law_844 (As := [.ref (ar 0), .ref (ar 1), .ref (ar 2), .ref (ar 3), .ref (ar 4), .ref (ar 6), .ref (ar 7), .ref (ar 8), .ref (ar 9)]) (c_L_looks l G x ar (N, F, B) N (set1 F 2 pl 0) B (hI.set2 pl 0 (by omega))) rfl hl rfl (Nat.le_of_ble_eq_true rfl) ⟨Nat.le_of_ble_eq_true rfl, Nat.le_of_ble_eq_true rfl⟩ ⟨show 1000 + 1100 * j + 0 ≤ 733361 by omega, show 10000 + 7000 * j + 0 ≤ 6901384 by omega⟩ ?_
      rintro _ _ _ H locs ⟨rfl, rfl, rfl⟩ h
      have hK9 : kClear N F (nI pl) = 0 := by rw [kClear_v (by omega) (by omega), if_neg (by omega)]
      refine lv_aload_n X.1 X.2.1 dL_law_847 rfl (lv_at hl 7 rfl) ?_
      refine lv_bipush (v := nI (7)) X.1 X.2.1 dL_law_848 (by decide) ?_
      refine lv_iload X.1 X.2.1 dL_law_850 (lv_at hl 4 rfl) ?_
      refine lv_iconst (v := nI (0)) X.1 X.2.1 dL_law_852 (by decide) ?_
      refine lv_iconst (v := nI (0)) X.1 X.2.1 dL_law_853 (by decide) ?_
      refine q_callL X hS hZ hN h kcw_L_does kini_L (by decide) kar_L_does kml_L_does kst_L_does dL_law_854 (As := [.ref x, .int (nI (7)), .int (nI (pl)), .int (nI (0)), .int (nI (0))]) ((c_L_does_clear l G x ar N F B (N, (lookS N (set1 F 2 pl 0) B (N 13)).1, (lookS N (set1 F 2 pl 0) B (N 13)).2) (nI (pl)) (nI (0)) (nI (0)) hst hI).k (k := 0) (hK9) (w := nI (F 2 pl) - 1) (by show nI (F 2 (ix (nI pl))) - 1 = nI (F 2 pl) - 1; rw [ix_nI (by omega)]) (C2 := (N, (lookS N (set1 F 2 pl 0) B (N 13)).1, (lookS N (set1 F 2 pl 0) B (N 13)).2)) (by rw [ix_nI (by omega)]; rfl)) rfl hl rfl (Nat.le_of_ble_eq_true rfl) ⟨Nat.le_of_ble_eq_true rfl, Nat.le_of_ble_eq_true rfl⟩ ⟨show 1000 + 1100 * j + 2 ≤ 733361 by omega, show 10000 + 7000 * j + 12 ≤ 6901384 by omega⟩ ?_
      rintro _ _ _ H locs ⟨rfl, rfl, rfl⟩ h
      refine lv_iload X.1 X.2.1 dL_law_857 (lv_at hl 5 rfl) ?_
      refine b_if_ne (tgt := 867) X dL_law_859 (by decide) (a := ((1 : Nat) : Int)) (nI_ti (by omega)) (fun c10 => ?_) (fun c10 => ?_)
      · skip
        refine lv_iload X.1 X.2.1 dL_law_867 (lv_at hl 0 rfl) ?_
        refine b_if_ge (tgt := 877) X dL_law_869 (by decide) (a := ((F 2 (pl) : Nat) : Int) - 1) (eI_ti (by omega)) (fun c11 => ?_) (fun c11 => ?_)
        · skip
          refine lv_iload X.1 X.2.1 dL_law_877 (lv_at hl 0 rfl) ?_
          refine b_icmp_ne (tgt := 886) X dL_law_879 (by decide) (a := ((F 2 pl : Nat) : Int) - 1) (b := ((F 2 (pl) : Nat) : Int) - 1) (eI_ti (by omega)) (eI_ti (by omega)) (fun c12 => ?_) (fun c12 => ?_)
          · skip
            exact absurd c12 (by first | decide | omega)
          · skip
            refine lv_iconst (v := nI (1)) X.1 X.2.1 dL_law_882 (by decide) ?_
            refine lv_goto (tgt := 887) X.1 X.2.1 dL_law_883 (by decide) ?_
            refine lv_istore (lv' := [(12, .int (nI (1))), (19, .int (nI (F 2 (pl)) - 1)), (13, .int (nI (j))), (15, .int (nI (one))), (16, .int (nI (two))), (17, .int (nI (pl))), (18, .int (nI (1))), (0, .ref b), (1, .ref x), (2, .ref (ar 0)), (3, .ref (ar 1)), (4, .ref (ar 2)), (5, .ref (ar 3)), (6, .ref (ar 4)), (7, .ref (ar 5)), (8, .ref (ar 6)), (9, .ref (ar 7)), (10, .ref (ar 8)), (11, .ref (ar 9))]) X.1 X.2.1 dL_law_887 hl (by decide) rfl (fun ls hl => ?_)
            refine lv_goto (tgt := 1241) X.1 X.2.1 dL_law_889 (by decide) ?_
            refine W.widen (k := 1000 + 1100 * j + 40) (n := 10000 + 7000 * j + 400) (show 1000 + 1100 * j + 2 ≤ 1000 + 1100 * j + 40 by omega) (show 10000 + 7000 * j + 12 ≤ 10000 + 7000 * j + 400 by omega) ?_
            exact K N (lookS N (set1 F 2 pl 0) B (N 13)).1 ((lookS N (set1 F 2 pl 0) B (N 13)).2) _ _ _ (by have z9 := stp_clear (p := nI pl) hLI; rw [ix_nI (by omega)] at z9; exact z9) h (lv_sub hl [0, 2, 3, 4, 7, 8, 9, 10, 11, 12, 13, 14, 15, 16, 17, 18] rfl)
        · skip
          exact absurd c11 (by omega)
      · skip
        exact absurd c10 (by first | decide | omega)
set_option maxHeartbeats 4000000 in
set_option maxRecDepth 100000 in
theorem law_ban {p : Program} {l : Launch} {e : Env} {s : State} {m : MethodId} {below : List Frame} {meth : Method} {c : Code} {H : Heap} {locs : List Loc} {ls : Array Slot} {G : mG} {x : Nat} {ar : Nat → Nat} {j b one two : Nat} {N : Nat → Nat} {F : Nat → Nat → Nat} {B : Nat → Int32} {pl : Nat} (X : Cx p c s m cL_law RL 23 G) (hS : XS s) (hZ : XZ G (lA s) s s.heap) (hN : NC s) (hst : l.stackTraces = false) (hLI : LI j N F B) (hjj : j < 64) (hone : one < 60000) (htwo : two < 60000) (hpl : pl < N 1 + 1) (h : qM G (lA s) s x ar (N, F, B) (N, F, B) H locs) (hl : lv_has ls 23 [(13, .int (nI (j))), (15, .int (nI (one))), (16, .int (nI (two))), (17, .int (nI (pl))), (18, .int (bI (decide (pl < N 1)))), (0, .ref b), (1, .ref x), (2, .ref (ar 0)), (3, .ref (ar 1)), (4, .ref (ar 2)), (5, .ref (ar 3)), (6, .ref (ar 4)), (7, .ref (ar 5)), (8, .ref (ar 6)), (9, .ref (ar 7)), (10, .ref (ar 8)), (11, .ref (ar 9))]) (K : LK p l e s m below meth c G x ar j b one two) : W p l e room_1 s m #[Value.ref b] below meth c H locs (1000 + 1100 * j) (10000 + 7000 * j) (lw_Z below #[Value.ref b] s) (F0 m 899 ls []) := by
  have hI := hLI.1
  have hJ := hLI.2.1
  have hn := hI.n
  have h6 := qM.n6 h
  have K921 : ∀ (dy : Nat) (hdy : dy < 1002) (H : Heap) (locs : List Loc) (ls : Array Slot), qM G (lA s) s x ar (N, F, B) (N, F, B) H locs → lv_has ls 23 [(13, .int (nI (j))), (15, .int (nI (one))), (16, .int (nI (two))), (17, .int (nI (pl))), (18, .int (bI (decide (pl < N 1)))), (0, .ref b), (1, .ref x), (2, .ref (ar 0)), (3, .ref (ar 1)), (4, .ref (ar 2)), (5, .ref (ar 3)), (6, .ref (ar 4)), (7, .ref (ar 5)), (8, .ref (ar 6)), (9, .ref (ar 7)), (10, .ref (ar 8)), (11, .ref (ar 9))] → W p l e room_1 s m #[Value.ref b] below meth c H locs (1000 + 1100 * j) (10000 + 7000 * j) (lw_Z below #[Value.ref b] s) (F0 m 921 ls [.int (nI (dy))]) := by
    intro dy hdy H locs ls h hl
    refine lv_istore (lv' := [(19, .int (nI (dy))), (13, .int (nI (j))), (15, .int (nI (one))), (16, .int (nI (two))), (17, .int (nI (pl))), (18, .int (bI (decide (pl < N 1)))), (0, .ref b), (1, .ref x), (2, .ref (ar 0)), (3, .ref (ar 1)), (4, .ref (ar 2)), (5, .ref (ar 3)), (6, .ref (ar 4)), (7, .ref (ar 5)), (8, .ref (ar 6)), (9, .ref (ar 7)), (10, .ref (ar 8)), (11, .ref (ar 9))]) X.1 X.2.1 dL_law_921 hl (by decide) rfl (fun ls hl => ?_)
    refine lv_iload X.1 X.2.1 dL_law_923 (lv_at hl 0 rfl) ?_
    refine lv_sipush (v := nI (1001)) X.1 X.2.1 dL_law_925 (by decide) ?_
    refine b_icmp_ge (tgt := 935) X dL_law_928 (by decide) (a := ((dy : Nat) : Int)) (b := ((1001 : Nat) : Int)) (nI_ti (by omega)) (nI_ti (by omega)) (fun c1 => ?_) (fun c1 => ?_)
    · skip
      refine lv_iconst (v := nI (0)) X.1 X.2.1 dL_law_935 (by decide) ?_
      refine lv_istore (lv' := [(20, .int (nI (0))), (19, .int (nI (dy))), (13, .int (nI (j))), (15, .int (nI (one))), (16, .int (nI (two))), (17, .int (nI (pl))), (18, .int (bI (decide (pl < N 1)))), (0, .ref b), (1, .ref x), (2, .ref (ar 0)), (3, .ref (ar 1)), (4, .ref (ar 2)), (5, .ref (ar 3)), (6, .ref (ar 4)), (7, .ref (ar 5)), (8, .ref (ar 6)), (9, .ref (ar 7)), (10, .ref (ar 8)), (11, .ref (ar 9))]) X.1 X.2.1 dL_law_936 hl (by decide) rfl (fun ls hl => ?_)
      refine lv_aload_n X.1 X.2.1 dL_law_938 rfl (lv_at hl 9 rfl) ?_
      refine lv_bipush (v := nI (16)) X.1 X.2.1 dL_law_939 (by decide) ?_
      refine lv_iload X.1 X.2.1 dL_law_941 (lv_at hl 6 rfl) ?_
      refine b_bool_eq (tgt := 951) X dL_law_943 (by decide) (fun c2 => ?_) (fun c2 => ?_)
      · skip
        have c2 := of_decide_eq_false c2
        rw [show bI (decide (pl < N 1)) = nI 0 from (bI_f (decide_eq_false c2)).symm] at hl
        refine lv_iconst (v := nI (0)) X.1 X.2.1 dL_law_951 (by decide) ?_
        refine lv_iadd X.1 X.2.1 dL_law_952 ?_
        refine lv_top (y := nI (16 + 0)) (nI_add _ _) ?_
        refine lv_iload X.1 X.2.1 dL_law_953 (lv_at hl 6 rfl) ?_
        refine b_if_eq (tgt := 973) X dL_law_955 (by decide) (a := ((0 : Nat) : Int)) (nI_ti (by omega)) (fun c3 => ?_) (fun c3 => ?_)
        · skip
          refine lv_aload_n X.1 X.2.1 dL_law_973 rfl (lv_at hl 9 rfl) ?_
          refine lv_bipush (v := nI (16)) X.1 X.2.1 dL_law_974 (by decide) ?_
          refine lv_iload X.1 X.2.1 dL_law_976 (lv_at hl 6 rfl) ?_
          refine b_if_eq (tgt := 986) X dL_law_978 (by decide) (a := ((0 : Nat) : Int)) (nI_ti (by omega)) (fun c4 => ?_) (fun c4 => ?_)
          · skip
            refine lv_iconst (v := nI (0)) X.1 X.2.1 dL_law_986 (by decide) ?_
            refine lv_iadd X.1 X.2.1 dL_law_987 ?_
            refine lv_top (y := nI (16 + 0)) (nI_add _ _) ?_
            refine q_ald X h 0 (by decide) dL_law_988 (i := 16 + 0) (v := nI (F 3 (0))) rfl (by show _ < 48; omega) (fun V r => LR.ban r (by omega)) ?_
            have b5 := hI.p (0)
            refine q_ast X h 0 (by decide) dL_law_989 (i := 16 + 0) N F B rfl (by show _ < 48; omega) (fun V r => LR.wbans r (by omega) (by omega)) (fun H locs h => ?_)
            have hK9 : kBan N (nI pl) (nI dy) = 1 := kBan_1 (by omega) (by omega) c2
            refine lv_aload_n X.1 X.2.1 dL_law_990 rfl (lv_at hl 8 rfl) ?_
            refine lv_bipush (v := nI (8)) X.1 X.2.1 dL_law_991 (by decide) ?_
            refine lv_iload X.1 X.2.1 dL_law_993 (lv_at hl 5 rfl) ?_
            refine lv_iload X.1 X.2.1 dL_law_995 (lv_at hl 1 rfl) ?_
            refine lv_iconst (v := nI (0)) X.1 X.2.1 dL_law_997 (by decide) ?_
            refine q_callL X hS hZ hN h kcw_L_does kini_L (by decide) kar_L_does kml_L_does kst_L_does dL_law_998 (As := [.ref x, .int (nI (8)), .int (nI (pl)), .int (nI (dy)), .int (nI (0))]) ((c_L_does_ban l G x ar N F B (N, F, B) (nI (pl)) (nI (dy)) (nI (0)) hst hI).k (k := 1) (hK9) (w := (-3000000)) (rfl) (C2 := (N, F, B)) (rfl)) rfl hl rfl (Nat.le_of_ble_eq_true rfl) ⟨Nat.le_of_ble_eq_true rfl, Nat.le_of_ble_eq_true rfl⟩ ⟨show 1000 + 1100 * j + 2 ≤ 733361 by omega, show 10000 + 7000 * j + 12 ≤ 6901384 by omega⟩ ?_
            rintro _ _ _ H locs ⟨rfl, rfl, rfl⟩ h
            refine lv_iload X.1 X.2.1 dL_law_1001 (lv_at hl 6 rfl) ?_
            refine b_if_ne (tgt := 1011) X dL_law_1003 (by decide) (a := ((0 : Nat) : Int)) (nI_ti (by omega)) (fun c6 => ?_) (fun c6 => ?_)
            · skip
              exact absurd c6 (by first | decide | omega)
            · skip
              refine lv_ldc (own := RL) (index := 64) (v := (-3000000)) X.1 X.2.1 X.2.2.2.1 (X.2.2.2.2.1.use kco_L_64) dL_law_1006 ?_
              refine lv_goto (tgt := 1028) X.1 X.2.1 dL_law_1008 (by decide) ?_
              refine b_icmp_ne (tgt := 1035) X dL_law_1028 (by decide) (a := (-3000000)) (b := (-3000000)) ((by decide)) ((by decide)) (fun c7 => ?_) (fun c7 => ?_)
              · skip
                exact absurd c7 (by first | decide | omega)
              · skip
                refine lv_iconst (v := nI (1)) X.1 X.2.1 dL_law_1031 (by decide) ?_
                refine lv_goto (tgt := 1036) X.1 X.2.1 dL_law_1032 (by decide) ?_
                refine lv_istore (lv' := [(12, .int (nI (1))), (20, .int (nI (0))), (19, .int (nI (dy))), (13, .int (nI (j))), (15, .int (nI (one))), (16, .int (nI (two))), (17, .int (nI (pl))), (18, .int (nI (0))), (0, .ref b), (1, .ref x), (2, .ref (ar 0)), (3, .ref (ar 1)), (4, .ref (ar 2)), (5, .ref (ar 3)), (6, .ref (ar 4)), (7, .ref (ar 5)), (8, .ref (ar 6)), (9, .ref (ar 7)), (10, .ref (ar 8)), (11, .ref (ar 9))]) X.1 X.2.1 dL_law_1036 hl (by decide) rfl (fun ls hl => ?_)
                refine lv_goto (tgt := 1241) X.1 X.2.1 dL_law_1038 (by decide) ?_
                refine W.widen (k := 1000 + 1100 * j + 40) (n := 10000 + 7000 * j + 400) (show 1000 + 1100 * j + 2 ≤ 1000 + 1100 * j + 40 by omega) (show 10000 + 7000 * j + 12 ≤ 10000 + 7000 * j + 400 by omega) ?_
                exact K N F B _ _ _ (hLI.more) h (lv_sub hl [0, 3, 4, 5, 8, 9, 10, 11, 12, 13, 14, 15, 16, 17, 18, 19] rfl)
          · skip
            exact absurd c4 (by first | decide | omega)
        · skip
          exact absurd c3 (by first | decide | omega)
      · skip
        have c2 := of_decide_eq_true c2
        rw [show bI (decide (pl < N 1)) = nI 1 from (bI_t (decide_eq_true c2)).symm] at hl
        refine lv_iload X.1 X.2.1 dL_law_946 (lv_at hl 5 rfl) ?_
        refine lv_goto (tgt := 952) X.1 X.2.1 dL_law_948 (by decide) ?_
        refine lv_iadd X.1 X.2.1 dL_law_952 ?_
        refine lv_top (y := nI (16 + pl)) (nI_add _ _) ?_
        refine lv_iload X.1 X.2.1 dL_law_953 (lv_at hl 6 rfl) ?_
        refine b_if_eq (tgt := 973) X dL_law_955 (by decide) (a := ((1 : Nat) : Int)) (nI_ti (by omega)) (fun c8 => ?_) (fun c8 => ?_)
        · skip
          exact absurd c8 (by first | decide | omega)
        · skip
          refine lv_iload X.1 X.2.1 dL_law_958 (lv_at hl 0 rfl) ?_
          refine b_if_eq (tgt := 973) X dL_law_960 (by decide) (a := ((0 : Nat) : Int)) (nI_ti (by omega)) (fun c9 => ?_) (fun c9 => ?_)
          · skip
            refine lv_aload_n X.1 X.2.1 dL_law_973 rfl (lv_at hl 9 rfl) ?_
            refine lv_bipush (v := nI (16)) X.1 X.2.1 dL_law_974 (by decide) ?_
            refine lv_iload X.1 X.2.1 dL_law_976 (lv_at hl 6 rfl) ?_
            refine b_if_eq (tgt := 986) X dL_law_978 (by decide) (a := ((1 : Nat) : Int)) (nI_ti (by omega)) (fun c10 => ?_) (fun c10 => ?_)
            · skip
              exact absurd c10 (by first | decide | omega)
            · skip
              refine lv_iload X.1 X.2.1 dL_law_981 (lv_at hl 5 rfl) ?_
              refine lv_goto (tgt := 987) X.1 X.2.1 dL_law_983 (by decide) ?_
              refine lv_iadd X.1 X.2.1 dL_law_987 ?_
              refine lv_top (y := nI (16 + pl)) (nI_add _ _) ?_
              refine q_ald X h 0 (by decide) dL_law_988 (i := 16 + pl) (v := nI (F 3 (pl))) rfl (by show _ < 48; omega) (fun V r => LR.ban r (by omega)) ?_
              have b11 := hI.p (pl)
              refine q_ast X h 0 (by decide) dL_law_989 (i := 16 + pl) N F B rfl (by show _ < 48; omega) (fun V r => LR.wbans r (by omega) (by omega)) (fun H locs h => ?_)
              have hK9 : kBan N (nI pl) (nI dy) = 2 := by rw [kBan_v (by omega) (by omega) (by omega), if_neg (by omega)]
              refine lv_aload_n X.1 X.2.1 dL_law_990 rfl (lv_at hl 8 rfl) ?_
              refine lv_bipush (v := nI (8)) X.1 X.2.1 dL_law_991 (by decide) ?_
              refine lv_iload X.1 X.2.1 dL_law_993 (lv_at hl 5 rfl) ?_
              refine lv_iload X.1 X.2.1 dL_law_995 (lv_at hl 1 rfl) ?_
              refine lv_iconst (v := nI (0)) X.1 X.2.1 dL_law_997 (by decide) ?_
              refine q_callL X hS hZ hN h kcw_L_does kini_L (by decide) kar_L_does kml_L_does kst_L_does dL_law_998 (As := [.ref x, .int (nI (8)), .int (nI (pl)), .int (nI (dy)), .int (nI (0))]) ((c_L_does_ban l G x ar N F B (N, F, B) (nI (pl)) (nI (dy)) (nI (0)) hst hI).k (k := 2) (hK9) (w := (-2000000)) (rfl) (C2 := (N, F, B)) (rfl)) rfl hl rfl (Nat.le_of_ble_eq_true rfl) ⟨Nat.le_of_ble_eq_true rfl, Nat.le_of_ble_eq_true rfl⟩ ⟨show 1000 + 1100 * j + 2 ≤ 733361 by omega, show 10000 + 7000 * j + 12 ≤ 6901384 by omega⟩ ?_
              rintro _ _ _ H locs ⟨rfl, rfl, rfl⟩ h
              refine lv_iload X.1 X.2.1 dL_law_1001 (lv_at hl 6 rfl) ?_
              refine b_if_ne (tgt := 1011) X dL_law_1003 (by decide) (a := ((1 : Nat) : Int)) (nI_ti (by omega)) (fun c12 => ?_) (fun c12 => ?_)
              · skip
                refine lv_iload X.1 X.2.1 dL_law_1011 (lv_at hl 0 rfl) ?_
                refine b_if_eq (tgt := 1026) X dL_law_1013 (by decide) (a := ((0 : Nat) : Int)) (nI_ti (by omega)) (fun c13 => ?_) (fun c13 => ?_)
                · skip
                  refine lv_ldc (own := RL) (index := 67) (v := (-2000000)) X.1 X.2.1 X.2.2.2.1 (X.2.2.2.2.1.use kco_L_67) dL_law_1026 ?_
                  refine b_icmp_ne (tgt := 1035) X dL_law_1028 (by decide) (a := (-2000000)) (b := (-2000000)) ((by decide)) ((by decide)) (fun c14 => ?_) (fun c14 => ?_)
                  · skip
                    exact absurd c14 (by first | decide | omega)
                  · skip
                    refine lv_iconst (v := nI (1)) X.1 X.2.1 dL_law_1031 (by decide) ?_
                    refine lv_goto (tgt := 1036) X.1 X.2.1 dL_law_1032 (by decide) ?_
                    refine lv_istore (lv' := [(12, .int (nI (1))), (20, .int (nI (0))), (19, .int (nI (dy))), (13, .int (nI (j))), (15, .int (nI (one))), (16, .int (nI (two))), (17, .int (nI (pl))), (18, .int (nI (1))), (0, .ref b), (1, .ref x), (2, .ref (ar 0)), (3, .ref (ar 1)), (4, .ref (ar 2)), (5, .ref (ar 3)), (6, .ref (ar 4)), (7, .ref (ar 5)), (8, .ref (ar 6)), (9, .ref (ar 7)), (10, .ref (ar 8)), (11, .ref (ar 9))]) X.1 X.2.1 dL_law_1036 hl (by decide) rfl (fun ls hl => ?_)
                    refine lv_goto (tgt := 1241) X.1 X.2.1 dL_law_1038 (by decide) ?_
                    refine W.widen (k := 1000 + 1100 * j + 40) (n := 10000 + 7000 * j + 400) (show 1000 + 1100 * j + 2 ≤ 1000 + 1100 * j + 40 by omega) (show 10000 + 7000 * j + 12 ≤ 10000 + 7000 * j + 400 by omega) ?_
                    exact K N F B _ _ _ (hLI.more) h (lv_sub hl [0, 3, 4, 5, 8, 9, 10, 11, 12, 13, 14, 15, 16, 17, 18, 19] rfl)
                · skip
                  exact absurd c13 (by first | decide | omega)
              · skip
                exact absurd c12 (by first | decide | omega)
          · skip
            exact absurd c9 (by first | decide | omega)
    · skip
      refine lv_iconst (v := nI (1)) X.1 X.2.1 dL_law_931 (by decide) ?_
      refine lv_goto (tgt := 936) X.1 X.2.1 dL_law_932 (by decide) ?_
      refine lv_istore (lv' := [(20, .int (nI (1))), (19, .int (nI (dy))), (13, .int (nI (j))), (15, .int (nI (one))), (16, .int (nI (two))), (17, .int (nI (pl))), (18, .int (bI (decide (pl < N 1)))), (0, .ref b), (1, .ref x), (2, .ref (ar 0)), (3, .ref (ar 1)), (4, .ref (ar 2)), (5, .ref (ar 3)), (6, .ref (ar 4)), (7, .ref (ar 5)), (8, .ref (ar 6)), (9, .ref (ar 7)), (10, .ref (ar 8)), (11, .ref (ar 9))]) X.1 X.2.1 dL_law_936 hl (by decide) rfl (fun ls hl => ?_)
      refine lv_aload_n X.1 X.2.1 dL_law_938 rfl (lv_at hl 9 rfl) ?_
      refine lv_bipush (v := nI (16)) X.1 X.2.1 dL_law_939 (by decide) ?_
      refine lv_iload X.1 X.2.1 dL_law_941 (lv_at hl 6 rfl) ?_
      refine b_bool_eq (tgt := 951) X dL_law_943 (by decide) (fun c15 => ?_) (fun c15 => ?_)
      · skip
        have c15 := of_decide_eq_false c15
        rw [show bI (decide (pl < N 1)) = nI 0 from (bI_f (decide_eq_false c15)).symm] at hl
        refine lv_iconst (v := nI (0)) X.1 X.2.1 dL_law_951 (by decide) ?_
        refine lv_iadd X.1 X.2.1 dL_law_952 ?_
        refine lv_top (y := nI (16 + 0)) (nI_add _ _) ?_
        refine lv_iload X.1 X.2.1 dL_law_953 (lv_at hl 6 rfl) ?_
        refine b_if_eq (tgt := 973) X dL_law_955 (by decide) (a := ((0 : Nat) : Int)) (nI_ti (by omega)) (fun c16 => ?_) (fun c16 => ?_)
        · skip
          refine lv_aload_n X.1 X.2.1 dL_law_973 rfl (lv_at hl 9 rfl) ?_
          refine lv_bipush (v := nI (16)) X.1 X.2.1 dL_law_974 (by decide) ?_
          refine lv_iload X.1 X.2.1 dL_law_976 (lv_at hl 6 rfl) ?_
          refine b_if_eq (tgt := 986) X dL_law_978 (by decide) (a := ((0 : Nat) : Int)) (nI_ti (by omega)) (fun c17 => ?_) (fun c17 => ?_)
          · skip
            refine lv_iconst (v := nI (0)) X.1 X.2.1 dL_law_986 (by decide) ?_
            refine lv_iadd X.1 X.2.1 dL_law_987 ?_
            refine lv_top (y := nI (16 + 0)) (nI_add _ _) ?_
            refine q_ald X h 0 (by decide) dL_law_988 (i := 16 + 0) (v := nI (F 3 (0))) rfl (by show _ < 48; omega) (fun V r => LR.ban r (by omega)) ?_
            have b18 := hI.p (0)
            refine q_ast X h 0 (by decide) dL_law_989 (i := 16 + 0) N F B rfl (by show _ < 48; omega) (fun V r => LR.wbans r (by omega) (by omega)) (fun H locs h => ?_)
            have hK9 : kBan N (nI pl) (nI dy) = 1 := kBan_1 (by omega) (by omega) c15
            refine lv_aload_n X.1 X.2.1 dL_law_990 rfl (lv_at hl 8 rfl) ?_
            refine lv_bipush (v := nI (8)) X.1 X.2.1 dL_law_991 (by decide) ?_
            refine lv_iload X.1 X.2.1 dL_law_993 (lv_at hl 5 rfl) ?_
            refine lv_iload X.1 X.2.1 dL_law_995 (lv_at hl 1 rfl) ?_
            refine lv_iconst (v := nI (0)) X.1 X.2.1 dL_law_997 (by decide) ?_
            refine q_callL X hS hZ hN h kcw_L_does kini_L (by decide) kar_L_does kml_L_does kst_L_does dL_law_998 (As := [.ref x, .int (nI (8)), .int (nI (pl)), .int (nI (dy)), .int (nI (0))]) ((c_L_does_ban l G x ar N F B (N, F, B) (nI (pl)) (nI (dy)) (nI (0)) hst hI).k (k := 1) (hK9) (w := (-3000000)) (rfl) (C2 := (N, F, B)) (rfl)) rfl hl rfl (Nat.le_of_ble_eq_true rfl) ⟨Nat.le_of_ble_eq_true rfl, Nat.le_of_ble_eq_true rfl⟩ ⟨show 1000 + 1100 * j + 2 ≤ 733361 by omega, show 10000 + 7000 * j + 12 ≤ 6901384 by omega⟩ ?_
            rintro _ _ _ H locs ⟨rfl, rfl, rfl⟩ h
            refine lv_iload X.1 X.2.1 dL_law_1001 (lv_at hl 6 rfl) ?_
            refine b_if_ne (tgt := 1011) X dL_law_1003 (by decide) (a := ((0 : Nat) : Int)) (nI_ti (by omega)) (fun c19 => ?_) (fun c19 => ?_)
            · skip
              exact absurd c19 (by first | decide | omega)
            · skip
              refine lv_ldc (own := RL) (index := 64) (v := (-3000000)) X.1 X.2.1 X.2.2.2.1 (X.2.2.2.2.1.use kco_L_64) dL_law_1006 ?_
              refine lv_goto (tgt := 1028) X.1 X.2.1 dL_law_1008 (by decide) ?_
              refine b_icmp_ne (tgt := 1035) X dL_law_1028 (by decide) (a := (-3000000)) (b := (-3000000)) ((by decide)) ((by decide)) (fun c20 => ?_) (fun c20 => ?_)
              · skip
                exact absurd c20 (by first | decide | omega)
              · skip
                refine lv_iconst (v := nI (1)) X.1 X.2.1 dL_law_1031 (by decide) ?_
                refine lv_goto (tgt := 1036) X.1 X.2.1 dL_law_1032 (by decide) ?_
                refine lv_istore (lv' := [(12, .int (nI (1))), (20, .int (nI (1))), (19, .int (nI (dy))), (13, .int (nI (j))), (15, .int (nI (one))), (16, .int (nI (two))), (17, .int (nI (pl))), (18, .int (nI (0))), (0, .ref b), (1, .ref x), (2, .ref (ar 0)), (3, .ref (ar 1)), (4, .ref (ar 2)), (5, .ref (ar 3)), (6, .ref (ar 4)), (7, .ref (ar 5)), (8, .ref (ar 6)), (9, .ref (ar 7)), (10, .ref (ar 8)), (11, .ref (ar 9))]) X.1 X.2.1 dL_law_1036 hl (by decide) rfl (fun ls hl => ?_)
                refine lv_goto (tgt := 1241) X.1 X.2.1 dL_law_1038 (by decide) ?_
                refine W.widen (k := 1000 + 1100 * j + 40) (n := 10000 + 7000 * j + 400) (show 1000 + 1100 * j + 2 ≤ 1000 + 1100 * j + 40 by omega) (show 10000 + 7000 * j + 12 ≤ 10000 + 7000 * j + 400 by omega) ?_
                exact K N F B _ _ _ (hLI.more) h (lv_sub hl [0, 3, 4, 5, 8, 9, 10, 11, 12, 13, 14, 15, 16, 17, 18, 19] rfl)
          · skip
            exact absurd c17 (by first | decide | omega)
        · skip
          exact absurd c16 (by first | decide | omega)
      · skip
        have c15 := of_decide_eq_true c15
        rw [show bI (decide (pl < N 1)) = nI 1 from (bI_t (decide_eq_true c15)).symm] at hl
        refine lv_iload X.1 X.2.1 dL_law_946 (lv_at hl 5 rfl) ?_
        refine lv_goto (tgt := 952) X.1 X.2.1 dL_law_948 (by decide) ?_
        refine lv_iadd X.1 X.2.1 dL_law_952 ?_
        refine lv_top (y := nI (16 + pl)) (nI_add _ _) ?_
        refine lv_iload X.1 X.2.1 dL_law_953 (lv_at hl 6 rfl) ?_
        refine b_if_eq (tgt := 973) X dL_law_955 (by decide) (a := ((1 : Nat) : Int)) (nI_ti (by omega)) (fun c21 => ?_) (fun c21 => ?_)
        · skip
          exact absurd c21 (by first | decide | omega)
        · skip
          refine lv_iload X.1 X.2.1 dL_law_958 (lv_at hl 0 rfl) ?_
          refine b_if_eq (tgt := 973) X dL_law_960 (by decide) (a := ((1 : Nat) : Int)) (nI_ti (by omega)) (fun c22 => ?_) (fun c22 => ?_)
          · skip
            exact absurd c22 (by first | decide | omega)
          · skip
            refine lv_aload X.1 X.2.1 dL_law_963 (lv_at hl 18 rfl) ?_
            refine lv_iconst (v := nI (0)) X.1 X.2.1 dL_law_965 (by decide) ?_
            refine q_ald X h 9 (by decide) dL_law_966 (i := 0) (v := nI (N 0)) rfl (by show _ < 9; omega) (fun V r => LR.g0 r) ?_
            refine lv_iload X.1 X.2.1 dL_law_967 (lv_at hl 1 rfl) ?_
            refine lv_iadd X.1 X.2.1 dL_law_969 ?_
            refine lv_top (y := nI (N 0 + dy)) (nI_add _ _) ?_
            refine lv_goto (tgt := 989) X.1 X.2.1 dL_law_970 (by decide) ?_
            refine q_ast X h 0 (by decide) dL_law_989 (i := 16 + pl) N (set1 F 3 pl (N 0 + dy)) B rfl (by show _ < 48; omega) (fun V r => LR.wban r (by omega) (by omega) _) (fun H locs h => ?_)
            have hK9 : kBan N (nI pl) (nI dy) = 0 := by rw [kBan_v (by omega) (by omega) (by omega), if_pos (by omega)]
            refine lv_aload_n X.1 X.2.1 dL_law_990 rfl (lv_at hl 8 rfl) ?_
            refine lv_bipush (v := nI (8)) X.1 X.2.1 dL_law_991 (by decide) ?_
            refine lv_iload X.1 X.2.1 dL_law_993 (lv_at hl 5 rfl) ?_
            refine lv_iload X.1 X.2.1 dL_law_995 (lv_at hl 1 rfl) ?_
            refine lv_iconst (v := nI (0)) X.1 X.2.1 dL_law_997 (by decide) ?_
            refine q_callL X hS hZ hN h kcw_L_does kini_L (by decide) kar_L_does kml_L_does kst_L_does dL_law_998 (As := [.ref x, .int (nI (8)), .int (nI (pl)), .int (nI (dy)), .int (nI (0))]) ((c_L_does_ban l G x ar N F B (N, (set1 F 3 pl (N 0 + dy)), B) (nI (pl)) (nI (dy)) (nI (0)) hst hI).k (k := 0) (hK9) (w := nI (N 0 + dy)) (by show nI (N 0 + ix (nI dy)) = nI (N 0 + dy); rw [ix_nI (by omega)]) (C2 := (N, set1 F 3 pl (N 0 + dy), B)) (by rw [ix_nI (by omega), ix_nI (by omega)]; rfl)) rfl hl rfl (Nat.le_of_ble_eq_true rfl) ⟨Nat.le_of_ble_eq_true rfl, Nat.le_of_ble_eq_true rfl⟩ ⟨show 1000 + 1100 * j + 2 ≤ 733361 by omega, show 10000 + 7000 * j + 12 ≤ 6901384 by omega⟩ ?_
            rintro _ _ _ H locs ⟨rfl, rfl, rfl⟩ h
            refine lv_iload X.1 X.2.1 dL_law_1001 (lv_at hl 6 rfl) ?_
            refine b_if_ne (tgt := 1011) X dL_law_1003 (by decide) (a := ((1 : Nat) : Int)) (nI_ti (by omega)) (fun c23 => ?_) (fun c23 => ?_)
            · skip
              refine lv_iload X.1 X.2.1 dL_law_1011 (lv_at hl 0 rfl) ?_
              refine b_if_eq (tgt := 1026) X dL_law_1013 (by decide) (a := ((1 : Nat) : Int)) (nI_ti (by omega)) (fun c24 => ?_) (fun c24 => ?_)
              · skip
                exact absurd c24 (by first | decide | omega)
              · skip
                refine lv_aload X.1 X.2.1 dL_law_1016 (lv_at hl 18 rfl) ?_
                refine lv_iconst (v := nI (0)) X.1 X.2.1 dL_law_1018 (by decide) ?_
                refine q_ald X h 9 (by decide) dL_law_1019 (i := 0) (v := nI (N 0)) rfl (by show _ < 9; omega) (fun V r => LR.g0 r) ?_
                refine lv_iload X.1 X.2.1 dL_law_1020 (lv_at hl 1 rfl) ?_
                refine lv_iadd X.1 X.2.1 dL_law_1022 ?_
                refine lv_top (y := nI (N 0 + dy)) (nI_add _ _) ?_
                refine lv_goto (tgt := 1028) X.1 X.2.1 dL_law_1023 (by decide) ?_
                refine b_icmp_ne (tgt := 1035) X dL_law_1028 (by decide) (a := ((N 0 + dy : Nat) : Int)) (b := ((N 0 + dy : Nat) : Int)) (nI_ti (by omega)) (nI_ti (by omega)) (fun c25 => ?_) (fun c25 => ?_)
                · skip
                  exact absurd c25 (by first | decide | omega)
                · skip
                  refine lv_iconst (v := nI (1)) X.1 X.2.1 dL_law_1031 (by decide) ?_
                  refine lv_goto (tgt := 1036) X.1 X.2.1 dL_law_1032 (by decide) ?_
                  refine lv_istore (lv' := [(12, .int (nI (1))), (20, .int (nI (1))), (19, .int (nI (dy))), (13, .int (nI (j))), (15, .int (nI (one))), (16, .int (nI (two))), (17, .int (nI (pl))), (18, .int (nI (1))), (0, .ref b), (1, .ref x), (2, .ref (ar 0)), (3, .ref (ar 1)), (4, .ref (ar 2)), (5, .ref (ar 3)), (6, .ref (ar 4)), (7, .ref (ar 5)), (8, .ref (ar 6)), (9, .ref (ar 7)), (10, .ref (ar 8)), (11, .ref (ar 9))]) X.1 X.2.1 dL_law_1036 hl (by decide) rfl (fun ls hl => ?_)
                  refine lv_goto (tgt := 1241) X.1 X.2.1 dL_law_1038 (by decide) ?_
                  refine W.widen (k := 1000 + 1100 * j + 40) (n := 10000 + 7000 * j + 400) (show 1000 + 1100 * j + 2 ≤ 1000 + 1100 * j + 40 by omega) (show 10000 + 7000 * j + 12 ≤ 10000 + 7000 * j + 400 by omega) ?_
                  exact K N (set1 F 3 pl (N 0 + dy)) B _ _ _ (by have z9 := stp_ban hLI (by omega) hK9; rw [ix_nI (by omega), ix_nI (by omega)] at z9; exact z9) h (lv_sub hl [0, 3, 4, 5, 8, 9, 10, 11, 12, 13, 14, 15, 16, 17, 18, 19] rfl)
            · skip
              exact absurd c23 (by first | decide | omega)
  refine lv_iload X.1 X.2.1 dL_law_899 (lv_at hl 2 rfl) ?_
  refine lv_iconst (v := nI (4)) X.1 X.2.1 dL_law_901 (by decide) ?_
  refine lv_irem X.1 X.2.1 dL_law_902 (by decide) ?_
  refine lv_top (y := nI (two % 4)) (pk_rem (by omega) (by omega) (by omega)) ?_
  refine b_if_ne (tgt := 917) X dL_law_903 (by decide) (a := ((two % 4 : Nat) : Int)) (nI_ti (by omega)) (fun c26 => ?_) (fun c26 => ?_)
  · skip
    refine lv_iload X.1 X.2.1 dL_law_917 (lv_at hl 2 rfl) ?_
    refine lv_iconst (v := nI (5)) X.1 X.2.1 dL_law_919 (by decide) ?_
    refine lv_irem X.1 X.2.1 dL_law_920 (by decide) ?_
    refine lv_top (y := nI (two % 5)) (pk_rem (by omega) (by omega) (by omega)) ?_
    exact K921 (two % 5) (by omega) _ _ _ h (lv_sub hl [0, 1, 2, 3, 4, 5, 6, 7, 8, 9, 10, 11, 12, 13, 14, 15, 16] rfl)
  · skip
    refine lv_iload X.1 X.2.1 dL_law_906 (lv_at hl 2 rfl) ?_
    refine lv_iconst (v := nI (4)) X.1 X.2.1 dL_law_908 (by decide) ?_
    refine lv_idiv X.1 X.2.1 dL_law_909 (by decide) ?_
    refine lv_top (y := nI (two / 4)) (pk_div (by omega) (by omega) (by omega)) ?_
    refine lv_sipush (v := nI (1002)) X.1 X.2.1 dL_law_910 (by decide) ?_
    refine lv_irem X.1 X.2.1 dL_law_913 (by decide) ?_
    refine lv_top (y := nI ((two / 4) % 1002)) (pk_rem (by omega) (by omega) (by omega)) ?_
    refine lv_goto (tgt := 921) X.1 X.2.1 dL_law_914 (by decide) ?_
    exact K921 ((two / 4) % 1002) (by omega) _ _ _ h (lv_sub hl [0, 1, 2, 3, 4, 5, 6, 7, 8, 9, 10, 11, 12, 13, 14, 15, 16] rfl)
set_option maxHeartbeats 4000000 in
set_option maxRecDepth 100000 in
theorem law_room {p : Program} {l : Launch} {e : Env} {s : State} {m : MethodId} {below : List Frame} {meth : Method} {c : Code} {H : Heap} {locs : List Loc} {ls : Array Slot} {G : mG} {x : Nat} {ar : Nat → Nat} {j b one two : Nat} {N : Nat → Nat} {F : Nat → Nat → Nat} {B : Nat → Int32}  (X : Cx p c s m cL_law RL 23 G) (hS : XS s) (hZ : XZ G (lA s) s s.heap) (hN : NC s) (hst : l.stackTraces = false) (hLI : LI j N F B) (hjj : j < 64) (hone : one < 60000) (htwo : two < 60000)  (h : qM G (lA s) s x ar (N, F, B) (N, F, B) H locs) (hl : lv_has ls 23 [(13, .int (nI (j))), (15, .int (nI (one))), (16, .int (nI (two))), (0, .ref b), (1, .ref x), (2, .ref (ar 0)), (3, .ref (ar 1)), (4, .ref (ar 2)), (5, .ref (ar 3)), (6, .ref (ar 4)), (7, .ref (ar 5)), (8, .ref (ar 6)), (9, .ref (ar 7)), (10, .ref (ar 8)), (11, .ref (ar 9))]) (K : LK p l e s m below meth c G x ar j b one two) : W p l e room_1 s m #[Value.ref b] below meth c H locs (1000 + 1100 * j) (10000 + 7000 * j) (lw_Z below #[Value.ref b] s) (F0 m 1048 ls []) := by
  have hI := hLI.1
  have hJ := hLI.2.1
  have hn := hI.n
  have h6 := qM.n6 h
  have K1071 : ∀ (rm : Nat) (hrm : rm < 52) (H : Heap) (locs : List Loc) (ls : Array Slot), qM G (lA s) s x ar (N, F, B) (N, F, B) H locs → lv_has ls 23 [(13, .int (nI (j))), (15, .int (nI (one))), (16, .int (nI (two))), (0, .ref b), (1, .ref x), (2, .ref (ar 0)), (3, .ref (ar 1)), (4, .ref (ar 2)), (5, .ref (ar 3)), (6, .ref (ar 4)), (7, .ref (ar 5)), (8, .ref (ar 6)), (9, .ref (ar 7)), (10, .ref (ar 8)), (11, .ref (ar 9))] → W p l e room_1 s m #[Value.ref b] below meth c H locs (1000 + 1100 * j) (10000 + 7000 * j) (lw_Z below #[Value.ref b] s) (F0 m 1071 ls [.int (nI (rm))]) := by
    intro rm hrm H locs ls h hl
    refine lv_istore (lv' := [(19, .int (nI (rm))), (13, .int (nI (j))), (15, .int (nI (one))), (16, .int (nI (two))), (0, .ref b), (1, .ref x), (2, .ref (ar 0)), (3, .ref (ar 1)), (4, .ref (ar 2)), (5, .ref (ar 3)), (6, .ref (ar 4)), (7, .ref (ar 5)), (8, .ref (ar 6)), (9, .ref (ar 7)), (10, .ref (ar 8)), (11, .ref (ar 9))]) X.1 X.2.1 dL_law_1071 hl (by decide) rfl (fun ls hl => ?_)
    refine lv_iload X.1 X.2.1 dL_law_1073 (lv_at hl 2 rfl) ?_
    refine lv_iconst (v := nI (4)) X.1 X.2.1 dL_law_1075 (by decide) ?_
    refine lv_irem X.1 X.2.1 dL_law_1076 (by decide) ?_
    refine lv_top (y := nI (one % 4)) (pk_rem (by omega) (by omega) (by omega)) ?_
    obtain ⟨rg, hrg⟩ : ∃ rg, one % 4 = rg := ⟨_, rfl⟩
    rw [hrg]
    have hrg4 : rg < 4 := by omega
    refine lv_istore (lv' := [(20, .int (nI (rg))), (19, .int (nI (rm))), (13, .int (nI (j))), (15, .int (nI (one))), (16, .int (nI (two))), (0, .ref b), (1, .ref x), (2, .ref (ar 0)), (3, .ref (ar 1)), (4, .ref (ar 2)), (5, .ref (ar 3)), (6, .ref (ar 4)), (7, .ref (ar 5)), (8, .ref (ar 6)), (9, .ref (ar 7)), (10, .ref (ar 8)), (11, .ref (ar 9))]) X.1 X.2.1 dL_law_1077 hl (by decide) rfl (fun ls hl => ?_)
    refine lv_iconst (v := nI (0)) X.1 X.2.1 dL_law_1079 (by decide) ?_
    refine lv_istore (lv' := [(21, .int (nI (0))), (20, .int (nI (rg))), (19, .int (nI (rm))), (13, .int (nI (j))), (15, .int (nI (one))), (16, .int (nI (two))), (0, .ref b), (1, .ref x), (2, .ref (ar 0)), (3, .ref (ar 1)), (4, .ref (ar 2)), (5, .ref (ar 3)), (6, .ref (ar 4)), (7, .ref (ar 5)), (8, .ref (ar 6)), (9, .ref (ar 7)), (10, .ref (ar 8)), (11, .ref (ar 9))]) X.1 X.2.1 dL_law_1080 hl (by decide) rfl (fun ls hl => ?_)
    refine lv_iconst (v := nI (0)) X.1 X.2.1 dL_law_1082 (by decide) ?_
    refine lv_istore (lv' := [(22, .int (nI (0))), (21, .int (nI (0))), (20, .int (nI (rg))), (19, .int (nI (rm))), (13, .int (nI (j))), (15, .int (nI (one))), (16, .int (nI (two))), (0, .ref b), (1, .ref x), (2, .ref (ar 0)), (3, .ref (ar 1)), (4, .ref (ar 2)), (5, .ref (ar 3)), (6, .ref (ar 4)), (7, .ref (ar 5)), (8, .ref (ar 6)), (9, .ref (ar 7)), (10, .ref (ar 8)), (11, .ref (ar 9))]) X.1 X.2.1 dL_law_1083 hl (by decide) rfl (fun ls hl => ?_)
    have loop : ∀ (n9 : Nat) (j3 : Nat), (N 6 + 1 ≤ j3 + n9) → (j3 ≤ N 6) → ∀ (H : Heap) (locs : List Loc) (ls : Array Slot), qM G (lA s) s x ar (N, F, B) (N, F, B) H locs → lv_has ls 23 [(21, .int (nI (tdy F (N 0) rg j3))), (22, .int (nI (j3))), (20, .int (nI (rg))), (19, .int (nI (rm))), (13, .int (nI (j))), (15, .int (nI (one))), (16, .int (nI (two))), (0, .ref b), (1, .ref x), (2, .ref (ar 0)), (3, .ref (ar 1)), (4, .ref (ar 2)), (5, .ref (ar 3)), (6, .ref (ar 4)), (7, .ref (ar 5)), (8, .ref (ar 6)), (9, .ref (ar 7)), (10, .ref (ar 8)), (11, .ref (ar 9))] → W p l e room_1 s m #[Value.ref b] below meth c H locs (1000 + 1100 * j) (10000 + 7000 * j) (lw_Z below #[Value.ref b] s) (F0 m 1085 ls []) := by
      intro n9
      induction n9 with
      | zero => intro j3 hm9 hj3; exact absurd hm9 (by omega)
      | succ n9 ih_loop =>
        intro j3 hm9 hj3 H locs ls h hl
        have htd := tdy_le F (N 0) rg j3
        refine lv_iload X.1 X.2.1 dL_law_1085 (lv_at hl 1 rfl) ?_
        refine lv_aload X.1 X.2.1 dL_law_1087 (lv_at hl 18 rfl) ?_
        refine lv_iconst (v := nI (2)) X.1 X.2.1 dL_law_1089 (by decide) ?_
        refine q_ald X h 9 (by decide) dL_law_1090 (i := 2) (v := nI (N 6)) rfl (by show _ < 9; omega) (fun V r => LR.g2 r) ?_
        refine b_icmp_ge (tgt := 1137) X dL_law_1091 (by decide) (a := ((j3 : Nat) : Int)) (b := ((N 6 : Nat) : Int)) (nI_ti (by omega)) (nI_ti (by omega)) (fun c1 => ?_) (fun c1 => ?_)
        · skip
          have ej : j3 = N 6 := by omega
          subst ej
          refine lv_aload X.1 X.2.1 dL_law_1137 (lv_at hl 18 rfl) ?_
          refine lv_iconst (v := nI (5)) X.1 X.2.1 dL_law_1139 (by decide) ?_
          refine lv_iload X.1 X.2.1 dL_law_1140 (lv_at hl 2 rfl) ?_
          refine lv_iadd X.1 X.2.1 dL_law_1142 ?_
          refine lv_top (y := nI (5 + rg)) (nI_add _ _) ?_
          refine lv_iload X.1 X.2.1 dL_law_1143 (lv_at hl 3 rfl) ?_
          refine lv_bipush (v := nI (51)) X.1 X.2.1 dL_law_1145 (by decide) ?_
          refine b_icmp_ge (tgt := 1155) X dL_law_1147 (by decide) (a := ((rm : Nat) : Int)) (b := ((51 : Nat) : Int)) (nI_ti (by omega)) (nI_ti (by omega)) (fun c2 => ?_) (fun c2 => ?_)
          · skip
            refine lv_aload X.1 X.2.1 dL_law_1155 (lv_at hl 18 rfl) ?_
            refine lv_iconst (v := nI (5)) X.1 X.2.1 dL_law_1157 (by decide) ?_
            refine lv_iload X.1 X.2.1 dL_law_1158 (lv_at hl 2 rfl) ?_
            refine lv_iadd X.1 X.2.1 dL_law_1160 ?_
            refine lv_top (y := nI (5 + rg)) (nI_add _ _) ?_
            refine q_ald X h 9 (by decide) dL_law_1161 (i := 5 + rg) (v := nI (F 5 (rg))) rfl (by show _ < 9; omega) (fun V r => LR.g5 r (by omega)) ?_
            have b3 := hI.r (rg)
            refine q_ast X h 9 (by decide) dL_law_1162 (i := 5 + rg) N F B rfl (by show _ < 9; omega) (fun V r => LR.wrs r (by omega)) (fun H locs h => ?_)
            have hK9 : kRoom (nI rg) (nI rm) = 2 := by rw [kRoom_v (by omega) (by omega), if_neg (by omega)]
            refine lv_aload_n X.1 X.2.1 dL_law_1163 rfl (lv_at hl 8 rfl) ?_
            refine lv_iconst (v := nI (1)) X.1 X.2.1 dL_law_1164 (by decide) ?_
            refine lv_iload X.1 X.2.1 dL_law_1165 (lv_at hl 2 rfl) ?_
            refine lv_iload X.1 X.2.1 dL_law_1167 (lv_at hl 3 rfl) ?_
            refine lv_iconst (v := nI (0)) X.1 X.2.1 dL_law_1169 (by decide) ?_
            refine q_callL X hS hZ hN h kcw_L_does kini_L (by decide) kar_L_does kml_L_does kst_L_does dL_law_1170 (As := [.ref x, .int (nI (1)), .int (nI (rg)), .int (nI (rm)), .int (nI (0))]) ((c_L_does_room l G x ar N F B (N, F, B) (nI (rg)) (nI (rm)) (nI (0)) hst hI).k (k := 2) (hK9) (w := (-2000000)) (rfl) (C2 := (N, F, B)) (rfl)) rfl hl rfl (Nat.le_of_ble_eq_true rfl) ⟨Nat.le_of_ble_eq_true rfl, Nat.le_of_ble_eq_true rfl⟩ ⟨show 1000 + 1100 * j + 2 ≤ 733361 by omega, show 10000 + 7000 * j + 12 ≤ 6901384 by omega⟩ ?_
            rintro _ _ _ H locs ⟨rfl, rfl, rfl⟩ h
            refine lv_iload X.1 X.2.1 dL_law_1173 (lv_at hl 3 rfl) ?_
            refine lv_bipush (v := nI (51)) X.1 X.2.1 dL_law_1175 (by decide) ?_
            refine b_icmp_ge (tgt := 1185) X dL_law_1177 (by decide) (a := ((rm : Nat) : Int)) (b := ((51 : Nat) : Int)) (nI_ti (by omega)) (nI_ti (by omega)) (fun c4 => ?_) (fun c4 => ?_)
            · skip
              refine lv_ldc (own := RL) (index := 67) (v := (-2000000)) X.1 X.2.1 X.2.2.2.1 (X.2.2.2.2.1.use kco_L_67) dL_law_1185 ?_
              refine b_icmp_ne (tgt := 1194) X dL_law_1187 (by decide) (a := (-2000000)) (b := (-2000000)) ((by decide)) ((by decide)) (fun c5 => ?_) (fun c5 => ?_)
              · skip
                exact absurd c5 (by first | decide | omega)
              · skip
                refine lv_iconst (v := nI (1)) X.1 X.2.1 dL_law_1190 (by decide) ?_
                refine lv_goto (tgt := 1195) X.1 X.2.1 dL_law_1191 (by decide) ?_
                refine lv_istore (lv' := [(12, .int (nI (1))), (21, .int (nI (tdy F (N 0) rg (N 6)))), (22, .int (nI (N 6))), (20, .int (nI (rg))), (19, .int (nI (rm))), (13, .int (nI (j))), (15, .int (nI (one))), (16, .int (nI (two))), (0, .ref b), (1, .ref x), (2, .ref (ar 0)), (3, .ref (ar 1)), (4, .ref (ar 2)), (5, .ref (ar 3)), (6, .ref (ar 4)), (7, .ref (ar 5)), (8, .ref (ar 6)), (9, .ref (ar 7)), (10, .ref (ar 8)), (11, .ref (ar 9))]) X.1 X.2.1 dL_law_1195 hl (by decide) rfl (fun ls hl => ?_)
                refine lv_goto (tgt := 1241) X.1 X.2.1 dL_law_1197 (by decide) ?_
                refine W.widen (k := 1000 + 1100 * j + 40) (n := 10000 + 7000 * j + 400) (show 1000 + 1100 * j + 2 ≤ 1000 + 1100 * j + 40 by omega) (show 10000 + 7000 * j + 12 ≤ 10000 + 7000 * j + 400 by omega) ?_
                exact K N F B _ _ _ (hLI.more) h (lv_sub hl [0, 5, 6, 7, 8, 9, 10, 11, 12, 13, 14, 15, 16, 17, 18, 19] rfl)
            · skip
              exact absurd c4 (by omega)
          · skip
            refine lv_iload X.1 X.2.1 dL_law_1150 (lv_at hl 3 rfl) ?_
            refine lv_goto (tgt := 1162) X.1 X.2.1 dL_law_1152 (by decide) ?_
            refine q_ast X h 9 (by decide) dL_law_1162 (i := 5 + rg) N (set1 F 5 rg rm) B rfl (by show _ < 9; omega) (fun V r => LR.wr r (by omega) _) (fun H locs h => ?_)
            have hK9 : kRoom (nI rg) (nI rm) = 0 := by rw [kRoom_v (by omega) (by omega), if_pos (by omega)]
            refine lv_aload_n X.1 X.2.1 dL_law_1163 rfl (lv_at hl 8 rfl) ?_
            refine lv_iconst (v := nI (1)) X.1 X.2.1 dL_law_1164 (by decide) ?_
            refine lv_iload X.1 X.2.1 dL_law_1165 (lv_at hl 2 rfl) ?_
            refine lv_iload X.1 X.2.1 dL_law_1167 (lv_at hl 3 rfl) ?_
            refine lv_iconst (v := nI (0)) X.1 X.2.1 dL_law_1169 (by decide) ?_
            refine q_callL X hS hZ hN h kcw_L_does kini_L (by decide) kar_L_does kml_L_does kst_L_does dL_law_1170 (As := [.ref x, .int (nI (1)), .int (nI (rg)), .int (nI (rm)), .int (nI (0))]) ((c_L_does_room l G x ar N F B (N, (set1 F 5 rg rm), B) (nI (rg)) (nI (rm)) (nI (0)) hst hI).k (k := 0) (hK9) (w := nI (tdy F (N 0) rg (N 6))) (by show nI (tdy F (N 0) (ix (nI rg)) (N 6)) = nI (tdy F (N 0) rg (N 6)); rw [ix_nI (by omega)]) (C2 := (N, set1 F 5 rg rm, B)) (by rw [fRoom, ix_nI (by omega), ix_nI (by omega)]; rfl)) rfl hl rfl (Nat.le_of_ble_eq_true rfl) ⟨Nat.le_of_ble_eq_true rfl, Nat.le_of_ble_eq_true rfl⟩ ⟨show 1000 + 1100 * j + 2 ≤ 733361 by omega, show 10000 + 7000 * j + 12 ≤ 6901384 by omega⟩ ?_
            rintro _ _ _ H locs ⟨rfl, rfl, rfl⟩ h
            refine lv_iload X.1 X.2.1 dL_law_1173 (lv_at hl 3 rfl) ?_
            refine lv_bipush (v := nI (51)) X.1 X.2.1 dL_law_1175 (by decide) ?_
            refine b_icmp_ge (tgt := 1185) X dL_law_1177 (by decide) (a := ((rm : Nat) : Int)) (b := ((51 : Nat) : Int)) (nI_ti (by omega)) (nI_ti (by omega)) (fun c6 => ?_) (fun c6 => ?_)
            · skip
              exact absurd c6 (by omega)
            · skip
              refine lv_iload X.1 X.2.1 dL_law_1180 (lv_at hl 0 rfl) ?_
              refine lv_goto (tgt := 1187) X.1 X.2.1 dL_law_1182 (by decide) ?_
              refine b_icmp_ne (tgt := 1194) X dL_law_1187 (by decide) (a := ((tdy F (N 0) rg (N 6) : Nat) : Int)) (b := ((tdy F (N 0) rg (N 6) : Nat) : Int)) (nI_ti (by omega)) (nI_ti (by omega)) (fun c7 => ?_) (fun c7 => ?_)
              · skip
                exact absurd c7 (by first | decide | omega)
              · skip
                refine lv_iconst (v := nI (1)) X.1 X.2.1 dL_law_1190 (by decide) ?_
                refine lv_goto (tgt := 1195) X.1 X.2.1 dL_law_1191 (by decide) ?_
                refine lv_istore (lv' := [(12, .int (nI (1))), (21, .int (nI (tdy F (N 0) rg (N 6)))), (22, .int (nI (N 6))), (20, .int (nI (rg))), (19, .int (nI (rm))), (13, .int (nI (j))), (15, .int (nI (one))), (16, .int (nI (two))), (0, .ref b), (1, .ref x), (2, .ref (ar 0)), (3, .ref (ar 1)), (4, .ref (ar 2)), (5, .ref (ar 3)), (6, .ref (ar 4)), (7, .ref (ar 5)), (8, .ref (ar 6)), (9, .ref (ar 7)), (10, .ref (ar 8)), (11, .ref (ar 9))]) X.1 X.2.1 dL_law_1195 hl (by decide) rfl (fun ls hl => ?_)
                refine lv_goto (tgt := 1241) X.1 X.2.1 dL_law_1197 (by decide) ?_
                refine W.widen (k := 1000 + 1100 * j + 40) (n := 10000 + 7000 * j + 400) (show 1000 + 1100 * j + 2 ≤ 1000 + 1100 * j + 40 by omega) (show 10000 + 7000 * j + 12 ≤ 10000 + 7000 * j + 400 by omega) ?_
                exact K N (set1 F 5 rg rm) B _ _ _ (by have z9 := stp_room hLI hK9; rw [fRoom, ix_nI (by omega), ix_nI (by omega)] at z9; exact z9) h (lv_sub hl [0, 5, 6, 7, 8, 9, 10, 11, 12, 13, 14, 15, 16, 17, 18, 19] rfl)
        · skip
          refine lv_iload X.1 X.2.1 dL_law_1094 (lv_at hl 0 rfl) ?_
          refine lv_aload_n X.1 X.2.1 dL_law_1096 rfl (lv_at hl 10 rfl) ?_
          refine lv_iload X.1 X.2.1 dL_law_1097 (lv_at hl 1 rfl) ?_
          refine q_ald X h 1 (by decide) dL_law_1099 (i := j3) (v := nI (mvS F j3)) rfl (by show _ < 60; omega) (fun V r => LR.m1 r (by omega)) ?_
          have b8 := mv_b (hI.ih) (show j3 < N 6 by omega)
          refine lv_sipush (v := nI (256)) X.1 X.2.1 dL_law_1100 (by decide) ?_
          refine lv_idiv X.1 X.2.1 dL_law_1103 (by decide) ?_
          refine lv_top (y := nI ((mvS F j3) / 256)) (pk_div (by omega) (by omega) (by omega)) ?_
          refine lv_iconst (v := nI (4)) X.1 X.2.1 dL_law_1104 (by decide) ?_
          refine lv_irem X.1 X.2.1 dL_law_1105 (by decide) ?_
          refine lv_top (y := nI (F 9 j3)) ((pk_rem (by omega) (by omega) (by omega)).trans (congrArg nI b8.2.2.2.1)) ?_
          refine lv_iload X.1 X.2.1 dL_law_1106 (lv_at hl 2 rfl) ?_
          refine b_icmp_ne (tgt := 1127) X dL_law_1108 (by decide) (a := ((F 9 j3 : Nat) : Int)) (b := ((rg : Nat) : Int)) (nI_ti (by omega)) (nI_ti (by omega)) (fun c9 => ?_) (fun c9 => ?_)
          · skip
            refine lv_iconst (v := nI (0)) X.1 X.2.1 dL_law_1127 (by decide) ?_
            refine lv_iadd X.1 X.2.1 dL_law_1128 ?_
            refine lv_top (y := nI (tdy F (N 0) rg (j3 + 1))) (tdy_a (by first | exact tdy_t (by omega) (by omega) | exact tdy_f (by omega))) ?_
            refine lv_istore (lv' := [(21, .int (nI (tdy F (N 0) rg (j3 + 1)))), (22, .int (nI (j3))), (20, .int (nI (rg))), (19, .int (nI (rm))), (13, .int (nI (j))), (15, .int (nI (one))), (16, .int (nI (two))), (0, .ref b), (1, .ref x), (2, .ref (ar 0)), (3, .ref (ar 1)), (4, .ref (ar 2)), (5, .ref (ar 3)), (6, .ref (ar 4)), (7, .ref (ar 5)), (8, .ref (ar 6)), (9, .ref (ar 7)), (10, .ref (ar 8)), (11, .ref (ar 9))]) X.1 X.2.1 dL_law_1129 hl (by decide) rfl (fun ls hl => ?_)
            refine lv_iinc (v := nI (j3 + 1)) (lv' := [(22, .int (nI (j3 + 1))), (21, .int (nI (tdy F (N 0) rg (j3 + 1)))), (20, .int (nI (rg))), (19, .int (nI (rm))), (13, .int (nI (j))), (15, .int (nI (one))), (16, .int (nI (two))), (0, .ref b), (1, .ref x), (2, .ref (ar 0)), (3, .ref (ar 1)), (4, .ref (ar 2)), (5, .ref (ar 3)), (6, .ref (ar 4)), (7, .ref (ar 5)), (8, .ref (ar 6)), (9, .ref (ar 7)), (10, .ref (ar 8)), (11, .ref (ar 9))]) X.1 X.2.1 dL_law_1131 hl (k := 1) rfl (nI_add (j3) 1) (by decide) rfl (fun ls hl => ?_)
            refine lv_goto (tgt := 1085) X.1 X.2.1 dL_law_1134 (by decide) ?_
            exact ih_loop (j3 + 1) (by omega) (by omega) _ _ _ h (lv_sub hl [1, 0, 2, 3, 4, 5, 6, 7, 8, 9, 10, 11, 12, 13, 14, 15, 16, 17, 18] rfl)
          · skip
            refine lv_aload X.1 X.2.1 dL_law_1111 (lv_at hl 11 rfl) ?_
            refine lv_iload X.1 X.2.1 dL_law_1113 (lv_at hl 1 rfl) ?_
            refine q_ald X h 2 (by decide) dL_law_1115 (i := j3) (v := nI (F 10 (j3))) rfl (by show _ < 60; omega) (fun V r => LR.d2 r (by omega)) ?_
            have b10 := hI.m (m := j3) (by omega)
            refine lv_aload X.1 X.2.1 dL_law_1116 (lv_at hl 18 rfl) ?_
            refine lv_iconst (v := nI (0)) X.1 X.2.1 dL_law_1118 (by decide) ?_
            refine q_ald X h 9 (by decide) dL_law_1119 (i := 0) (v := nI (N 0)) rfl (by show _ < 9; omega) (fun V r => LR.g0 r) ?_
            refine b_icmp_ne (tgt := 1127) X dL_law_1120 (by decide) (a := ((F 10 (j3) : Nat) : Int)) (b := ((N 0 : Nat) : Int)) (nI_ti (by omega)) (nI_ti (by omega)) (fun c11 => ?_) (fun c11 => ?_)
            · skip
              refine lv_iconst (v := nI (0)) X.1 X.2.1 dL_law_1127 (by decide) ?_
              refine lv_iadd X.1 X.2.1 dL_law_1128 ?_
              refine lv_top (y := nI (tdy F (N 0) rg (j3 + 1))) (tdy_a (by first | exact tdy_t (by omega) (by omega) | exact tdy_f (by omega))) ?_
              refine lv_istore (lv' := [(21, .int (nI (tdy F (N 0) rg (j3 + 1)))), (22, .int (nI (j3))), (20, .int (nI (rg))), (19, .int (nI (rm))), (13, .int (nI (j))), (15, .int (nI (one))), (16, .int (nI (two))), (0, .ref b), (1, .ref x), (2, .ref (ar 0)), (3, .ref (ar 1)), (4, .ref (ar 2)), (5, .ref (ar 3)), (6, .ref (ar 4)), (7, .ref (ar 5)), (8, .ref (ar 6)), (9, .ref (ar 7)), (10, .ref (ar 8)), (11, .ref (ar 9))]) X.1 X.2.1 dL_law_1129 hl (by decide) rfl (fun ls hl => ?_)
              refine lv_iinc (v := nI (j3 + 1)) (lv' := [(22, .int (nI (j3 + 1))), (21, .int (nI (tdy F (N 0) rg (j3 + 1)))), (20, .int (nI (rg))), (19, .int (nI (rm))), (13, .int (nI (j))), (15, .int (nI (one))), (16, .int (nI (two))), (0, .ref b), (1, .ref x), (2, .ref (ar 0)), (3, .ref (ar 1)), (4, .ref (ar 2)), (5, .ref (ar 3)), (6, .ref (ar 4)), (7, .ref (ar 5)), (8, .ref (ar 6)), (9, .ref (ar 7)), (10, .ref (ar 8)), (11, .ref (ar 9))]) X.1 X.2.1 dL_law_1131 hl (k := 1) rfl (nI_add (j3) 1) (by decide) rfl (fun ls hl => ?_)
              refine lv_goto (tgt := 1085) X.1 X.2.1 dL_law_1134 (by decide) ?_
              exact ih_loop (j3 + 1) (by omega) (by omega) _ _ _ h (lv_sub hl [1, 0, 2, 3, 4, 5, 6, 7, 8, 9, 10, 11, 12, 13, 14, 15, 16, 17, 18] rfl)
            · skip
              refine lv_iconst (v := nI (1)) X.1 X.2.1 dL_law_1123 (by decide) ?_
              refine lv_goto (tgt := 1128) X.1 X.2.1 dL_law_1124 (by decide) ?_
              refine lv_iadd X.1 X.2.1 dL_law_1128 ?_
              refine lv_top (y := nI (tdy F (N 0) rg (j3 + 1))) (tdy_a (by first | exact tdy_t (by omega) (by omega) | exact tdy_f (by omega))) ?_
              refine lv_istore (lv' := [(21, .int (nI (tdy F (N 0) rg (j3 + 1)))), (22, .int (nI (j3))), (20, .int (nI (rg))), (19, .int (nI (rm))), (13, .int (nI (j))), (15, .int (nI (one))), (16, .int (nI (two))), (0, .ref b), (1, .ref x), (2, .ref (ar 0)), (3, .ref (ar 1)), (4, .ref (ar 2)), (5, .ref (ar 3)), (6, .ref (ar 4)), (7, .ref (ar 5)), (8, .ref (ar 6)), (9, .ref (ar 7)), (10, .ref (ar 8)), (11, .ref (ar 9))]) X.1 X.2.1 dL_law_1129 hl (by decide) rfl (fun ls hl => ?_)
              refine lv_iinc (v := nI (j3 + 1)) (lv' := [(22, .int (nI (j3 + 1))), (21, .int (nI (tdy F (N 0) rg (j3 + 1)))), (20, .int (nI (rg))), (19, .int (nI (rm))), (13, .int (nI (j))), (15, .int (nI (one))), (16, .int (nI (two))), (0, .ref b), (1, .ref x), (2, .ref (ar 0)), (3, .ref (ar 1)), (4, .ref (ar 2)), (5, .ref (ar 3)), (6, .ref (ar 4)), (7, .ref (ar 5)), (8, .ref (ar 6)), (9, .ref (ar 7)), (10, .ref (ar 8)), (11, .ref (ar 9))]) X.1 X.2.1 dL_law_1131 hl (k := 1) rfl (nI_add (j3) 1) (by decide) rfl (fun ls hl => ?_)
              refine lv_goto (tgt := 1085) X.1 X.2.1 dL_law_1134 (by decide) ?_
              exact ih_loop (j3 + 1) (by omega) (by omega) _ _ _ h (lv_sub hl [1, 0, 2, 3, 4, 5, 6, 7, 8, 9, 10, 11, 12, 13, 14, 15, 16, 17, 18] rfl)
    exact loop (N 6 + 1) 0 (by omega) (by omega) _ _ _ h (lv_sub hl [1, 0, 2, 3, 4, 5, 6, 7, 8, 9, 10, 11, 12, 13, 14, 15, 16, 17, 18] rfl)
  refine lv_iload X.1 X.2.1 dL_law_1048 (lv_at hl 2 rfl) ?_
  refine lv_bipush (v := nI (6)) X.1 X.2.1 dL_law_1050 (by decide) ?_
  refine lv_irem X.1 X.2.1 dL_law_1052 (by decide) ?_
  refine lv_top (y := nI (two % 6)) (pk_rem (by omega) (by omega) (by omega)) ?_
  refine b_if_ne (tgt := 1067) X dL_law_1053 (by decide) (a := ((two % 6 : Nat) : Int)) (nI_ti (by omega)) (fun c12 => ?_) (fun c12 => ?_)
  · skip
    refine lv_iload X.1 X.2.1 dL_law_1067 (lv_at hl 2 rfl) ?_
    refine lv_iconst (v := nI (4)) X.1 X.2.1 dL_law_1069 (by decide) ?_
    refine lv_irem X.1 X.2.1 dL_law_1070 (by decide) ?_
    refine lv_top (y := nI (two % 4)) (pk_rem (by omega) (by omega) (by omega)) ?_
    exact K1071 (two % 4) (by omega) _ _ _ h (lv_sub hl [0, 1, 2, 3, 4, 5, 6, 7, 8, 9, 10, 11, 12, 13, 14] rfl)
  · skip
    refine lv_iload X.1 X.2.1 dL_law_1056 (lv_at hl 2 rfl) ?_
    refine lv_bipush (v := nI (6)) X.1 X.2.1 dL_law_1058 (by decide) ?_
    refine lv_idiv X.1 X.2.1 dL_law_1060 (by decide) ?_
    refine lv_top (y := nI (two / 6)) (pk_div (by omega) (by omega) (by omega)) ?_
    refine lv_bipush (v := nI (52)) X.1 X.2.1 dL_law_1061 (by decide) ?_
    refine lv_irem X.1 X.2.1 dL_law_1063 (by decide) ?_
    refine lv_top (y := nI ((two / 6) % 52)) (pk_rem (by omega) (by omega) (by omega)) ?_
    refine lv_goto (tgt := 1071) X.1 X.2.1 dL_law_1064 (by decide) ?_
    exact K1071 ((two / 6) % 52) (by omega) _ _ _ h (lv_sub hl [0, 1, 2, 3, 4, 5, 6, 7, 8, 9, 10, 11, 12, 13, 14] rfl)
set_option maxHeartbeats 4000000 in
set_option maxRecDepth 100000 in
theorem law_pass {p : Program} {l : Launch} {e : Env} {s : State} {m : MethodId} {below : List Frame} {meth : Method} {c : Code} {H : Heap} {locs : List Loc} {ls : Array Slot} {G : mG} {x : Nat} {ar : Nat → Nat} {j b one two : Nat} {N : Nat → Nat} {F : Nat → Nat → Nat} {B : Nat → Int32}  (X : Cx p c s m cL_law RL 23 G) (hS : XS s) (hZ : XZ G (lA s) s s.heap) (hN : NC s) (hst : l.stackTraces = false) (hLI : LI j N F B) (hjj : j < 64) (hone : one < 60000) (htwo : two < 60000)  (h : qM G (lA s) s x ar (N, F, B) (N, F, B) H locs) (hl : lv_has ls 23 [(13, .int (nI (j))), (15, .int (nI (one))), (16, .int (nI (two))), (0, .ref b), (1, .ref x), (2, .ref (ar 0)), (3, .ref (ar 1)), (4, .ref (ar 2)), (5, .ref (ar 3)), (6, .ref (ar 4)), (7, .ref (ar 5)), (8, .ref (ar 6)), (9, .ref (ar 7)), (10, .ref (ar 8)), (11, .ref (ar 9))]) (K : LK p l e s m below meth c G x ar j b one two) : W p l e room_1 s m #[Value.ref b] below meth c H locs (1000 + 1100 * j) (10000 + 7000 * j) (lw_Z below #[Value.ref b] s) (F0 m 1200 ls []) := by
  have hI := hLI.1
  have hJ := hLI.2.1
  have hn := hI.n
  have h6 := qM.n6 h
  refine lv_iconst (v := nI (1)) X.1 X.2.1 dL_law_1200 (by decide) ?_
  refine lv_iload X.1 X.2.1 dL_law_1201 (lv_at hl 1 rfl) ?_
  refine lv_iconst (v := nI (3)) X.1 X.2.1 dL_law_1203 (by decide) ?_
  refine lv_irem X.1 X.2.1 dL_law_1204 (by decide) ?_
  refine lv_top (y := nI (one % 3)) (pk_rem (by omega) (by omega) (by omega)) ?_
  refine lv_iadd X.1 X.2.1 dL_law_1205 ?_
  refine lv_top (y := nI (1 + (one % 3))) (nI_add _ _) ?_
  obtain ⟨dy, hdy⟩ : ∃ dy, 1 + (one % 3) = dy := ⟨_, rfl⟩
  rw [hdy]
  have hdy3 : 1 ≤ dy ∧ dy ≤ 3 := by omega
  refine lv_istore (lv' := [(19, .int (nI (dy))), (13, .int (nI (j))), (15, .int (nI (one))), (16, .int (nI (two))), (0, .ref b), (1, .ref x), (2, .ref (ar 0)), (3, .ref (ar 1)), (4, .ref (ar 2)), (5, .ref (ar 3)), (6, .ref (ar 4)), (7, .ref (ar 5)), (8, .ref (ar 6)), (9, .ref (ar 7)), (10, .ref (ar 8)), (11, .ref (ar 9))]) X.1 X.2.1 dL_law_1206 hl (by decide) rfl (fun ls hl => ?_)
  refine lv_aload X.1 X.2.1 dL_law_1208 (lv_at hl 15 rfl) ?_
  refine lv_iconst (v := nI (0)) X.1 X.2.1 dL_law_1210 (by decide) ?_
  refine lv_dup2_11 X.1 X.2.1 dL_law_1211 rfl rfl ?_
  refine q_ald X h 9 (by decide) dL_law_1212 (i := 0) (v := nI (N 0)) rfl (by show _ < 9; omega) (fun V r => LR.g0 r) ?_
  refine lv_iload X.1 X.2.1 dL_law_1213 (lv_at hl 0 rfl) ?_
  refine lv_iadd X.1 X.2.1 dL_law_1215 ?_
  refine lv_top (y := nI (N 0 + dy)) (nI_add _ _) ?_
  refine q_ast X h 9 (by decide) dL_law_1216 (i := 0) (va_up N 0 (N 0 + dy)) F B rfl (by show _ < 9; omega) (fun V r => LR.wday r _) (fun H locs h => ?_)
  have hK9 : kPass (nI dy) = 0 := kPass_0 (by omega) (by omega)
  refine lv_aload_n X.1 X.2.1 dL_law_1217 rfl (lv_at hl 5 rfl) ?_
  refine lv_bipush (v := nI (9)) X.1 X.2.1 dL_law_1218 (by decide) ?_
  refine lv_iload X.1 X.2.1 dL_law_1220 (lv_at hl 0 rfl) ?_
  refine lv_iconst (v := nI (0)) X.1 X.2.1 dL_law_1222 (by decide) ?_
  refine lv_iconst (v := nI (0)) X.1 X.2.1 dL_law_1223 (by decide) ?_
  refine q_callL X hS hZ hN h kcw_L_does kini_L (by decide) kar_L_does kml_L_does kst_L_does dL_law_1224 (As := [.ref x, .int (nI (9)), .int (nI (dy)), .int (nI (0)), .int (nI (0))]) ((c_L_does_pass l G x ar N F B ((va_up N 0 (N 0 + dy)), F, B) (nI (dy)) (nI (0)) (nI (0)) hst hI).k (k := 0) (hK9) (w := nI (N 0 + dy)) (by show nI (N 0 + ix (nI dy)) = nI (N 0 + dy); rw [ix_nI (by omega)]) (C2 := (va_up N 0 (N 0 + dy), F, B)) (by rw [ix_nI (by omega)]; rfl)) rfl hl rfl (Nat.le_of_ble_eq_true rfl) ⟨Nat.le_of_ble_eq_true rfl, Nat.le_of_ble_eq_true rfl⟩ ⟨show 1000 + 1100 * j + 1 ≤ 733361 by omega, show 10000 + 7000 * j + 6 ≤ 6901384 by omega⟩ ?_
  rintro _ _ _ H locs ⟨rfl, rfl, rfl⟩ h
  refine lv_aload X.1 X.2.1 dL_law_1227 (lv_at hl 15 rfl) ?_
  refine lv_iconst (v := nI (0)) X.1 X.2.1 dL_law_1229 (by decide) ?_
  refine q_ald X h 9 (by decide) dL_law_1230 (i := 0) (v := nI (N 0 + dy)) rfl (by show _ < 9; omega) (fun V r => have z9 := LR.g0 r; z9) ?_
  refine b_icmp_ne (tgt := 1238) X dL_law_1231 (by decide) (a := ((N 0 + dy : Nat) : Int)) (b := ((N 0 + dy : Nat) : Int)) (nI_ti (by omega)) (nI_ti (by omega)) (fun c1 => ?_) (fun c1 => ?_)
  · skip
    exact absurd c1 (by first | decide | omega)
  · skip
    refine lv_iconst (v := nI (1)) X.1 X.2.1 dL_law_1234 (by decide) ?_
    refine lv_goto (tgt := 1239) X.1 X.2.1 dL_law_1235 (by decide) ?_
    refine lv_istore (lv' := [(12, .int (nI (1))), (19, .int (nI (dy))), (13, .int (nI (j))), (15, .int (nI (one))), (16, .int (nI (two))), (0, .ref b), (1, .ref x), (2, .ref (ar 0)), (3, .ref (ar 1)), (4, .ref (ar 2)), (5, .ref (ar 3)), (6, .ref (ar 4)), (7, .ref (ar 5)), (8, .ref (ar 6)), (9, .ref (ar 7)), (10, .ref (ar 8)), (11, .ref (ar 9))]) X.1 X.2.1 dL_law_1239 hl (by decide) rfl (fun ls hl => ?_)
    refine W.widen (k := 1000 + 1100 * j + 40) (n := 10000 + 7000 * j + 400) (show 1000 + 1100 * j + 1 ≤ 1000 + 1100 * j + 40 by omega) (show 10000 + 7000 * j + 6 ≤ 10000 + 7000 * j + 400 by omega) ?_
    exact K (va_up N 0 (N 0 + dy)) F B _ _ _ (by have z9 := stp_pass hLI (by omega) hK9; rw [ix_nI (by omega)] at z9; exact z9) h (lv_sub hl [0, 2, 3, 4, 5, 6, 7, 8, 9, 10, 11, 12, 13, 14, 15, 16] rfl)
