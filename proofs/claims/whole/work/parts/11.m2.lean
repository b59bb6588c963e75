set_option maxHeartbeats 4000000 in
set_option maxRecDepth 100000 in
theorem c_X7_today (l : Launch) (G : mG) (x : Nat) (ar N : Nat → Nat) (F : Nat → Nat → Nat) (B : Nat → Int32) (r0 : Nat) (hI : Iv N F) (hr0 : r0 < 4) : MMet l yX7_today cX7_today 4 (some FieldType.int) ({ frames := 0, cells := 0, slots := 0, locals := 0 } : Room) G x ar [.ref x, .int (nI (r0))] N F B (fun r N' F' B' => r = some (.int (nI (tdy F (N 0) r0 (N 6)))) ∧ N = N' ∧ F = F' ∧ B = B') := by
  refine MMet.of (by decide) (Nat.le_of_ble_eq_true rfl) ?_
  intro p e s m args below meth c A ls X hr hlocks h hl
  have hl : lv_has ls 4 [(0, .ref x), (1, .int (nI (r0)))] := hl
  have hn := hI.n
  refine lv_iconst (v := nI (0)) X.1 X.2.1 dX7_today_0 (by decide) ?_
  refine lv_istore_n (lv' := [(2, .int (nI (0))), (0, .ref x), (1, .int (nI (r0)))]) X.1 X.2.1 dX7_today_1 rfl hl (by decide) rfl (fun ls hl => ?_)
  refine lv_iconst (v := nI (0)) X.1 X.2.1 dX7_today_2 (by decide) ?_
  refine lv_istore_n (lv' := [(3, .int (nI (0))), (2, .int (nI (0))), (0, .ref x), (1, .int (nI (r0)))]) X.1 X.2.1 dX7_today_3 rfl hl (by decide) rfl (fun ls hl => ?_)
  have loop : ∀ (n9 : Nat) (i : Nat) (t : Nat), (i ≤ N 6) → (N 6 + 1 ≤ i + n9) → (t = tdy F (N 0) r0 i) → ∀ (H : Heap) (locs : List Loc) (ls : Array Slot), mM G A s.heap x ar N F B H locs → lv_has ls 4 [(0, .ref x), (1, .int (nI (r0))), (2, .int (nI (t))), (3, .int (nI (i)))] → W p l e ({ frames := 0, cells := 0, slots := 0, locals := 0 } : Room) s m args below meth c H locs 0 0 (MZ G A x ar (fun r N' F' B' => r = some (.int (nI (tdy F (N 0) r0 (N 6)))) ∧ N = N' ∧ F = F' ∧ B = B') below args s 0 0) (F0 m 4 ls []) := by
    intro n9
    induction n9 with
    | zero => intro i t hi hm9 ht; exact absurd hm9 (by omega)
    | succ n9 ih_loop =>
      intro i t hi hm9 ht H locs ls h hl
      have ht2 := tdy_le F (N 0) r0 i
      refine lv_iload_n X.1 X.2.1 dX7_today_4 rfl (lv_at hl 3 rfl) ?_
      refine lv_aload_n X.1 X.2.1 dX7_today_5 rfl (lv_at hl 0 rfl) ?_
      refine mr_get X h kf_X7_97 (by decide) dX7_today_6 (v := .int (nI (N 6))) rfl ?_
      refine b_icmp_ge (tgt := 49) X dX7_today_9 (by decide) (a := ((i : Nat) : Int)) (b := ((N 6 : Nat) : Int)) (nI_ti (by omega)) (nI_ti (by omega)) (fun c1 => ?_) (fun c1 => ?_)
      · skip
        refine lv_iload_n X.1 X.2.1 dX7_today_49 rfl (lv_at hl 2 rfl) ?_
        exact mr_iret X hr hlocks h dX7_today_50 ⟨Nat.le_of_ble_eq_true rfl, Nat.le_of_ble_eq_true rfl⟩ (⟨by subst ht; rw [show i = N 6 by omega], rfl, rfl, rfl⟩)
      · skip
        refine lv_iload_n X.1 X.2.1 dX7_today_12 rfl (lv_at hl 2 rfl) ?_
        refine lv_aload_n X.1 X.2.1 dX7_today_13 rfl (lv_at hl 0 rfl) ?_
        refine mr_get X h kf_X7_28 (by decide) dX7_today_14 rfl ?_
        refine lv_iload_n X.1 X.2.1 dX7_today_17 rfl (lv_at hl 3 rfl) ?_
        refine mr_ald X h 9 rfl dX7_today_18 (i := i) (v := nI (F 9 (i))) rfl (by show _ < 100; omega) rfl ?_
        have b2 := hI.m (m := i) (by omega)
        refine lv_iload_n X.1 X.2.1 dX7_today_19 rfl (lv_at hl 1 rfl) ?_
        refine b_icmp_ne (tgt := 40) X dX7_today_20 (by decide) (a := ((F 9 (i) : Nat) : Int)) (b := ((r0 : Nat) : Int)) (nI_ti (by omega)) (nI_ti (by omega)) (fun c3 => ?_) (fun c3 => ?_)
        · skip
          refine lv_iconst (v := nI (0)) X.1 X.2.1 dX7_today_40 (by decide) ?_
          refine lv_iadd X.1 X.2.1 dX7_today_41 ?_
          refine lv_top (y := nI (t + 0)) (nI_add _ _) ?_
          refine lv_istore_n (lv' := [(2, .int (nI (t + 0))), (0, .ref x), (1, .int (nI (r0))), (3, .int (nI (i)))]) X.1 X.2.1 dX7_today_42 rfl hl (by decide) rfl (fun ls hl => ?_)
          refine lv_iinc (v := nI (i + 1)) (lv' := [(3, .int (nI (i + 1))), (2, .int (nI (t + 0))), (0, .ref x), (1, .int (nI (r0)))]) X.1 X.2.1 dX7_today_43 hl (k := 3) rfl (nI_add (i) 1) (by decide) rfl (fun ls hl => ?_)
          refine lv_goto (tgt := 4) X.1 X.2.1 dX7_today_46 (by decide) ?_
          exact ih_loop (i + 1) (t + 0) (by omega) (by omega) (by subst ht; first | exact tdy_t (by omega) (by omega) | exact tdy_f (by omega)) _ _ _ h (lv_sub hl [2, 3, 1, 0] rfl)
        · skip
          refine lv_aload_n X.1 X.2.1 dX7_today_23 rfl (lv_at hl 0 rfl) ?_
          refine mr_get X h kf_X7_31 (by decide) dX7_today_24 rfl ?_
          refine lv_iload_n X.1 X.2.1 dX7_today_27 rfl (lv_at hl 3 rfl) ?_
          refine mr_ald X h 10 rfl dX7_today_28 (i := i) (v := nI (F 10 (i))) rfl (by show _ < 100; omega) rfl ?_
          refine lv_aload_n X.1 X.2.1 dX7_today_29 rfl (lv_at hl 0 rfl) ?_
          refine mr_get X h kf_X7_90 (by decide) dX7_today_30 (v := .int (nI (N 0))) rfl ?_
          refine b_icmp_ne (tgt := 40) X dX7_today_33 (by decide) (a := ((F 10 (i) : Nat) : Int)) (b := ((N 0 : Nat) : Int)) (nI_ti (by omega)) (nI_ti (by omega)) (fun c4 => ?_) (fun c4 => ?_)
          · skip
            refine lv_iconst (v := nI (0)) X.1 X.2.1 dX7_today_40 (by decide) ?_
            refine lv_iadd X.1 X.2.1 dX7_today_41 ?_
            refine lv_top (y := nI (t + 0)) (nI_add _ _) ?_
            refine lv_istore_n (lv' := [(2, .int (nI (t + 0))), (0, .ref x), (1, .int (nI (r0))), (3, .int (nI (i)))]) X.1 X.2.1 dX7_today_42 rfl hl (by decide) rfl (fun ls hl => ?_)
            refine lv_iinc (v := nI (i + 1)) (lv' := [(3, .int (nI (i + 1))), (2, .int (nI (t + 0))), (0, .ref x), (1, .int (nI (r0)))]) X.1 X.2.1 dX7_today_43 hl (k := 3) rfl (nI_add (i) 1) (by decide) rfl (fun ls hl => ?_)
            refine lv_goto (tgt := 4) X.1 X.2.1 dX7_today_46 (by decide) ?_
            exact ih_loop (i + 1) (t + 0) (by omega) (by omega) (by subst ht; first | exact tdy_t (by omega) (by omega) | exact tdy_f (by omega)) _ _ _ h (lv_sub hl [2, 3, 1, 0] rfl)
          · skip
            refine lv_iconst (v := nI (1)) X.1 X.2.1 dX7_today_36 (by decide) ?_
            refine lv_goto (tgt := 41) X.1 X.2.1 dX7_today_37 (by decide) ?_
            refine lv_iadd X.1 X.2.1 dX7_today_41 ?_
            refine lv_top (y := nI (t + 1)) (nI_add _ _) ?_
            refine lv_istore_n (lv' := [(2, .int (nI (t + 1))), (0, .ref x), (1, .int (nI (r0))), (3, .int (nI (i)))]) X.1 X.2.1 dX7_today_42 rfl hl (by decide) rfl (fun ls hl => ?_)
            refine lv_iinc (v := nI (i + 1)) (lv' := [(3, .int (nI (i + 1))), (2, .int (nI (t + 1))), (0, .ref x), (1, .int (nI (r0)))]) X.1 X.2.1 dX7_today_43 hl (k := 3) rfl (nI_add (i) 1) (by decide) rfl (fun ls hl => ?_)
            refine lv_goto (tgt := 4) X.1 X.2.1 dX7_today_46 (by decide) ?_
            exact ih_loop (i + 1) (t + 1) (by omega) (by omega) (by subst ht; first | exact tdy_t (by omega) (by omega) | exact tdy_f (by omega)) _ _ _ h (lv_sub hl [2, 3, 1, 0] rfl)
  exact loop (N 6 + 1) 0 0 (by omega) (by omega) rfl _ _ _ h (lv_sub hl [2, 3, 1, 0] rfl)
set_option maxHeartbeats 4000000 in
set_option maxRecDepth 100000 in
theorem c_X7_counts (l : Launch) (G : mG) (x : Nat) (ar N : Nat → Nat) (F : Nat → Nat → Nat) (B : Nat → Int32) (s0 : Nat) (hI : Iv N F) (hs0 : s0 ≤ 11) : MMet l yX7_counts cX7_counts 3 none ({ frames := 1, cells := 0, slots := 0, locals := 22 } : Room) G x ar [.ref x, .int (nI (s0))] N F B (fun r N' F' B' => r = none ∧ N = N' ∧ B = B' ∧ ∃ g q : Nat → Nat, F' = sc2 F g q ∧ ∀ p, p < N 1 → g p = pts F s0 p (N 6) ∧ q p = gms F s0 p (N 6)) := by
  refine MMet.of (by decide) (Nat.le_of_ble_eq_true rfl) ?_
  intro p e s m args below meth c A ls X hr hlocks h hl
  have hl : lv_has ls 3 [(0, .ref x), (1, .int (nI (s0)))] := hl
  have hn := hI.n
  have h : mM G A s.heap x ar N (sc2 F (F 25) (F 26)) B s.heap [] := by rw [sc2_self]; exact h
  refine lv_iconst (v := nI (0)) X.1 X.2.1 dX7_counts_0 (by decide) ?_
  refine lv_istore_n (lv' := [(2, .int (nI (0))), (0, .ref x), (1, .int (nI (s0)))]) X.1 X.2.1 dX7_counts_1 rfl hl (by decide) rfl (fun ls hl => ?_)
  have loop : ∀ (n9 : Nat) (i : Nat) (g : Nat → Nat) (q : Nat → Nat), (i ≤ N 1) → (N 1 + 1 ≤ i + n9) → (∀ p, p < i → g p = 0 ∧ q p = 0) → ∀ (H : Heap) (locs : List Loc) (ls : Array Slot), mM G A s.heap x ar N (sc2 F g q) B H locs → lv_has ls 3 [(0, .ref x), (1, .int (nI (s0))), (2, .int (nI (i)))] → W p l e ({ frames := 1, cells := 0, slots := 0, locals := 22 } : Room) s m args below meth c H locs 0 0 (MZ G A x ar (fun r N' F' B' => r = none ∧ N = N' ∧ B = B' ∧ ∃ g q : Nat → Nat, F' = sc2 F g q ∧ ∀ p, p < N 1 → g p = pts F s0 p (N 6) ∧ q p = gms F s0 p (N 6)) below args s 0 0) (F0 m 2 ls []) := by
    intro n9
    induction n9 with
    | zero => intro i g q hi hm9 hg; exact absurd hm9 (by omega)
    | succ n9 ih_loop =>
      intro i g q hi hm9 hg H locs ls h hl
      refine lv_iload_n X.1 X.2.1 dX7_counts_2 rfl (lv_at hl 2 rfl) ?_
      refine lv_aload_n X.1 X.2.1 dX7_counts_3 rfl (lv_at hl 0 rfl) ?_
      refine mr_get X h kf_X7_83 (by decide) dX7_counts_4 (v := .int (nI (N 1))) rfl ?_
      refine b_icmp_ge (tgt := 30) X dX7_counts_7 (by decide) (a := ((i : Nat) : Int)) (b := ((N 1 : Nat) : Int)) (nI_ti (by omega)) (nI_ti (by omega)) (fun c1 => ?_) (fun c1 => ?_)
      · skip
        refine lv_iconst (v := nI (0)) X.1 X.2.1 dX7_counts_30 (by decide) ?_
        refine lv_istore_n (lv' := [(2, .int (nI (0))), (0, .ref x), (1, .int (nI (s0)))]) X.1 X.2.1 dX7_counts_31 rfl hl (by decide) rfl (fun ls hl => ?_)
        have loop2 : ∀ (n9 : Nat) (i2 : Nat) (g2 : Nat → Nat) (q2 : Nat → Nat), (i2 ≤ N 6) → (N 6 + 1 ≤ i2 + n9) → (∀ p, p < N 1 → g2 p = pts F s0 p i2 ∧ q2 p = gms F s0 p i2) → ∀ (H : Heap) (locs : List Loc) (ls : Array Slot), mM G A s.heap x ar N (sc2 F g2 q2) B H locs → lv_has ls 3 [(0, .ref x), (1, .int (nI (s0))), (2, .int (nI (i2)))] → W p l e ({ frames := 1, cells := 0, slots := 0, locals := 22 } : Room) s m args below meth c H locs 0 0 (MZ G A x ar (fun r N' F' B' => r = none ∧ N = N' ∧ B = B' ∧ ∃ g q : Nat → Nat, F' = sc2 F g q ∧ ∀ p, p < N 1 → g p = pts F s0 p (N 6) ∧ q p = gms F s0 p (N 6)) below args s 0 0) (F0 m 32 ls []) := by
          intro n9
          induction n9 with
          | zero => intro i2 g2 q2 hi2 hm9 hg2; exact absurd hm9 (by omega)
          | succ n9 ih_loop2 =>
            intro i2 g2 q2 hi2 hm9 hg2 H locs ls h hl
            refine lv_iload_n X.1 X.2.1 dX7_counts_32 rfl (lv_at hl 2 rfl) ?_
            refine lv_aload_n X.1 X.2.1 dX7_counts_33 rfl (lv_at hl 0 rfl) ?_
            refine mr_get X h kf_X7_97 (by decide) dX7_counts_34 (v := .int (nI (N 6))) rfl ?_
            refine b_icmp_ge (tgt := 124) X dX7_counts_37 (by decide) (a := ((i2 : Nat) : Int)) (b := ((N 6 : Nat) : Int)) (nI_ti (by omega)) (nI_ti (by omega)) (fun c2 => ?_) (fun c2 => ?_)
            · skip
              exact mr_vret X hr hlocks h dX7_counts_124 ⟨Nat.le_of_ble_eq_true rfl, Nat.le_of_ble_eq_true rfl⟩ (⟨rfl, rfl, rfl, g2, q2, rfl, by rw [show i2 = N 6 by omega] at hg2; exact hg2⟩)
            · skip
              refine lv_aload_n X.1 X.2.1 dX7_counts_40 rfl (lv_at hl 0 rfl) ?_
              refine mr_get X h kf_X7_34 (by decide) dX7_counts_41 rfl ?_
              refine lv_iload_n X.1 X.2.1 dX7_counts_44 rfl (lv_at hl 2 rfl) ?_
              refine mr_ald X h 11 rfl dX7_counts_45 (i := i2) (v := nI (F 11 (i2))) rfl (by show _ < 100; omega) rfl ?_
              have b3 := hI.m (m := i2) (by omega)
              refine lv_iload_n X.1 X.2.1 dX7_counts_46 rfl (lv_at hl 1 rfl) ?_
              refine b_icmp_ne (tgt := 118) X dX7_counts_47 (by decide) (a := ((F 11 (i2) : Nat) : Int)) (b := ((s0 : Nat) : Int)) (nI_ti (by omega)) (nI_ti (by omega)) (fun c4 => ?_) (fun c4 => ?_)
              · skip
                refine lv_iinc (v := nI (i2 + 1)) (lv' := [(2, .int (nI (i2 + 1))), (0, .ref x), (1, .int (nI (s0)))]) X.1 X.2.1 dX7_counts_118 hl (k := 2) rfl (nI_add (i2) 1) (by decide) rfl (fun ls hl => ?_)
                refine lv_goto (tgt := 32) X.1 X.2.1 dX7_counts_121 (by decide) ?_
                exact ih_loop2 (i2 + 1) (g2) (q2) (by omega) (by omega) (by first | exact cnt_t hg2 (by omega) (by assumption) | exact cnt_f hg2 (fun z => absurd z.1 (by omega)) | exact cnt_f hg2 (fun z => absurd z.2 (by simp [*]))) _ _ _ h (lv_sub hl [1, 2, 0] rfl)
              · skip
                refine lv_aload_n X.1 X.2.1 dX7_counts_50 rfl (lv_at hl 0 rfl) ?_
                refine lv_iload_n X.1 X.2.1 dX7_counts_51 rfl (lv_at hl 2 rfl) ?_
                refine mr_callV X h ck_X7_116 ki_X7_isGood ks_X7_isGood dX7_counts_52 (As := [.int (nI (i2))]) (c_X7_isGood l G x ar N (sc2 F g2 q2) B i2 hI (show i2 < N 6 by omega)) rfl hl rfl (Nat.le_of_ble_eq_true rfl) ⟨Nat.le_of_ble_eq_true rfl, Nat.le_of_ble_eq_true rfl⟩ ⟨Nat.le_of_ble_eq_true rfl, Nat.le_of_ble_eq_true rfl⟩ ?_
                rintro _ _ _ _ H locs ⟨rfl, rfl, rfl, rfl⟩ h
                refine lv_top (y := bI (goodS F (i2))) rfl ?_
                refine b_bool_eq (tgt := 118) X dX7_counts_55 (by decide) (fun c5 => ?_) (fun c5 => ?_)
                · skip
                  refine lv_iinc (v := nI (i2 + 1)) (lv' := [(2, .int (nI (i2 + 1))), (0, .ref x), (1, .int (nI (s0)))]) X.1 X.2.1 dX7_counts_118 hl (k := 2) rfl (nI_add (i2) 1) (by decide) rfl (fun ls hl => ?_)
                  refine lv_goto (tgt := 32) X.1 X.2.1 dX7_counts_121 (by decide) ?_
                  exact ih_loop2 (i2 + 1) (g2) (q2) (by omega) (by omega) (by first | exact cnt_t hg2 (by omega) (by assumption) | exact cnt_f hg2 (fun z => absurd z.1 (by omega)) | exact cnt_f hg2 (fun z => absurd z.2 (by simp [*]))) _ _ _ h (lv_sub hl [1, 2, 0] rfl)
                · skip
                  refine lv_aload_n X.1 X.2.1 dX7_counts_58 rfl (lv_at hl 0 rfl) ?_
                  refine mr_get X h kf_X7_70 (by decide) dX7_counts_59 rfl ?_
                  refine lv_aload_n X.1 X.2.1 dX7_counts_62 rfl (lv_at hl 0 rfl) ?_
                  refine mr_get X h kf_X7_22 (by decide) dX7_counts_63 rfl ?_
                  refine lv_iload_n X.1 X.2.1 dX7_counts_66 rfl (lv_at hl 2 rfl) ?_
                  refine mr_ald X h 7 rfl dX7_counts_67 (i := i2) (v := nI (F 7 (i2))) rfl (by show _ < 100; omega) rfl ?_
                  refine lv_dup2_11 X.1 X.2.1 dX7_counts_68 rfl rfl ?_
                  refine mr_ald X h 25 rfl dX7_counts_69 (i := F 7 (i2)) (v := nI (g2 (F 7 (i2)))) rfl (by show _ < 16; omega) rfl ?_
                  have b6 := (cnt_b hg2 (by omega) (q := (F 7 (i2))) (by omega))
                  refine lv_iconst (v := nI (3)) X.1 X.2.1 dX7_counts_70 (by decide) ?_
                  refine lv_iadd X.1 X.2.1 dX7_counts_71 ?_
                  refine lv_top (y := nI (g2 (F 7 (i2)) + 3)) (nI_add _ _) ?_
                  refine mr_ast X h 25 rfl (by decide) dX7_counts_72 (i := F 7 (i2)) (v := g2 (F 7 (i2)) + 3) rfl (by show _ < 16; omega) rfl (fun H locs h => ?_)
                  rw [sc2_25] at h
                  refine lv_aload_n X.1 X.2.1 dX7_counts_73 rfl (lv_at hl 0 rfl) ?_
                  refine mr_get X h kf_X7_70 (by decide) dX7_counts_74 rfl ?_
                  refine lv_aload_n X.1 X.2.1 dX7_counts_77 rfl (lv_at hl 0 rfl) ?_
                  refine mr_get X h kf_X7_25 (by decide) dX7_counts_78 rfl ?_
                  refine lv_iload_n X.1 X.2.1 dX7_counts_81 rfl (lv_at hl 2 rfl) ?_
                  refine mr_ald X h 8 rfl dX7_counts_82 (i := i2) (v := nI (F 8 (i2))) rfl (by show _ < 100; omega) rfl ?_
                  refine lv_dup2_11 X.1 X.2.1 dX7_counts_83 rfl rfl ?_
                  refine mr_ald X h 25 rfl dX7_counts_84 (i := F 8 (i2)) (v := nI ((va_up g2 (F 7 (i2)) (g2 (F 7 (i2)) + 3)) (F 8 (i2)))) rfl (by show _ < 16; omega) rfl ?_
                  have b7 := (cnt_b hg2 (by omega) (q := (F 8 (i2))) (by omega))
                  refine lv_iconst (v := nI (1)) X.1 X.2.1 dX7_counts_85 (by decide) ?_
                  refine lv_iadd X.1 X.2.1 dX7_counts_86 ?_
                  refine lv_top (y := nI ((va_up g2 (F 7 (i2)) (g2 (F 7 (i2)) + 3)) (F 8 (i2)) + 1)) (nI_add _ _) ?_
                  refine mr_ast X h 25 rfl (by decide) dX7_counts_87 (i := F 8 (i2)) (v := (va_up g2 (F 7 (i2)) (g2 (F 7 (i2)) + 3)) (F 8 (i2)) + 1) rfl (by show _ < 16; omega) rfl (fun H locs h => ?_)
                  rw [sc2_25] at h
                  refine lv_aload_n X.1 X.2.1 dX7_counts_88 rfl (lv_at hl 0 rfl) ?_
                  refine mr_get X h kf_X7_73 (by decide) dX7_counts_89 rfl ?_
                  refine lv_aload_n X.1 X.2.1 dX7_counts_92 rfl (lv_at hl 0 rfl) ?_
                  refine mr_get X h kf_X7_22 (by decide) dX7_counts_93 rfl ?_
                  refine lv_iload_n X.1 X.2.1 dX7_counts_96 rfl (lv_at hl 2 rfl) ?_
                  refine mr_ald X h 7 rfl dX7_counts_97 (i := i2) (v := nI (F 7 (i2))) rfl (by show _ < 100; omega) rfl ?_
                  refine lv_dup2_11 X.1 X.2.1 dX7_counts_98 rfl rfl ?_
                  refine mr_ald X h 26 rfl dX7_counts_99 (i := F 7 (i2)) (v := nI (q2 (F 7 (i2)))) rfl (by show _ < 16; omega) rfl ?_
                  have b8 := (cnt_b hg2 (by omega) (q := (F 7 (i2))) (by omega))
                  refine lv_iconst (v := nI (1)) X.1 X.2.1 dX7_counts_100 (by decide) ?_
                  refine lv_iadd X.1 X.2.1 dX7_counts_101 ?_
                  refine lv_top (y := nI (q2 (F 7 (i2)) + 1)) (nI_add _ _) ?_
                  refine mr_ast X h 26 rfl (by decide) dX7_counts_102 (i := F 7 (i2)) (v := q2 (F 7 (i2)) + 1) rfl (by show _ < 16; omega) rfl (fun H locs h => ?_)
                  rw [sc2_26] at h
                  refine lv_aload_n X.1 X.2.1 dX7_counts_103 rfl (lv_at hl 0 rfl) ?_
                  refine mr_get X h kf_X7_73 (by decide) dX7_counts_104 rfl ?_
                  refine lv_aload_n X.1 X.2.1 dX7_counts_107 rfl (lv_at hl 0 rfl) ?_
                  refine mr_get X h kf_X7_25 (by decide) dX7_counts_108 rfl ?_
                  refine lv_iload_n X.1 X.2.1 dX7_counts_111 rfl (lv_at hl 2 rfl) ?_
                  refine mr_ald X h 8 rfl dX7_counts_112 (i := i2) (v := nI (F 8 (i2))) rfl (by show _ < 100; omega) rfl ?_
                  refine lv_dup2_11 X.1 X.2.1 dX7_counts_113 rfl rfl ?_
                  refine mr_ald X h 26 rfl dX7_counts_114 (i := F 8 (i2)) (v := nI ((va_up q2 (F 7 (i2)) (q2 (F 7 (i2)) + 1)) (F 8 (i2)))) rfl (by show _ < 16; omega) rfl ?_
                  have b9 := (cnt_b hg2 (by omega) (q := (F 8 (i2))) (by omega))
                  refine lv_iconst (v := nI (1)) X.1 X.2.1 dX7_counts_115 (by decide) ?_
                  refine lv_iadd X.1 X.2.1 dX7_counts_116 ?_
                  refine lv_top (y := nI ((va_up q2 (F 7 (i2)) (q2 (F 7 (i2)) + 1)) (F 8 (i2)) + 1)) (nI_add _ _) ?_
                  refine mr_ast X h 26 rfl (by decide) dX7_counts_117 (i := F 8 (i2)) (v := (va_up q2 (F 7 (i2)) (q2 (F 7 (i2)) + 1)) (F 8 (i2)) + 1) rfl (by show _ < 16; omega) rfl (fun H locs h => ?_)
                  rw [sc2_26] at h
                  refine lv_iinc (v := nI (i2 + 1)) (lv' := [(2, .int (nI (i2 + 1))), (0, .ref x), (1, .int (nI (s0)))]) X.1 X.2.1 dX7_counts_118 hl (k := 2) rfl (nI_add (i2) 1) (by decide) rfl (fun ls hl => ?_)
                  refine lv_goto (tgt := 32) X.1 X.2.1 dX7_counts_121 (by decide) ?_
                  exact ih_loop2 (i2 + 1) (va_up (va_up g2 (F 7 (i2)) (g2 (F 7 (i2)) + 3)) (F 8 (i2)) ((va_up g2 (F 7 (i2)) (g2 (F 7 (i2)) + 3)) (F 8 (i2)) + 1)) (va_up (va_up q2 (F 7 (i2)) (q2 (F 7 (i2)) + 1)) (F 8 (i2)) ((va_up q2 (F 7 (i2)) (q2 (F 7 (i2)) + 1)) (F 8 (i2)) + 1)) (by omega) (by omega) (by first | exact cnt_t hg2 (by omega) (by assumption) | exact cnt_f hg2 (fun z => absurd z.1 (by omega)) | exact cnt_f hg2 (fun z => absurd z.2 (by simp [*]))) _ _ _ h (lv_sub hl [1, 2, 0] rfl)
        exact loop2 (N 6 + 1) 0 g q (by omega) (by omega) (by rw [show i = N 1 by omega] at hg; exact hg) _ _ _ h (lv_sub hl [1, 2, 0] rfl)
      · skip
        refine lv_aload_n X.1 X.2.1 dX7_counts_10 rfl (lv_at hl 0 rfl) ?_
        refine mr_get X h kf_X7_70 (by decide) dX7_counts_11 rfl ?_
        refine lv_iload_n X.1 X.2.1 dX7_counts_14 rfl (lv_at hl 2 rfl) ?_
        refine lv_iconst (v := nI (0)) X.1 X.2.1 dX7_counts_15 (by decide) ?_
        refine mr_ast X h 25 rfl (by decide) dX7_counts_16 (i := i) (v := 0) rfl (by show _ < 16; omega) rfl (fun H locs h => ?_)
        rw [sc2_25] at h
        refine lv_aload_n X.1 X.2.1 dX7_counts_17 rfl (lv_at hl 0 rfl) ?_
        refine mr_get X h kf_X7_73 (by decide) dX7_counts_18 rfl ?_
        refine lv_iload_n X.1 X.2.1 dX7_counts_21 rfl (lv_at hl 2 rfl) ?_
        refine lv_iconst (v := nI (0)) X.1 X.2.1 dX7_counts_22 (by decide) ?_
        refine mr_ast X h 26 rfl (by decide) dX7_counts_23 (i := i) (v := 0) rfl (by show _ < 16; omega) rfl (fun H locs h => ?_)
        rw [sc2_26] at h
        refine lv_iinc (v := nI (i + 1)) (lv' := [(2, .int (nI (i + 1))), (0, .ref x), (1, .int (nI (s0)))]) X.1 X.2.1 dX7_counts_24 hl (k := 2) rfl (nI_add (i) 1) (by decide) rfl (fun ls hl => ?_)
        refine lv_goto (tgt := 2) X.1 X.2.1 dX7_counts_27 (by decide) ?_
        exact ih_loop (i + 1) (va_up g (i) (0)) (va_up q (i) (0)) (by omega) (by omega) (cnt_z hg) _ _ _ h (lv_sub hl [1, 2, 0] rfl)
  exact loop (N 1 + 1) 0 (F 25) (F 26) (by omega) (by omega) (fun p hp => absurd hp (by omega)) _ _ _ h (lv_sub hl [1, 2, 0] rfl)
set_option maxHeartbeats 4000000 in
set_option maxRecDepth 100000 in
theorem c_X7_isAhead (l : Launch) (G : mG) (x : Nat) (ar N : Nat → Nat) (F : Nat → Nat → Nat) (B : Nat → Int32) (p0 : Nat) (p1 : Nat) (g : Nat → Nat) (q : Nat → Nat) (hn : N 1 ≤ 16) (hb : ∀ z, z < N 1 → g z ≤ 400 ∧ q z ≤ 400) (hp0 : p0 < N 1) (hp1 : p1 < N 1) : MMet l yX7_isAhead cX7_isAhead 3 (some FieldType.boolean) ({ frames := 0, cells := 0, slots := 0, locals := 0 } : Room) G x ar [.ref x, .int (nI (p0)), .int (nI (p1))] N (sc2 F g q) B (fun r N' F' B' => r = some (.int (bI (ahM g q p0 p1))) ∧ N = N' ∧ sc2 F g q = F' ∧ B = B') := by
  refine MMet.of (by decide) (Nat.le_of_ble_eq_true rfl) ?_
  intro p e s m args below meth c A ls X hr hlocks h hl
  have hl : lv_has ls 3 [(0, .ref x), (1, .int (nI (p0))), (2, .int (nI (p1)))] := hl
  refine lv_aload_n X.1 X.2.1 dX7_isAhead_0 rfl (lv_at hl 0 rfl) ?_
  refine mr_get X h kf_X7_70 (by decide) dX7_isAhead_1 rfl ?_
  refine lv_iload_n X.1 X.2.1 dX7_isAhead_4 rfl (lv_at hl 1 rfl) ?_
  refine mr_ald X h 25 rfl dX7_isAhead_5 (i := p0) (v := nI (g (p0))) rfl (by show _ < 16; omega) rfl ?_
  have b1 := hb p0 (by omega)
  refine lv_aload_n X.1 X.2.1 dX7_isAhead_6 rfl (lv_at hl 0 rfl) ?_
  refine mr_get X h kf_X7_70 (by decide) dX7_isAhead_7 rfl ?_
  refine lv_iload_n X.1 X.2.1 dX7_isAhead_10 rfl (lv_at hl 2 rfl) ?_
  refine mr_ald X h 25 rfl dX7_isAhead_11 (i := p1) (v := nI (g (p1))) rfl (by show _ < 16; omega) rfl ?_
  have b2 := hb p1 (by omega)
  refine b_icmp_eq (tgt := 36) X dX7_isAhead_12 (by decide) (a := ((g (p0) : Nat) : Int)) (b := ((g (p1) : Nat) : Int)) (nI_ti (by omega)) (nI_ti (by omega)) (fun c3 => ?_) (fun c3 => ?_)
  · skip
    refine lv_aload_n X.1 X.2.1 dX7_isAhead_36 rfl (lv_at hl 0 rfl) ?_
    refine mr_get X h kf_X7_73 (by decide) dX7_isAhead_37 rfl ?_
    refine lv_iload_n X.1 X.2.1 dX7_isAhead_40 rfl (lv_at hl 1 rfl) ?_
    refine mr_ald X h 26 rfl dX7_isAhead_41 (i := p0) (v := nI (q (p0))) rfl (by show _ < 16; omega) rfl ?_
    refine lv_aload_n X.1 X.2.1 dX7_isAhead_42 rfl (lv_at hl 0 rfl) ?_
    refine mr_get X h kf_X7_73 (by decide) dX7_isAhead_43 rfl ?_
    refine lv_iload_n X.1 X.2.1 dX7_isAhead_46 rfl (lv_at hl 2 rfl) ?_
    refine mr_ald X h 26 rfl dX7_isAhead_47 (i := p1) (v := nI (q (p1))) rfl (by show _ < 16; omega) rfl ?_
    refine b_icmp_lt (tgt := 71) X dX7_isAhead_48 (by decide) (a := ((q (p0) : Nat) : Int)) (b := ((q (p1) : Nat) : Int)) (nI_ti (by omega)) (nI_ti (by omega)) (fun c4 => ?_) (fun c4 => ?_)
    · skip
      refine lv_iconst (v := nI (1)) X.1 X.2.1 dX7_isAhead_71 (by decide) ?_
      refine lv_goto (tgt := 76) X.1 X.2.1 dX7_isAhead_72 (by decide) ?_
      exact mr_zret X hr hlocks h dX7_isAhead_76 ⟨Nat.le_of_ble_eq_true rfl, Nat.le_of_ble_eq_true rfl⟩ (rfl) (⟨congrArg (fun z => some (Value.int z)) (by unfold ahM; first | (rw [if_pos (show g p0 = g p1 by omega)]; first | exact bI_dec (by omega) | exact bI_decN (by omega)) | (rw [if_neg (show ¬ g p0 = g p1 by omega)]; first | exact bI_dec (by omega) | exact bI_decN (by omega))), rfl, rfl, rfl⟩)
    · skip
      refine lv_aload_n X.1 X.2.1 dX7_isAhead_51 rfl (lv_at hl 0 rfl) ?_
      refine mr_get X h kf_X7_73 (by decide) dX7_isAhead_52 rfl ?_
      refine lv_iload_n X.1 X.2.1 dX7_isAhead_55 rfl (lv_at hl 1 rfl) ?_
      refine mr_ald X h 26 rfl dX7_isAhead_56 (i := p0) (v := nI (q (p0))) rfl (by show _ < 16; omega) rfl ?_
      refine lv_aload_n X.1 X.2.1 dX7_isAhead_57 rfl (lv_at hl 0 rfl) ?_
      refine mr_get X h kf_X7_73 (by decide) dX7_isAhead_58 rfl ?_
      refine lv_iload_n X.1 X.2.1 dX7_isAhead_61 rfl (lv_at hl 2 rfl) ?_
      refine mr_ald X h 26 rfl dX7_isAhead_62 (i := p1) (v := nI (q (p1))) rfl (by show _ < 16; omega) rfl ?_
      refine b_icmp_ne (tgt := 75) X dX7_isAhead_63 (by decide) (a := ((q (p0) : Nat) : Int)) (b := ((q (p1) : Nat) : Int)) (nI_ti (by omega)) (nI_ti (by omega)) (fun c5 => ?_) (fun c5 => ?_)
      · skip
        refine lv_iconst (v := nI (0)) X.1 X.2.1 dX7_isAhead_75 (by decide) ?_
        exact mr_zret X hr hlocks h dX7_isAhead_76 ⟨Nat.le_of_ble_eq_true rfl, Nat.le_of_ble_eq_true rfl⟩ (rfl) (⟨congrArg (fun z => some (Value.int z)) (by unfold ahM; first | (rw [if_pos (show g p0 = g p1 by omega)]; first | exact bI_dec (by omega) | exact bI_decN (by omega)) | (rw [if_neg (show ¬ g p0 = g p1 by omega)]; first | exact bI_dec (by omega) | exact bI_decN (by omega))), rfl, rfl, rfl⟩)
      · skip
        refine lv_iload_n X.1 X.2.1 dX7_isAhead_66 rfl (lv_at hl 1 rfl) ?_
        refine lv_iload_n X.1 X.2.1 dX7_isAhead_67 rfl (lv_at hl 2 rfl) ?_
        refine b_icmp_ge (tgt := 75) X dX7_isAhead_68 (by decide) (a := ((p0 : Nat) : Int)) (b := ((p1 : Nat) : Int)) (nI_ti (by omega)) (nI_ti (by omega)) (fun c6 => ?_) (fun c6 => ?_)
        · skip
          refine lv_iconst (v := nI (0)) X.1 X.2.1 dX7_isAhead_75 (by decide) ?_
          exact mr_zret X hr hlocks h dX7_isAhead_76 ⟨Nat.le_of_ble_eq_true rfl, Nat.le_of_ble_eq_true rfl⟩ (rfl) (⟨congrArg (fun z => some (Value.int z)) (by unfold ahM; first | (rw [if_pos (show g p0 = g p1 by omega)]; first | exact bI_dec (by omega) | exact bI_decN (by omega)) | (rw [if_neg (show ¬ g p0 = g p1 by omega)]; first | exact bI_dec (by omega) | exact bI_decN (by omega))), rfl, rfl, rfl⟩)
        · skip
          refine lv_iconst (v := nI (1)) X.1 X.2.1 dX7_isAhead_71 (by decide) ?_
          refine lv_goto (tgt := 76) X.1 X.2.1 dX7_isAhead_72 (by decide) ?_
          exact mr_zret X hr hlocks h dX7_isAhead_76 ⟨Nat.le_of_ble_eq_true rfl, Nat.le_of_ble_eq_true rfl⟩ (rfl) (⟨congrArg (fun z => some (Value.int z)) (by unfold ahM; first | (rw [if_pos (show g p0 = g p1 by omega)]; first | exact bI_dec (by omega) | exact bI_decN (by omega)) | (rw [if_neg (show ¬ g p0 = g p1 by omega)]; first | exact bI_dec (by omega) | exact bI_decN (by omega))), rfl, rfl, rfl⟩)
  · skip
    refine lv_aload_n X.1 X.2.1 dX7_isAhead_15 rfl (lv_at hl 0 rfl) ?_
    refine mr_get X h kf_X7_70 (by decide) dX7_isAhead_16 rfl ?_
    refine lv_iload_n X.1 X.2.1 dX7_isAhead_19 rfl (lv_at hl 1 rfl) ?_
    refine mr_ald X h 25 rfl dX7_isAhead_20 (i := p0) (v := nI (g (p0))) rfl (by show _ < 16; omega) rfl ?_
    have b7 := hb p0 (by omega)
    refine lv_aload_n X.1 X.2.1 dX7_isAhead_21 rfl (lv_at hl 0 rfl) ?_
    refine mr_get X h kf_X7_70 (by decide) dX7_isAhead_22 rfl ?_
    refine lv_iload_n X.1 X.2.1 dX7_isAhead_25 rfl (lv_at hl 2 rfl) ?_
    refine mr_ald X h 25 rfl dX7_isAhead_26 (i := p1) (v := nI (g (p1))) rfl (by show _ < 16; omega) rfl ?_
    have b8 := hb p1 (by omega)
    refine b_icmp_le (tgt := 34) X dX7_isAhead_27 (by decide) (a := ((g (p0) : Nat) : Int)) (b := ((g (p1) : Nat) : Int)) (nI_ti (by omega)) (nI_ti (by omega)) (fun c9 => ?_) (fun c9 => ?_)
    · skip
      refine lv_iconst (v := nI (0)) X.1 X.2.1 dX7_isAhead_34 (by decide) ?_
      exact mr_zret X hr hlocks h dX7_isAhead_35 ⟨Nat.le_of_ble_eq_true rfl, Nat.le_of_ble_eq_true rfl⟩ (rfl) (⟨congrArg (fun z => some (Value.int z)) (by unfold ahM; first | (rw [if_pos (show g p0 = g p1 by omega)]; first | exact bI_dec (by omega) | exact bI_decN (by omega)) | (rw [if_neg (show ¬ g p0 = g p1 by omega)]; first | exact bI_dec (by omega) | exact bI_decN (by omega))), rfl, rfl, rfl⟩)
    · skip
      refine lv_iconst (v := nI (1)) X.1 X.2.1 dX7_isAhead_30 (by decide) ?_
      refine lv_goto (tgt := 35) X.1 X.2.1 dX7_isAhead_31 (by decide) ?_
      exact mr_zret X hr hlocks h dX7_isAhead_35 ⟨Nat.le_of_ble_eq_true rfl, Nat.le_of_ble_eq_true rfl⟩ (rfl) (⟨congrArg (fun z => some (Value.int z)) (by unfold ahM; first | (rw [if_pos (show g p0 = g p1 by omega)]; first | exact bI_dec (by omega) | exact bI_decN (by omega)) | (rw [if_neg (show ¬ g p0 = g p1 by omega)]; first | exact bI_dec (by omega) | exact bI_decN (by omega))), rfl, rfl, rfl⟩)
set_option maxHeartbeats 4000000 in
set_option maxRecDepth 100000 in
theorem c_X7_placeOf (l : Launch) (G : mG) (x : Nat) (ar N : Nat → Nat) (F : Nat → Nat → Nat) (B : Nat → Int32) (p0 : Nat) (g : Nat → Nat) (q : Nat → Nat) (hn : N 1 ≤ 16) (hb : ∀ z, z < N 1 → g z ≤ 400 ∧ q z ≤ 400) (hp0 : p0 < N 1) : MMet l yX7_placeOf cX7_placeOf 4 (some FieldType.int) ({ frames := 1, cells := 0, slots := 0, locals := 22 } : Room) G x ar [.ref x, .int (nI (p0))] N (sc2 F g q) B (fun r N' F' B' => r = some (.int (nI (plM g q (N 1) p0))) ∧ N = N' ∧ sc2 F g q = F' ∧ B = B') := by
  refine MMet.of (by decide) (Nat.le_of_ble_eq_true rfl) ?_
  intro p e s m args below meth c A ls X hr hlocks h hl
  have hl : lv_has ls 4 [(0, .ref x), (1, .int (nI (p0)))] := hl
  refine lv_iconst (v := nI (1)) X.1 X.2.1 dX7_placeOf_0 (by decide) ?_
  refine lv_istore_n (lv' := [(2, .int (nI (1))), (0, .ref x), (1, .int (nI (p0)))]) X.1 X.2.1 dX7_placeOf_1 rfl hl (by decide) rfl (fun ls hl => ?_)
  refine lv_iconst (v := nI (0)) X.1 X.2.1 dX7_placeOf_2 (by decide) ?_
  refine lv_istore_n (lv' := [(3, .int (nI (0))), (2, .int (nI (1))), (0, .ref x), (1, .int (nI (p0)))]) X.1 X.2.1 dX7_placeOf_3 rfl hl (by decide) rfl (fun ls hl => ?_)
  have loop : ∀ (n9 : Nat) (i : Nat) (t : Nat), (i ≤ N 1) → (N 1 + 1 ≤ i + n9) → (t = 1 + plN g q p0 i) → ∀ (H : Heap) (locs : List Loc) (ls : Array Slot), mM G A s.heap x ar N (sc2 F g q) B H locs → lv_has ls 4 [(0, .ref x), (1, .int (nI (p0))), (2, .int (nI (t))), (3, .int (nI (i)))] → W p l e ({ frames := 1, cells := 0, slots := 0, locals := 22 } : Room) s m args below meth c H locs 0 0 (MZ G A x ar (fun r N' F' B' => r = some (.int (nI (plM g q (N 1) p0))) ∧ N = N' ∧ sc2 F g q = F' ∧ B = B') below args s 0 0) (F0 m 4 ls []) := by
    intro n9
    induction n9 with
    | zero => intro i t hi hm9 ht; exact absurd hm9 (by omega)
    | succ n9 ih_loop =>
      intro i t hi hm9 ht H locs ls h hl
      have ht2 := plN_le g q p0 i
      refine lv_iload_n X.1 X.2.1 dX7_placeOf_4 rfl (lv_at hl 3 rfl) ?_
      refine lv_aload_n X.1 X.2.1 dX7_placeOf_5 rfl (lv_at hl 0 rfl) ?_
      refine mr_get X h kf_X7_83 (by decide) dX7_placeOf_6 (v := .int (nI (N 1))) rfl ?_
      refine b_icmp_ge (tgt := 49) X dX7_placeOf_9 (by decide) (a := ((i : Nat) : Int)) (b := ((N 1 : Nat) : Int)) (nI_ti (by omega)) (nI_ti (by omega)) (fun c1 => ?_) (fun c1 => ?_)
      · skip
        refine lv_aload_n X.1 X.2.1 dX7_placeOf_49 rfl (lv_at hl 0 rfl) ?_
        refine mr_get X h kf_X7_70 (by decide) dX7_placeOf_50 rfl ?_
        refine lv_iload_n X.1 X.2.1 dX7_placeOf_53 rfl (lv_at hl 1 rfl) ?_
        refine mr_ald X h 25 rfl dX7_placeOf_54 (i := p0) (v := nI (g (p0))) rfl (by show _ < 16; omega) rfl ?_
        have b2 := hb p0 (by omega)
        refine b_if_ne (tgt := 62) X dX7_placeOf_55 (by decide) (a := ((g (p0) : Nat) : Int)) (nI_ti (by omega)) (fun c3 => ?_) (fun c3 => ?_)
        · skip
          refine lv_iload_n X.1 X.2.1 dX7_placeOf_62 rfl (lv_at hl 2 rfl) ?_
          exact mr_iret X hr hlocks h dX7_placeOf_63 ⟨Nat.le_of_ble_eq_true rfl, Nat.le_of_ble_eq_true rfl⟩ (⟨congrArg (fun z => some (Value.int (nI z))) (by rw [plM]; first | rw [if_pos (show g p0 = 0 by omega)] | (rw [if_neg (show ¬ g p0 = 0 by omega), ht, show i = N 1 by omega])), rfl, rfl, rfl⟩)
        · skip
          refine lv_iconst (v := nI (0)) X.1 X.2.1 dX7_placeOf_58 (by decide) ?_
          refine lv_goto (tgt := 63) X.1 X.2.1 dX7_placeOf_59 (by decide) ?_
          exact mr_iret X hr hlocks h dX7_placeOf_63 ⟨Nat.le_of_ble_eq_true rfl, Nat.le_of_ble_eq_true rfl⟩ (⟨congrArg (fun z => some (Value.int (nI z))) (by rw [plM]; first | rw [if_pos (show g p0 = 0 by omega)] | (rw [if_neg (show ¬ g p0 = 0 by omega), ht, show i = N 1 by omega])), rfl, rfl, rfl⟩)
      · skip
        refine lv_iload_n X.1 X.2.1 dX7_placeOf_12 rfl (lv_at hl 2 rfl) ?_
        refine lv_iload_n X.1 X.2.1 dX7_placeOf_13 rfl (lv_at hl 3 rfl) ?_
        refine lv_iload_n X.1 X.2.1 dX7_placeOf_14 rfl (lv_at hl 1 rfl) ?_
        refine b_icmp_eq (tgt := 40) X dX7_placeOf_15 (by decide) (a := ((i : Nat) : Int)) (b := ((p0 : Nat) : Int)) (nI_ti (by omega)) (nI_ti (by omega)) (fun c4 => ?_) (fun c4 => ?_)
        · skip
          refine lv_iconst (v := nI (0)) X.1 X.2.1 dX7_placeOf_40 (by decide) ?_
          refine lv_iadd X.1 X.2.1 dX7_placeOf_41 ?_
          refine lv_top (y := nI (t + 0)) (nI_add _ _) ?_
          refine lv_istore_n (lv' := [(2, .int (nI (t + 0))), (0, .ref x), (1, .int (nI (p0))), (3, .int (nI (i)))]) X.1 X.2.1 dX7_placeOf_42 rfl hl (by decide) rfl (fun ls hl => ?_)
          refine lv_iinc (v := nI (i + 1)) (lv' := [(3, .int (nI (i + 1))), (2, .int (nI (t + 0))), (0, .ref x), (1, .int (nI (p0)))]) X.1 X.2.1 dX7_placeOf_43 hl (k := 3) rfl (nI_add (i) 1) (by decide) rfl (fun ls hl => ?_)
          refine lv_goto (tgt := 4) X.1 X.2.1 dX7_placeOf_46 (by decide) ?_
          exact ih_loop (i + 1) (t + 0) (by omega) (by omega) (by subst ht; first | (rw [Nat.add_assoc, Nat.add_comm 1 1, ← Nat.add_assoc] ; done) | (have := plN_t (P := g) (Q := q) (p := p0) (q := i) (by omega) (by omega) (by assumption); omega) | (have := plN_f (P := g) (Q := q) (p := p0) (q := i) (fun z => by have := z.1; have := z.2.1; first | omega | (have z3 := z.2.2; simp [*] at z3)); omega)) _ _ _ h (lv_sub hl [2, 3, 1, 0] rfl)
        · skip
          refine lv_aload_n X.1 X.2.1 dX7_placeOf_18 rfl (lv_at hl 0 rfl) ?_
          refine mr_get X h kf_X7_70 (by decide) dX7_placeOf_19 rfl ?_
          refine lv_iload_n X.1 X.2.1 dX7_placeOf_22 rfl (lv_at hl 3 rfl) ?_
          refine mr_ald X h 25 rfl dX7_placeOf_23 (i := i) (v := nI (g (i))) rfl (by show _ < 16; omega) rfl ?_
          have b5 := hb i (by omega)
          refine b_if_le (tgt := 40) X dX7_placeOf_24 (by decide) (a := ((g (i) : Nat) : Int)) (nI_ti (by omega)) (fun c6 => ?_) (fun c6 => ?_)
          · skip
            refine lv_iconst (v := nI (0)) X.1 X.2.1 dX7_placeOf_40 (by decide) ?_
            refine lv_iadd X.1 X.2.1 dX7_placeOf_41 ?_
            refine lv_top (y := nI (t + 0)) (nI_add _ _) ?_
            refine lv_istore_n (lv' := [(2, .int (nI (t + 0))), (0, .ref x), (1, .int (nI (p0))), (3, .int (nI (i)))]) X.1 X.2.1 dX7_placeOf_42 rfl hl (by decide) rfl (fun ls hl => ?_)
            refine lv_iinc (v := nI (i + 1)) (lv' := [(3, .int (nI (i + 1))), (2, .int (nI (t + 0))), (0, .ref x), (1, .int (nI (p0)))]) X.1 X.2.1 dX7_placeOf_43 hl (k := 3) rfl (nI_add (i) 1) (by decide) rfl (fun ls hl => ?_)
            refine lv_goto (tgt := 4) X.1 X.2.1 dX7_placeOf_46 (by decide) ?_
            exact ih_loop (i + 1) (t + 0) (by omega) (by omega) (by subst ht; first | (rw [Nat.add_assoc, Nat.add_comm 1 1, ← Nat.add_assoc] ; done) | (have := plN_t (P := g) (Q := q) (p := p0) (q := i) (by omega) (by omega) (by assumption); omega) | (have := plN_f (P := g) (Q := q) (p := p0) (q := i) (fun z => by have := z.1; have := z.2.1; first | omega | (have z3 := z.2.2; simp [*] at z3)); omega)) _ _ _ h (lv_sub hl [2, 3, 1, 0] rfl)
          · skip
            refine lv_aload_n X.1 X.2.1 dX7_placeOf_27 rfl (lv_at hl 0 rfl) ?_
            refine lv_iload_n X.1 X.2.1 dX7_placeOf_28 rfl (lv_at hl 3 rfl) ?_
            refine lv_iload_n X.1 X.2.1 dX7_placeOf_29 rfl (lv_at hl 1 rfl) ?_
            refine mr_callV X h ck_X7_119 ki_X7_isAhead ks_X7_isAhead dX7_placeOf_30 (As := [.int (nI (i)), .int (nI (p0))]) (c_X7_isAhead l G x ar N F B i p0 g q (show N 1 ≤ 16 by omega) hb (show i < N 1 by omega) (show p0 < N 1 by omega)) rfl hl rfl (Nat.le_of_ble_eq_true rfl) ⟨Nat.le_of_ble_eq_true rfl, Nat.le_of_ble_eq_true rfl⟩ ⟨Nat.le_of_ble_eq_true rfl, Nat.le_of_ble_eq_true rfl⟩ ?_
            rintro _ _ _ _ H locs ⟨rfl, rfl, rfl, rfl⟩ h
            refine b_bool_eq (tgt := 40) X dX7_placeOf_33 (by decide) (fun c7 => ?_) (fun c7 => ?_)
            · skip
              refine lv_iconst (v := nI (0)) X.1 X.2.1 dX7_placeOf_40 (by decide) ?_
              refine lv_iadd X.1 X.2.1 dX7_placeOf_41 ?_
              refine lv_top (y := nI (t + 0)) (nI_add _ _) ?_
              refine lv_istore_n (lv' := [(2, .int (nI (t + 0))), (0, .ref x), (1, .int (nI (p0))), (3, .int (nI (i)))]) X.1 X.2.1 dX7_placeOf_42 rfl hl (by decide) rfl (fun ls hl => ?_)
              refine lv_iinc (v := nI (i + 1)) (lv' := [(3, .int (nI (i + 1))), (2, .int (nI (t + 0))), (0, .ref x), (1, .int (nI (p0)))]) X.1 X.2.1 dX7_placeOf_43 hl (k := 3) rfl (nI_add (i) 1) (by decide) rfl (fun ls hl => ?_)
              refine lv_goto (tgt := 4) X.1 X.2.1 dX7_placeOf_46 (by decide) ?_
              exact ih_loop (i + 1) (t + 0) (by omega) (by omega) (by subst ht; first | (rw [Nat.add_assoc, Nat.add_comm 1 1, ← Nat.add_assoc] ; done) | (have := plN_t (P := g) (Q := q) (p := p0) (q := i) (by omega) (by omega) (by assumption); omega) | (have := plN_f (P := g) (Q := q) (p := p0) (q := i) (fun z => by have := z.1; have := z.2.1; first | omega | (have z3 := z.2.2; simp [*] at z3)); omega)) _ _ _ h (lv_sub hl [2, 3, 1, 0] rfl)
            · skip
              refine lv_iconst (v := nI (1)) X.1 X.2.1 dX7_placeOf_36 (by decide) ?_
              refine lv_goto (tgt := 41) X.1 X.2.1 dX7_placeOf_37 (by decide) ?_
              refine lv_iadd X.1 X.2.1 dX7_placeOf_41 ?_
              refine lv_top (y := nI (t + 1)) (nI_add _ _) ?_
              refine lv_istore_n (lv' := [(2, .int (nI (t + 1))), (0, .ref x), (1, .int (nI (p0))), (3, .int (nI (i)))]) X.1 X.2.1 dX7_placeOf_42 rfl hl (by decide) rfl (fun ls hl => ?_)
              refine lv_iinc (v := nI (i + 1)) (lv' := [(3, .int (nI (i + 1))), (2, .int (nI (t + 1))), (0, .ref x), (1, .int (nI (p0)))]) X.1 X.2.1 dX7_placeOf_43 hl (k := 3) rfl (nI_add (i) 1) (by decide) rfl (fun ls hl => ?_)
              refine lv_goto (tgt := 4) X.1 X.2.1 dX7_placeOf_46 (by decide) ?_
              exact ih_loop (i + 1) (t + 1) (by omega) (by omega) (by subst ht; first | (rw [Nat.add_assoc, Nat.add_comm 1 1, ← Nat.add_assoc] ; done) | (have := plN_t (P := g) (Q := q) (p := p0) (q := i) (by omega) (by omega) (by assumption); omega) | (have := plN_f (P := g) (Q := q) (p := p0) (q := i) (fun z => by have := z.1; have := z.2.1; first | omega | (have z3 := z.2.2; simp [*] at z3)); omega)) _ _ _ h (lv_sub hl [2, 3, 1, 0] rfl)
  exact loop (N 1 + 1) 0 1 (by omega) (by omega) rfl _ _ _ h (lv_sub hl [2, 3, 1, 0] rfl)
set_option maxHeartbeats 4000000 in
set_option maxRecDepth 100000 in
theorem c_X7_who (l : Launch) (G : mG) (x : Nat) (ar N : Nat → Nat) (F : Nat → Nat → Nat) (B : Nat → Int32) (pl : Nat) (g : Nat → Nat) (q : Nat → Nat) (hn : N 1 ≤ 16) (hb : ∀ z, z < N 1 → g z ≤ 400 ∧ q z ≤ 400) (hpl : pl ≤ 3) : MMet l yX7_who cX7_who 4 (some FieldType.int) ({ frames := 2, cells := 0, slots := 0, locals := 45 } : Room) G x ar [.ref x, .int (nI (pl))] N (sc2 F g q) B (fun r N' F' B' => r = some (.int (nI (who g q (N 1) pl) - 1)) ∧ N = N' ∧ sc2 F g q = F' ∧ B = B') := by
  refine MMet.of (by decide) (Nat.le_of_ble_eq_true rfl) ?_
  intro p e s m args below meth c A ls X hr hlocks h hl
  have hl : lv_has ls 4 [(0, .ref x), (1, .int (nI (pl)))] := hl
  refine lv_iconst (v := nI (0) - 1) X.1 X.2.1 dX7_who_0 (by decide) ?_
  refine lv_istore_n (lv' := [(2, .int (nI (0) - 1)), (0, .ref x), (1, .int (nI (pl)))]) X.1 X.2.1 dX7_who_1 rfl hl (by decide) rfl (fun ls hl => ?_)
  refine lv_iconst (v := nI (0)) X.1 X.2.1 dX7_who_2 (by decide) ?_
  refine lv_istore_n (lv' := [(3, .int (nI (0))), (2, .int (nI (0) - 1)), (0, .ref x), (1, .int (nI (pl)))]) X.1 X.2.1 dX7_who_3 rfl hl (by decide) rfl (fun ls hl => ?_)
  have loop : ∀ (n9 : Nat) (i : Nat) (t : Nat), (i ≤ N 1) → (N 1 + 1 ≤ i + n9) → (t = whoN g q (N 1) pl i) → ∀ (H : Heap) (locs : List Loc) (ls : Array Slot), mM G A s.heap x ar N (sc2 F g q) B H locs → lv_has ls 4 [(0, .ref x), (1, .int (nI (pl))), (2, .int (nI (t) - 1)), (3, .int (nI (i)))] → W p l e ({ frames := 2, cells := 0, slots := 0, locals := 45 } : Room) s m args below meth c H locs 0 0 (MZ G A x ar (fun r N' F' B' => r = some (.int (nI (who g q (N 1) pl) - 1)) ∧ N = N' ∧ sc2 F g q = F' ∧ B = B') below args s 0 0) (F0 m 4 ls []) := by
    intro n9
    induction n9 with
    | zero => intro i t hi hm9 ht; exact absurd hm9 (by omega)
    | succ n9 ih_loop =>
      intro i t hi hm9 ht H locs ls h hl
      have ht2 := whoN_le g q (N 1) pl i
      refine lv_iload_n X.1 X.2.1 dX7_who_4 rfl (lv_at hl 3 rfl) ?_
      refine lv_aload_n X.1 X.2.1 dX7_who_5 rfl (lv_at hl 0 rfl) ?_
      refine mr_get X h kf_X7_83 (by decide) dX7_who_6 (v := .int (nI (N 1))) rfl ?_
      refine b_icmp_ge (tgt := 33) X dX7_who_9 (by decide) (a := ((i : Nat) : Int)) (b := ((N 1 : Nat) : Int)) (nI_ti (by omega)) (nI_ti (by omega)) (fun c1 => ?_) (fun c1 => ?_)
      · skip
        refine lv_iload_n X.1 X.2.1 dX7_who_33 rfl (lv_at hl 2 rfl) ?_
        exact mr_iret X hr hlocks h dX7_who_34 ⟨Nat.le_of_ble_eq_true rfl, Nat.le_of_ble_eq_true rfl⟩ (⟨congrArg (fun z => some (Value.int (nI z - 1))) (by rw [ht, show i = N 1 by omega]; rfl), rfl, rfl, rfl⟩)
      · skip
        refine lv_aload_n X.1 X.2.1 dX7_who_12 rfl (lv_at hl 0 rfl) ?_
        refine lv_iload_n X.1 X.2.1 dX7_who_13 rfl (lv_at hl 3 rfl) ?_
        refine mr_callV X h ck_X7_123 ki_X7_placeOf ks_X7_placeOf dX7_who_14 (As := [.int (nI (i))]) (c_X7_placeOf l G x ar N F B i g q (show N 1 ≤ 16 by omega) hb (show i < N 1 by omega)) rfl hl rfl (Nat.le_of_ble_eq_true rfl) ⟨Nat.le_of_ble_eq_true rfl, Nat.le_of_ble_eq_true rfl⟩ ⟨Nat.le_of_ble_eq_true rfl, Nat.le_of_ble_eq_true rfl⟩ ?_
        rintro _ _ _ _ H locs ⟨rfl, rfl, rfl, rfl⟩ h
        have b2 := plM_le g q (N 1) (i)
        refine lv_iload_n X.1 X.2.1 dX7_who_17 rfl (lv_at hl 1 rfl) ?_
        refine b_icmp_ne (tgt := 25) X dX7_who_18 (by decide) (a := ((plM g q (N 1) (i) : Nat) : Int)) (b := ((pl : Nat) : Int)) (nI_ti (by omega)) (nI_ti (by omega)) (fun c3 => ?_) (fun c3 => ?_)
        · skip
          refine lv_iload_n X.1 X.2.1 dX7_who_25 rfl (lv_at hl 2 rfl) ?_
          refine lv_istore_n (lv' := [(2, .int (nI (t) - 1)), (0, .ref x), (1, .int (nI (pl))), (3, .int (nI (i)))]) X.1 X.2.1 dX7_who_26 rfl hl (by decide) rfl (fun ls hl => ?_)
          refine lv_iinc (v := nI (i + 1)) (lv' := [(3, .int (nI (i + 1))), (2, .int (nI (t) - 1)), (0, .ref x), (1, .int (nI (pl)))]) X.1 X.2.1 dX7_who_27 hl (k := 3) rfl (nI_add (i) 1) (by decide) rfl (fun ls hl => ?_)
          refine lv_goto (tgt := 4) X.1 X.2.1 dX7_who_30 (by decide) ?_
          exact ih_loop (i + 1) (t) (by omega) (by omega) (by subst ht; first | exact whoN_t (by omega) | exact whoN_f (by omega)) _ _ _ h (lv_sub hl [2, 3, 1, 0] rfl)
        · skip
          refine lv_iload_n X.1 X.2.1 dX7_who_21 rfl (lv_at hl 3 rfl) ?_
          refine lv_goto (tgt := 26) X.1 X.2.1 dX7_who_22 (by decide) ?_
          refine lv_istore_n (lv' := [(2, .int (nI (i))), (0, .ref x), (1, .int (nI (pl))), (3, .int (nI (i)))]) X.1 X.2.1 dX7_who_26 rfl hl (by decide) rfl (fun ls hl => ?_)
          refine lv_iinc (v := nI (i + 1)) (lv' := [(3, .int (nI (i + 1))), (2, .int (nI (i))), (0, .ref x), (1, .int (nI (pl)))]) X.1 X.2.1 dX7_who_27 hl (k := 3) rfl (nI_add (i) 1) (by decide) rfl (fun ls hl => ?_)
          refine lv_goto (tgt := 4) X.1 X.2.1 dX7_who_30 (by decide) ?_
          have hl : lv_has ls 4 [(3, .int (nI (i + 1))), (2, .int (nI (i))), (0, .ref x), (1, .int (nI (pl)))] := hl
          have hl : lv_has ls 4 [(3, .int (nI (i + 1))), (2, .int (nI (i + 1) - 1)), (0, .ref x), (1, .int (nI (pl)))] := by rw [← eI_suc]; exact hl
          exact ih_loop (i + 1) (i + 1) (by omega) (by omega) (by subst ht; first | exact whoN_t (by omega) | exact whoN_f (by omega)) _ _ _ h (lv_sub hl [2, 3, 1, 0] rfl)
  exact loop (N 1 + 1) 0 0 (by omega) (by omega) rfl _ _ _ h (lv_sub hl [2, 3, 1, 0] rfl)
