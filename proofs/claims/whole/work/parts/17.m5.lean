set_option maxHeartbeats 4000000 in
set_option maxRecDepth 100000 in
theorem c_X7_proof (l : Launch) (G : mG) (x : Nat) (ar N : Nat → Nat) (F : Nat → Nat → Nat) (B : Nat → Int32) (p0 : Int32) (d0 : Int32) (hI : Iv N F) : MMet l yX7_proof cX7_proof 5 (some FieldType.int) ({ frames := 4, cells := 0, slots := 0, locals := 90 } : Room) G x ar [.ref x, .int (p0), .int (d0)] N F B (fun r N' F' B' => MA r N' F' B' (kProof N p0 d0) (nI (badN (fProof F (ix p0) (ix d0)) (N 6))) (N) ((lookS N (fProof F (ix p0) (ix d0)) B (N 13)).1) ((lookS N (fProof F (ix p0) (ix d0)) B (N 13)).2) N F B) := by
  refine MMet.of (by decide) (Nat.le_of_ble_eq_true rfl) ?_
  intro p e s m args below meth c A ls X hr hlocks h hl
  have hl : lv_has ls 5 [(0, .ref x), (1, .int (p0)), (2, .int (d0))] := hl
  have hn := hI.n
  refine lv_aload_n X.1 X.2.1 dX7_proof_0 rfl (lv_at hl 0 rfl) ?_
  refine lv_aload_n X.1 X.2.1 dX7_proof_1 rfl (lv_at hl 0 rfl) ?_
  refine lv_iload_n X.1 X.2.1 dX7_proof_2 rfl (lv_at hl 1 rfl) ?_
  refine mr_callV X h ck_X7_107 ki_X7_isPlayer ks_X7_isPlayer dX7_proof_3 (As := [.int (p0)]) (c_X7_isPlayer l G x ar N F B (p0) hI) rfl hl rfl (Nat.le_of_ble_eq_true rfl) ⟨Nat.le_of_ble_eq_true rfl, Nat.le_of_ble_eq_true rfl⟩ ⟨Nat.le_of_ble_eq_true rfl, Nat.le_of_ble_eq_true rfl⟩ ?_
  rintro _ _ _ _ H locs ⟨rfl, rfl, rfl, rfl⟩ h
  refine b_bool_ne (tgt := 13) X dX7_proof_6 (by decide) (fun c1 => ?_) (fun c1 => ?_)
  · skip
    obtain ⟨j0, hj0, rfl⟩ := iR_t c1 (by omega)
    refine lv_iload_n X.1 X.2.1 dX7_proof_13 rfl (lv_at hl 2 rfl) ?_
    refine lv_iconst (v := nI (0)) X.1 X.2.1 dX7_proof_14 (by decide) ?_
    refine lv_aload_n X.1 X.2.1 dX7_proof_15 rfl (lv_at hl 0 rfl) ?_
    refine mr_get X h kf_X7_90 (by decide) dX7_proof_16 (v := .int (nI (N 0))) rfl ?_
    refine mr_callS X h ck_X7_86 kst_X7_isIn dX7_proof_19 (As := [.int (d0), .int (nI (0)), .int (nI (N 0))]) (c_X7_isIn l G x ar N F B (d0) (nI (0)) (nI (N 0))) rfl hl rfl (Nat.le_of_ble_eq_true rfl) ⟨Nat.le_of_ble_eq_true rfl, Nat.le_of_ble_eq_true rfl⟩ ⟨Nat.le_of_ble_eq_true rfl, Nat.le_of_ble_eq_true rfl⟩ ?_
    rintro _ _ _ _ H locs ⟨rfl, rfl, rfl, rfl⟩ h
    refine lv_top (y := bI (decide (((0 : Nat) : Int) ≤ (d0).toInt ∧ (d0).toInt ≤ ((N 0 : Nat) : Int)))) (by rw [show (d0).toInt = (d0).toInt from rfl, show (nI (0)).toInt = ((0 : Nat) : Int) from nI_ti (by omega), show (nI (N 0)).toInt = ((N 0 : Nat) : Int) from nI_ti (by omega)]) ?_
    refine b_bool_eq (tgt := 29) X dX7_proof_22 (by decide) (fun c2 => ?_) (fun c2 => ?_)
    · skip
      have c2 := of_decide_eq_false c2
      refine lv_iconst (v := nI (2)) X.1 X.2.1 dX7_proof_29 (by decide) ?_
      refine mr_callV X h ck_X7_93 ki_X7_fails ks_X7_fails dX7_proof_30 (As := [.int (nI (2))]) (c_X7_fails l G x ar N F B 2 (by omega)) rfl hl rfl (Nat.le_of_ble_eq_true rfl) ⟨Nat.le_of_ble_eq_true rfl, Nat.le_of_ble_eq_true rfl⟩ ⟨Nat.le_of_ble_eq_true rfl, Nat.le_of_ble_eq_true rfl⟩ ?_
      rintro _ _ _ _ H locs ⟨rfl, rfl, rfl, rfl⟩ h
      refine b_bool_eq (tgt := 38) X dX7_proof_33 (by decide) (fun c3 => ?_) (fun c3 => ?_)
      · skip
        exact absurd c3 (by first | decide | omega)
      · skip
        have c3 := of_decide_eq_true c3
        refine lv_iconst (v := nI (0)) X.1 X.2.1 dX7_proof_36 (by decide) ?_
        exact mr_iret X hr hlocks h dX7_proof_37 ⟨Nat.le_of_ble_eq_true rfl, Nat.le_of_ble_eq_true rfl⟩ (MA.bad ((if_neg (by rw [iR_lt hj0 (by omega)]; decide)).trans (if_neg (by omega))) (by decide))
    · skip
      have c2 := of_decide_eq_true c2
      obtain ⟨j1, hj1l, hj1, rfl⟩ := in_t 0 (n := N 0) c2 (by omega)
      refine lv_iconst (v := nI (0)) X.1 X.2.1 dX7_proof_25 (by decide) ?_
      refine lv_goto (tgt := 30) X.1 X.2.1 dX7_proof_26 (by decide) ?_
      refine mr_callV X h ck_X7_93 ki_X7_fails ks_X7_fails dX7_proof_30 (As := [.int (nI (0))]) (c_X7_fails l G x ar N F B 0 (by omega)) rfl hl rfl (Nat.le_of_ble_eq_true rfl) ⟨Nat.le_of_ble_eq_true rfl, Nat.le_of_ble_eq_true rfl⟩ ⟨Nat.le_of_ble_eq_true rfl, Nat.le_of_ble_eq_true rfl⟩ ?_
      rintro _ _ _ _ H locs ⟨rfl, rfl, rfl, rfl⟩ h
      refine b_bool_eq (tgt := 38) X dX7_proof_33 (by decide) (fun c4 => ?_) (fun c4 => ?_)
      · skip
        have c4 := of_decide_eq_false c4
        refine lv_aload_n X.1 X.2.1 dX7_proof_38 rfl (lv_at hl 0 rfl) ?_
        refine mr_get X h kf_X7_7 (by decide) dX7_proof_39 rfl ?_
        refine lv_iload_n X.1 X.2.1 dX7_proof_42 rfl (lv_at hl 1 rfl) ?_
        refine lv_aload_n X.1 X.2.1 dX7_proof_43 rfl (lv_at hl 0 rfl) ?_
        refine mr_get X h kf_X7_7 (by decide) dX7_proof_44 rfl ?_
        refine lv_iload_n X.1 X.2.1 dX7_proof_47 rfl (lv_at hl 1 rfl) ?_
        refine mr_ald X h 2 rfl dX7_proof_48 (i := j0) (v := nI (F 2 (j0)) - 1) rfl (by show _ < 16; omega) rfl ?_
        have b5 := hI.p j0
        refine lv_iconst (v := nI (0) - 1) X.1 X.2.1 dX7_proof_49 (by decide) ?_
        refine b_icmp_eq (tgt := 63) X dX7_proof_50 (by decide) (a := ((F 2 (j0) : Nat) : Int) - 1) (b := ((0 : Nat) : Int) - 1) (eI_ti (by omega)) (eI_ti (by omega)) (fun c6 => ?_) (fun c6 => ?_)
        · skip
          refine lv_iload_n X.1 X.2.1 dX7_proof_63 rfl (lv_at hl 2 rfl) ?_
          refine lv_goto (tgt := 73) X.1 X.2.1 dX7_proof_64 (by decide) ?_
          refine mr_ast X h 2 rfl (by decide) dX7_proof_73 (i := j0) (v := j1 + 1) rfl (by show _ < 16; omega) (eI_suc _) (fun H locs h => ?_)
          refine lv_aload_n X.1 X.2.1 dX7_proof_74 rfl (lv_at hl 0 rfl) ?_
          have hF : set1 F 2 j0 (j1 + 1) = fProof F j0 j1 := by unfold fProof; first | (rw [if_pos (by omega)]; done) | (rw [if_neg (by omega)]; done)
          have h : mM G A s.heap x ar (va_up N 29 (0)) (fProof F j0 j1) B H locs := by rw [← hF]; exact h
          refine mr_callV X h ck_X7_147 ki_X7_looks ks_X7_looks dX7_proof_75 (As := []) (c_X7_looks l G x ar (va_up N 29 (0)) (fProof F j0 j1) B (hI.pf j0 j1 (by omega))) rfl hl rfl (Nat.le_of_ble_eq_true rfl) ⟨Nat.le_of_ble_eq_true rfl, Nat.le_of_ble_eq_true rfl⟩ ⟨Nat.le_of_ble_eq_true rfl, Nat.le_of_ble_eq_true rfl⟩ ?_
          rintro _ _ F2 _ H locs ⟨rfl, rfl, hS2, rfl, hI2⟩ h
          refine lv_iconst (v := nI (0)) X.1 X.2.1 dX7_proof_78 (by decide) ?_
          refine lv_istore_n (lv' := [(3, .int (nI (0))), (0, .ref x), (1, .int (nI (j0))), (2, .int (nI (j1)))]) X.1 X.2.1 dX7_proof_79 rfl hl (by decide) rfl (fun ls hl => ?_)
          refine lv_iconst (v := nI (0)) X.1 X.2.1 dX7_proof_80 (by decide) ?_
          refine lv_istore (lv' := [(4, .int (nI (0))), (3, .int (nI (0))), (0, .ref x), (1, .int (nI (j0))), (2, .int (nI (j1)))]) X.1 X.2.1 dX7_proof_81 hl (by decide) rfl (fun ls hl => ?_)
          have loop : ∀ (n9 : Nat) (i : Nat) (t : Nat), (i ≤ N 6) → (N 6 + 1 ≤ i + n9) → (t = badN F2 i) → ∀ (H : Heap) (locs : List Loc) (ls : Array Slot), mM G A s.heap x ar (va_up N 29 (0)) F2 (lookS (va_up N 29 (0)) (fProof F j0 j1) B ((va_up N 29 (0)) 13)).2 H locs → lv_has ls 5 [(0, .ref x), (1, .int (nI (j0))), (2, .int (nI (j1))), (3, .int (nI (t))), (4, .int (nI (i)))] → W p l e ({ frames := 4, cells := 0, slots := 0, locals := 90 } : Room) s m args below meth c H locs 0 0 (MZ G A x ar (fun r N' F' B' => MA r N' F' B' (kProof N (nI j0) (nI j1)) (nI (badN (fProof F (ix (nI j0)) (ix (nI j1))) (N 6))) (N) ((lookS N (fProof F (ix (nI j0)) (ix (nI j1))) B (N 13)).1) ((lookS N (fProof F (ix (nI j0)) (ix (nI j1))) B (N 13)).2) N F B) below args s 0 0) (F0 m 83 ls []) := by
            intro n9
            induction n9 with
            | zero => intro i t hi hm9 ht; exact absurd hm9 (by omega)
            | succ n9 ih_loop =>
              intro i t hi hm9 ht H locs ls h hl
              have ht2 := badN_le F2 i
              refine lv_iload X.1 X.2.1 dX7_proof_83 (lv_at hl 4 rfl) ?_
              refine lv_aload_n X.1 X.2.1 dX7_proof_85 rfl (lv_at hl 0 rfl) ?_
              refine mr_get X h kf_X7_97 (by decide) dX7_proof_86 (v := .int (nI (N 6))) rfl ?_
              refine b_icmp_ge (tgt := 115) X dX7_proof_89 (by decide) (a := ((i : Nat) : Int)) (b := ((N 6 : Nat) : Int)) (nI_ti (by omega)) (nI_ti (by omega)) (fun c7 => ?_) (fun c7 => ?_)
              · skip
                refine lv_iload_n X.1 X.2.1 dX7_proof_115 rfl (lv_at hl 3 rfl) ?_
                exact mr_iret X hr hlocks h dX7_proof_116 ⟨Nat.le_of_ble_eq_true rfl, Nat.le_of_ble_eq_true rfl⟩ (MA.ok ((if_neg (by rw [iR_lt hj0 (by omega)]; decide)).trans (if_pos (by rw [nI_ti (by omega)]; omega))) (by rw [ht, show i = N 6 by omega, ix_nI (by omega), ix_nI (by omega), look_bad hS2]) rfl (fun k h1 h2 => by simp [va_up, h1, h2]) (by rw [ix_nI (by omega), ix_nI (by omega), ← lookS_N (SN29 N 0)]; exact hS2) (by rw [ix_nI (by omega), ix_nI (by omega), ← lookS_N (SN29 N 0)]; rfl))
              · skip
                refine lv_iload_n X.1 X.2.1 dX7_proof_92 rfl (lv_at hl 3 rfl) ?_
                refine lv_aload_n X.1 X.2.1 dX7_proof_93 rfl (lv_at hl 0 rfl) ?_
                refine lv_iload X.1 X.2.1 dX7_proof_94 (lv_at hl 4 rfl) ?_
                refine mr_callV X h ck_X7_116 ki_X7_isGood ks_X7_isGood dX7_proof_96 (As := [.int (nI (i))]) (c_X7_isGood l G x ar (va_up N 29 (0)) F2 ((lookS (va_up N 29 (0)) (fProof F j0 j1) B ((va_up N 29 (0)) 13)).2) i hI2 (show i < N 6 by omega)) rfl hl rfl (Nat.le_of_ble_eq_true rfl) ⟨Nat.le_of_ble_eq_true rfl, Nat.le_of_ble_eq_true rfl⟩ ⟨Nat.le_of_ble_eq_true rfl, Nat.le_of_ble_eq_true rfl⟩ ?_
                rintro _ _ _ _ H locs ⟨rfl, rfl, rfl, rfl⟩ h
                refine b_bool_eq (tgt := 106) X dX7_proof_99 (by decide) (fun c8 => ?_) (fun c8 => ?_)
                · skip
                  refine lv_iconst (v := nI (1)) X.1 X.2.1 dX7_proof_106 (by decide) ?_
                  refine lv_iadd X.1 X.2.1 dX7_proof_107 ?_
                  refine lv_top (y := nI (t + 1)) (nI_add _ _) ?_
                  refine lv_istore_n (lv' := [(3, .int (nI (t + 1))), (0, .ref x), (1, .int (nI (j0))), (2, .int (nI (j1))), (4, .int (nI (i)))]) X.1 X.2.1 dX7_proof_108 rfl hl (by decide) rfl (fun ls hl => ?_)
                  refine lv_iinc (v := nI (i + 1)) (lv' := [(4, .int (nI (i + 1))), (3, .int (nI (t + 1))), (0, .ref x), (1, .int (nI (j0))), (2, .int (nI (j1)))]) X.1 X.2.1 dX7_proof_109 hl (k := 4) rfl (nI_add (i) 1) (by decide) rfl (fun ls hl => ?_)
                  refine lv_goto (tgt := 83) X.1 X.2.1 dX7_proof_112 (by decide) ?_
                  exact ih_loop (i + 1) (t + 1) (by omega) (by omega) (by subst ht; first | exact badN_t (by assumption) | exact badN_f (by assumption)) _ _ _ h (lv_sub hl [2, 3, 4, 1, 0] rfl)
                · skip
                  refine lv_iconst (v := nI (0)) X.1 X.2.1 dX7_proof_102 (by decide) ?_
                  refine lv_goto (tgt := 107) X.1 X.2.1 dX7_proof_103 (by decide) ?_
                  refine lv_iadd X.1 X.2.1 dX7_proof_107 ?_
                  refine lv_top (y := nI (t + 0)) (nI_add _ _) ?_
                  refine lv_istore_n (lv' := [(3, .int (nI (t + 0))), (0, .ref x), (1, .int (nI (j0))), (2, .int (nI (j1))), (4, .int (nI (i)))]) X.1 X.2.1 dX7_proof_108 rfl hl (by decide) rfl (fun ls hl => ?_)
                  refine lv_iinc (v := nI (i + 1)) (lv' := [(4, .int (nI (i + 1))), (3, .int (nI (t + 0))), (0, .ref x), (1, .int (nI (j0))), (2, .int (nI (j1)))]) X.1 X.2.1 dX7_proof_109 hl (k := 4) rfl (nI_add (i) 1) (by decide) rfl (fun ls hl => ?_)
                  refine lv_goto (tgt := 83) X.1 X.2.1 dX7_proof_112 (by decide) ?_
                  exact ih_loop (i + 1) (t + 0) (by omega) (by omega) (by subst ht; first | exact badN_t (by assumption) | exact badN_f (by assumption)) _ _ _ h (lv_sub hl [2, 3, 4, 1, 0] rfl)
          exact loop (N 6 + 1) 0 0 (by omega) (by omega) rfl _ _ _ h (lv_sub hl [2, 3, 4, 1, 0] rfl)
        · skip
          refine lv_iload_n X.1 X.2.1 dX7_proof_53 rfl (lv_at hl 2 rfl) ?_
          refine lv_aload_n X.1 X.2.1 dX7_proof_54 rfl (lv_at hl 0 rfl) ?_
          refine mr_get X h kf_X7_7 (by decide) dX7_proof_55 rfl ?_
          refine lv_iload_n X.1 X.2.1 dX7_proof_58 rfl (lv_at hl 1 rfl) ?_
          refine mr_ald X h 2 rfl dX7_proof_59 (i := j0) (v := nI (F 2 (j0)) - 1) rfl (by show _ < 16; omega) rfl ?_
          have b9 := hI.p j0
          refine b_icmp_ge (tgt := 67) X dX7_proof_60 (by decide) (a := ((j1 : Nat) : Int)) (b := ((F 2 (j0) : Nat) : Int) - 1) (nI_ti (by omega)) (eI_ti (by omega)) (fun c10 => ?_) (fun c10 => ?_)
          · skip
            refine lv_aload_n X.1 X.2.1 dX7_proof_67 rfl (lv_at hl 0 rfl) ?_
            refine mr_get X h kf_X7_7 (by decide) dX7_proof_68 rfl ?_
            refine lv_iload_n X.1 X.2.1 dX7_proof_71 rfl (lv_at hl 1 rfl) ?_
            refine mr_ald X h 2 rfl dX7_proof_72 (i := j0) (v := nI (F 2 (j0)) - 1) rfl (by show _ < 16; omega) rfl ?_
            have b11 := hI.p j0
            refine mr_ast X h 2 rfl (by decide) dX7_proof_73 (i := j0) (v := F 2 (j0)) rfl (by show _ < 16; omega) rfl (fun H locs h => ?_)
            refine lv_aload_n X.1 X.2.1 dX7_proof_74 rfl (lv_at hl 0 rfl) ?_
            have hF : set1 F 2 j0 (F 2 (j0)) = fProof F j0 j1 := by unfold fProof; first | (rw [if_pos (by omega)]; done) | (rw [if_neg (by omega)]; done)
            have h : mM G A s.heap x ar (va_up N 29 (0)) (fProof F j0 j1) B H locs := by rw [← hF]; exact h
            refine mr_callV X h ck_X7_147 ki_X7_looks ks_X7_looks dX7_proof_75 (As := []) (c_X7_looks l G x ar (va_up N 29 (0)) (fProof F j0 j1) B (hI.pf j0 j1 (by omega))) rfl hl rfl (Nat.le_of_ble_eq_true rfl) ⟨Nat.le_of_ble_eq_true rfl, Nat.le_of_ble_eq_true rfl⟩ ⟨Nat.le_of_ble_eq_true rfl, Nat.le_of_ble_eq_true rfl⟩ ?_
            rintro _ _ F2 _ H locs ⟨rfl, rfl, hS2, rfl, hI2⟩ h
            refine lv_iconst (v := nI (0)) X.1 X.2.1 dX7_proof_78 (by decide) ?_
            refine lv_istore_n (lv' := [(3, .int (nI (0))), (0, .ref x), (1, .int (nI (j0))), (2, .int (nI (j1)))]) X.1 X.2.1 dX7_proof_79 rfl hl (by decide) rfl (fun ls hl => ?_)
            refine lv_iconst (v := nI (0)) X.1 X.2.1 dX7_proof_80 (by decide) ?_
            refine lv_istore (lv' := [(4, .int (nI (0))), (3, .int (nI (0))), (0, .ref x), (1, .int (nI (j0))), (2, .int (nI (j1)))]) X.1 X.2.1 dX7_proof_81 hl (by decide) rfl (fun ls hl => ?_)
            have loop : ∀ (n9 : Nat) (i : Nat) (t : Nat), (i ≤ N 6) → (N 6 + 1 ≤ i + n9) → (t = badN F2 i) → ∀ (H : Heap) (locs : List Loc) (ls : Array Slot), mM G A s.heap x ar (va_up N 29 (0)) F2 (lookS (va_up N 29 (0)) (fProof F j0 j1) B ((va_up N 29 (0)) 13)).2 H locs → lv_has ls 5 [(0, .ref x), (1, .int (nI (j0))), (2, .int (nI (j1))), (3, .int (nI (t))), (4, .int (nI (i)))] → W p l e ({ frames := 4, cells := 0, slots := 0, locals := 90 } : Room) s m args below meth c H locs 0 0 (MZ G A x ar (fun r N' F' B' => MA r N' F' B' (kProof N (nI j0) (nI j1)) (nI (badN (fProof F (ix (nI j0)) (ix (nI j1))) (N 6))) (N) ((lookS N (fProof F (ix (nI j0)) (ix (nI j1))) B (N 13)).1) ((lookS N (fProof F (ix (nI j0)) (ix (nI j1))) B (N 13)).2) N F B) below args s 0 0) (F0 m 83 ls []) := by
              intro n9
              induction n9 with
              | zero => intro i t hi hm9 ht; exact absurd hm9 (by omega)
              | succ n9 ih_loop =>
                intro i t hi hm9 ht H locs ls h hl
                have ht2 := badN_le F2 i
                refine lv_iload X.1 X.2.1 dX7_proof_83 (lv_at hl 4 rfl) ?_
                refine lv_aload_n X.1 X.2.1 dX7_proof_85 rfl (lv_at hl 0 rfl) ?_
                refine mr_get X h kf_X7_97 (by decide) dX7_proof_86 (v := .int (nI (N 6))) rfl ?_
                refine b_icmp_ge (tgt := 115) X dX7_proof_89 (by decide) (a := ((i : Nat) : Int)) (b := ((N 6 : Nat) : Int)) (nI_ti (by omega)) (nI_ti (by omega)) (fun c12 => ?_) (fun c12 => ?_)
                · skip
                  refine lv_iload_n X.1 X.2.1 dX7_proof_115 rfl (lv_at hl 3 rfl) ?_
                  exact mr_iret X hr hlocks h dX7_proof_116 ⟨Nat.le_of_ble_eq_true rfl, Nat.le_of_ble_eq_true rfl⟩ (MA.ok ((if_neg (by rw [iR_lt hj0 (by omega)]; decide)).trans (if_pos (by rw [nI_ti (by omega)]; omega))) (by rw [ht, show i = N 6 by omega, ix_nI (by omega), ix_nI (by omega), look_bad hS2]) rfl (fun k h1 h2 => by simp [va_up, h1, h2]) (by rw [ix_nI (by omega), ix_nI (by omega), ← lookS_N (SN29 N 0)]; exact hS2) (by rw [ix_nI (by omega), ix_nI (by omega), ← lookS_N (SN29 N 0)]; rfl))
                · skip
                  refine lv_iload_n X.1 X.2.1 dX7_proof_92 rfl (lv_at hl 3 rfl) ?_
                  refine lv_aload_n X.1 X.2.1 dX7_proof_93 rfl (lv_at hl 0 rfl) ?_
                  refine lv_iload X.1 X.2.1 dX7_proof_94 (lv_at hl 4 rfl) ?_
                  refine mr_callV X h ck_X7_116 ki_X7_isGood ks_X7_isGood dX7_proof_96 (As := [.int (nI (i))]) (c_X7_isGood l G x ar (va_up N 29 (0)) F2 ((lookS (va_up N 29 (0)) (fProof F j0 j1) B ((va_up N 29 (0)) 13)).2) i hI2 (show i < N 6 by omega)) rfl hl rfl (Nat.le_of_ble_eq_true rfl) ⟨Nat.le_of_ble_eq_true rfl, Nat.le_of_ble_eq_true rfl⟩ ⟨Nat.le_of_ble_eq_true rfl, Nat.le_of_ble_eq_true rfl⟩ ?_
                  rintro _ _ _ _ H locs ⟨rfl, rfl, rfl, rfl⟩ h
                  refine b_bool_eq (tgt := 106) X dX7_proof_99 (by decide) (fun c13 => ?_) (fun c13 => ?_)
                  · skip
                    refine lv_iconst (v := nI (1)) X.1 X.2.1 dX7_proof_106 (by decide) ?_
                    refine lv_iadd X.1 X.2.1 dX7_proof_107 ?_
                    refine lv_top (y := nI (t + 1)) (nI_add _ _) ?_
                    refine lv_istore_n (lv' := [(3, .int (nI (t + 1))), (0, .ref x), (1, .int (nI (j0))), (2, .int (nI (j1))), (4, .int (nI (i)))]) X.1 X.2.1 dX7_proof_108 rfl hl (by decide) rfl (fun ls hl => ?_)
                    refine lv_iinc (v := nI (i + 1)) (lv' := [(4, .int (nI (i + 1))), (3, .int (nI (t + 1))), (0, .ref x), (1, .int (nI (j0))), (2, .int (nI (j1)))]) X.1 X.2.1 dX7_proof_109 hl (k := 4) rfl (nI_add (i) 1) (by decide) rfl (fun ls hl => ?_)
                    refine lv_goto (tgt := 83) X.1 X.2.1 dX7_proof_112 (by decide) ?_
                    exact ih_loop (i + 1) (t + 1) (by omega) (by omega) (by subst ht; first | exact badN_t (by assumption) | exact badN_f (by assumption)) _ _ _ h (lv_sub hl [2, 3, 4, 1, 0] rfl)
                  · skip
                    refine lv_iconst (v := nI (0)) X.1 X.2.1 dX7_proof_102 (by decide) ?_
                    refine lv_goto (tgt := 107) X.1 X.2.1 dX7_proof_103 (by decide) ?_
                    refine lv_iadd X.1 X.2.1 dX7_proof_107 ?_
                    refine lv_top (y := nI (t + 0)) (nI_add _ _) ?_
                    refine lv_istore_n (lv' := [(3, .int (nI (t + 0))), (0, .ref x), (1, .int (nI (j0))), (2, .int (nI (j1))), (4, .int (nI (i)))]) X.1 X.2.1 dX7_proof_108 rfl hl (by decide) rfl (fun ls hl => ?_)
                    refine lv_iinc (v := nI (i + 1)) (lv' := [(4, .int (nI (i + 1))), (3, .int (nI (t + 0))), (0, .ref x), (1, .int (nI (j0))), (2, .int (nI (j1)))]) X.1 X.2.1 dX7_proof_109 hl (k := 4) rfl (nI_add (i) 1) (by decide) rfl (fun ls hl => ?_)
                    refine lv_goto (tgt := 83) X.1 X.2.1 dX7_proof_112 (by decide) ?_
                    exact ih_loop (i + 1) (t + 0) (by omega) (by omega) (by subst ht; first | exact badN_t (by assumption) | exact badN_f (by assumption)) _ _ _ h (lv_sub hl [2, 3, 4, 1, 0] rfl)
            exact loop (N 6 + 1) 0 0 (by omega) (by omega) rfl _ _ _ h (lv_sub hl [2, 3, 4, 1, 0] rfl)
          · skip
            refine lv_iload_n X.1 X.2.1 dX7_proof_63 rfl (lv_at hl 2 rfl) ?_
            refine lv_goto (tgt := 73) X.1 X.2.1 dX7_proof_64 (by decide) ?_
            refine mr_ast X h 2 rfl (by decide) dX7_proof_73 (i := j0) (v := j1 + 1) rfl (by show _ < 16; omega) (eI_suc _) (fun H locs h => ?_)
            refine lv_aload_n X.1 X.2.1 dX7_proof_74 rfl (lv_at hl 0 rfl) ?_
            have hF : set1 F 2 j0 (j1 + 1) = fProof F j0 j1 := by unfold fProof; first | (rw [if_pos (by omega)]; done) | (rw [if_neg (by omega)]; done)
            have h : mM G A s.heap x ar (va_up N 29 (0)) (fProof F j0 j1) B H locs := by rw [← hF]; exact h
            refine mr_callV X h ck_X7_147 ki_X7_looks ks_X7_looks dX7_proof_75 (As := []) (c_X7_looks l G x ar (va_up N 29 (0)) (fProof F j0 j1) B (hI.pf j0 j1 (by omega))) rfl hl rfl (Nat.le_of_ble_eq_true rfl) ⟨Nat.le_of_ble_eq_true rfl, Nat.le_of_ble_eq_true rfl⟩ ⟨Nat.le_of_ble_eq_true rfl, Nat.le_of_ble_eq_true rfl⟩ ?_
            rintro _ _ F2 _ H locs ⟨rfl, rfl, hS2, rfl, hI2⟩ h
            refine lv_iconst (v := nI (0)) X.1 X.2.1 dX7_proof_78 (by decide) ?_
            refine lv_istore_n (lv' := [(3, .int (nI (0))), (0, .ref x), (1, .int (nI (j0))), (2, .int (nI (j1)))]) X.1 X.2.1 dX7_proof_79 rfl hl (by decide) rfl (fun ls hl => ?_)
            refine lv_iconst (v := nI (0)) X.1 X.2.1 dX7_proof_80 (by decide) ?_
            refine lv_istore (lv' := [(4, .int (nI (0))), (3, .int (nI (0))), (0, .ref x), (1, .int (nI (j0))), (2, .int (nI (j1)))]) X.1 X.2.1 dX7_proof_81 hl (by decide) rfl (fun ls hl => ?_)
            have loop : ∀ (n9 : Nat) (i : Nat) (t : Nat), (i ≤ N 6) → (N 6 + 1 ≤ i + n9) → (t = badN F2 i) → ∀ (H : Heap) (locs : List Loc) (ls : Array Slot), mM G A s.heap x ar (va_up N 29 (0)) F2 (lookS (va_up N 29 (0)) (fProof F j0 j1) B ((va_up N 29 (0)) 13)).2 H locs → lv_has ls 5 [(0, .ref x), (1, .int (nI (j0))), (2, .int (nI (j1))), (3, .int (nI (t))), (4, .int (nI (i)))] → W p l e ({ frames := 4, cells := 0, slots := 0, locals := 90 } : Room) s m args below meth c H locs 0 0 (MZ G A x ar (fun r N' F' B' => MA r N' F' B' (kProof N (nI j0) (nI j1)) (nI (badN (fProof F (ix (nI j0)) (ix (nI j1))) (N 6))) (N) ((lookS N (fProof F (ix (nI j0)) (ix (nI j1))) B (N 13)).1) ((lookS N (fProof F (ix (nI j0)) (ix (nI j1))) B (N 13)).2) N F B) below args s 0 0) (F0 m 83 ls []) := by
              intro n9
              induction n9 with
              | zero => intro i t hi hm9 ht; exact absurd hm9 (by omega)
              | succ n9 ih_loop =>
                intro i t hi hm9 ht H locs ls h hl
                have ht2 := badN_le F2 i
                refine lv_iload X.1 X.2.1 dX7_proof_83 (lv_at hl 4 rfl) ?_
                refine lv_aload_n X.1 X.2.1 dX7_proof_85 rfl (lv_at hl 0 rfl) ?_
                refine mr_get X h kf_X7_97 (by decide) dX7_proof_86 (v := .int (nI (N 6))) rfl ?_
                refine b_icmp_ge (tgt := 115) X dX7_proof_89 (by decide) (a := ((i : Nat) : Int)) (b := ((N 6 : Nat) : Int)) (nI_ti (by omega)) (nI_ti (by omega)) (fun c14 => ?_) (fun c14 => ?_)
                · skip
                  refine lv_iload_n X.1 X.2.1 dX7_proof_115 rfl (lv_at hl 3 rfl) ?_
                  exact mr_iret X hr hlocks h dX7_proof_116 ⟨Nat.le_of_ble_eq_true rfl, Nat.le_of_ble_eq_true rfl⟩ (MA.ok ((if_neg (by rw [iR_lt hj0 (by omega)]; decide)).trans (if_pos (by rw [nI_ti (by omega)]; omega))) (by rw [ht, show i = N 6 by omega, ix_nI (by omega), ix_nI (by omega), look_bad hS2]) rfl (fun k h1 h2 => by simp [va_up, h1, h2]) (by rw [ix_nI (by omega), ix_nI (by omega), ← lookS_N (SN29 N 0)]; exact hS2) (by rw [ix_nI (by omega), ix_nI (by omega), ← lookS_N (SN29 N 0)]; rfl))
                · skip
                  refine lv_iload_n X.1 X.2.1 dX7_proof_92 rfl (lv_at hl 3 rfl) ?_
                  refine lv_aload_n X.1 X.2.1 dX7_proof_93 rfl (lv_at hl 0 rfl) ?_
                  refine lv_iload X.1 X.2.1 dX7_proof_94 (lv_at hl 4 rfl) ?_
                  refine mr_callV X h ck_X7_116 ki_X7_isGood ks_X7_isGood dX7_proof_96 (As := [.int (nI (i))]) (c_X7_isGood l G x ar (va_up N 29 (0)) F2 ((lookS (va_up N 29 (0)) (fProof F j0 j1) B ((va_up N 29 (0)) 13)).2) i hI2 (show i < N 6 by omega)) rfl hl rfl (Nat.le_of_ble_eq_true rfl) ⟨Nat.le_of_ble_eq_true rfl, Nat.le_of_ble_eq_true rfl⟩ ⟨Nat.le_of_ble_eq_true rfl, Nat.le_of_ble_eq_true rfl⟩ ?_
                  rintro _ _ _ _ H locs ⟨rfl, rfl, rfl, rfl⟩ h
                  refine b_bool_eq (tgt := 106) X dX7_proof_99 (by decide) (fun c15 => ?_) (fun c15 => ?_)
                  · skip
                    refine lv_iconst (v := nI (1)) X.1 X.2.1 dX7_proof_106 (by decide) ?_
                    refine lv_iadd X.1 X.2.1 dX7_proof_107 ?_
                    refine lv_top (y := nI (t + 1)) (nI_add _ _) ?_
                    refine lv_istore_n (lv' := [(3, .int (nI (t + 1))), (0, .ref x), (1, .int (nI (j0))), (2, .int (nI (j1))), (4, .int (nI (i)))]) X.1 X.2.1 dX7_proof_108 rfl hl (by decide) rfl (fun ls hl => ?_)
                    refine lv_iinc (v := nI (i + 1)) (lv' := [(4, .int (nI (i + 1))), (3, .int (nI (t + 1))), (0, .ref x), (1, .int (nI (j0))), (2, .int (nI (j1)))]) X.1 X.2.1 dX7_proof_109 hl (k := 4) rfl (nI_add (i) 1) (by decide) rfl (fun ls hl => ?_)
                    refine lv_goto (tgt := 83) X.1 X.2.1 dX7_proof_112 (by decide) ?_
                    exact ih_loop (i + 1) (t + 1) (by omega) (by omega) (by subst ht; first | exact badN_t (by assumption) | exact badN_f (by assumption)) _ _ _ h (lv_sub hl [2, 3, 4, 1, 0] rfl)
                  · skip
                    refine lv_iconst (v := nI (0)) X.1 X.2.1 dX7_proof_102 (by decide) ?_
                    refine lv_goto (tgt := 107) X.1 X.2.1 dX7_proof_103 (by decide) ?_
                    refine lv_iadd X.1 X.2.1 dX7_proof_107 ?_
                    refine lv_top (y := nI (t + 0)) (nI_add _ _) ?_
                    refine lv_istore_n (lv' := [(3, .int (nI (t + 0))), (0, .ref x), (1, .int (nI (j0))), (2, .int (nI (j1))), (4, .int (nI (i)))]) X.1 X.2.1 dX7_proof_108 rfl hl (by decide) rfl (fun ls hl => ?_)
                    refine lv_iinc (v := nI (i + 1)) (lv' := [(4, .int (nI (i + 1))), (3, .int (nI (t + 0))), (0, .ref x), (1, .int (nI (j0))), (2, .int (nI (j1)))]) X.1 X.2.1 dX7_proof_109 hl (k := 4) rfl (nI_add (i) 1) (by decide) rfl (fun ls hl => ?_)
                    refine lv_goto (tgt := 83) X.1 X.2.1 dX7_proof_112 (by decide) ?_
                    exact ih_loop (i + 1) (t + 0) (by omega) (by omega) (by subst ht; first | exact badN_t (by assumption) | exact badN_f (by assumption)) _ _ _ h (lv_sub hl [2, 3, 4, 1, 0] rfl)
            exact loop (N 6 + 1) 0 0 (by omega) (by omega) rfl _ _ _ h (lv_sub hl [2, 3, 4, 1, 0] rfl)
      · skip
        exact absurd c4 (by first | decide | omega)
  · skip
    refine lv_iconst (v := nI (1)) X.1 X.2.1 dX7_proof_9 (by decide) ?_
    refine lv_goto (tgt := 30) X.1 X.2.1 dX7_proof_10 (by decide) ?_
    refine mr_callV X h ck_X7_93 ki_X7_fails ks_X7_fails dX7_proof_30 (As := [.int (nI (1))]) (c_X7_fails l G x ar N F B 1 (by omega)) rfl hl rfl (Nat.le_of_ble_eq_true rfl) ⟨Nat.le_of_ble_eq_true rfl, Nat.le_of_ble_eq_true rfl⟩ ⟨Nat.le_of_ble_eq_true rfl, Nat.le_of_ble_eq_true rfl⟩ ?_
    rintro _ _ _ _ H locs ⟨rfl, rfl, rfl, rfl⟩ h
    refine b_bool_eq (tgt := 38) X dX7_proof_33 (by decide) (fun c16 => ?_) (fun c16 => ?_)
    · skip
      exact absurd c16 (by first | decide | omega)
    · skip
      have c16 := of_decide_eq_true c16
      refine lv_iconst (v := nI (0)) X.1 X.2.1 dX7_proof_36 (by decide) ?_
      exact mr_iret X hr hlocks h dX7_proof_37 ⟨Nat.le_of_ble_eq_true rfl, Nat.le_of_ble_eq_true rfl⟩ (MA.bad (if_pos c1) (by decide))
set_option maxHeartbeats 4000000 in
set_option maxRecDepth 100000 in
theorem c_X7_clear (l : Launch) (G : mG) (x : Nat) (ar N : Nat → Nat) (F : Nat → Nat → Nat) (B : Nat → Int32) (p0 : Int32) (hI : Iv N F) : MMet l yX7_clear cX7_clear 3 (some FieldType.int) ({ frames := 4, cells := 0, slots := 0, locals := 90 } : Room) G x ar [.ref x, .int (p0)] N F B (fun r N' F' B' => MA r N' F' B' (kClear N F p0) (nI (F 2 (ix p0)) - 1) (N) ((lookS N (set1 F 2 (ix p0) 0) B (N 13)).1) ((lookS N (set1 F 2 (ix p0) 0) B (N 13)).2) N F B) := by
  refine MMet.of (by decide) (Nat.le_of_ble_eq_true rfl) ?_
  intro p e s m args below meth c A ls X hr hlocks h hl
  have hl : lv_has ls 3 [(0, .ref x), (1, .int (p0))] := hl
  have hn := hI.n
  refine lv_aload_n X.1 X.2.1 dX7_clear_0 rfl (lv_at hl 0 rfl) ?_
  refine lv_aload_n X.1 X.2.1 dX7_clear_1 rfl (lv_at hl 0 rfl) ?_
  refine lv_iload_n X.1 X.2.1 dX7_clear_2 rfl (lv_at hl 1 rfl) ?_
  refine mr_callV X h ck_X7_107 ki_X7_isPlayer ks_X7_isPlayer dX7_clear_3 (As := [.int (p0)]) (c_X7_isPlayer l G x ar N F B (p0) hI) rfl hl rfl (Nat.le_of_ble_eq_true rfl) ⟨Nat.le_of_ble_eq_true rfl, Nat.le_of_ble_eq_true rfl⟩ ⟨Nat.le_of_ble_eq_true rfl, Nat.le_of_ble_eq_true rfl⟩ ?_
  rintro _ _ _ _ H locs ⟨rfl, rfl, rfl, rfl⟩ h
  refine b_bool_ne (tgt := 13) X dX7_clear_6 (by decide) (fun c1 => ?_) (fun c1 => ?_)
  · skip
    obtain ⟨j0, hj0, rfl⟩ := iR_t c1 (by omega)
    refine lv_aload_n X.1 X.2.1 dX7_clear_13 rfl (lv_at hl 0 rfl) ?_
    refine mr_get X h kf_X7_7 (by decide) dX7_clear_14 rfl ?_
    refine lv_iload_n X.1 X.2.1 dX7_clear_17 rfl (lv_at hl 1 rfl) ?_
    refine mr_ald X h 2 rfl dX7_clear_18 (i := j0) (v := nI (F 2 (j0)) - 1) rfl (by show _ < 16; omega) rfl ?_
    have b2 := hI.p j0
    refine lv_iconst (v := nI (0) - 1) X.1 X.2.1 dX7_clear_19 (by decide) ?_
    refine b_icmp_ne (tgt := 27) X dX7_clear_20 (by decide) (a := ((F 2 (j0) : Nat) : Int) - 1) (b := ((0 : Nat) : Int) - 1) (eI_ti (by omega)) (eI_ti (by omega)) (fun c3 => ?_) (fun c3 => ?_)
    · skip
      refine lv_iconst (v := nI (0)) X.1 X.2.1 dX7_clear_27 (by decide) ?_
      refine mr_callV X h ck_X7_93 ki_X7_fails ks_X7_fails dX7_clear_28 (As := [.int (nI (0))]) (c_X7_fails l G x ar N F B 0 (by omega)) rfl hl rfl (Nat.le_of_ble_eq_true rfl) ⟨Nat.le_of_ble_eq_true rfl, Nat.le_of_ble_eq_true rfl⟩ ⟨Nat.le_of_ble_eq_true rfl, Nat.le_of_ble_eq_true rfl⟩ ?_
      rintro _ _ _ _ H locs ⟨rfl, rfl, rfl, rfl⟩ h
      refine b_bool_eq (tgt := 36) X dX7_clear_31 (by decide) (fun c4 => ?_) (fun c4 => ?_)
      · skip
        have c4 := of_decide_eq_false c4
        refine lv_aload_n X.1 X.2.1 dX7_clear_36 rfl (lv_at hl 0 rfl) ?_
        refine mr_get X h kf_X7_7 (by decide) dX7_clear_37 rfl ?_
        refine lv_iload_n X.1 X.2.1 dX7_clear_40 rfl (lv_at hl 1 rfl) ?_
        refine mr_ald X h 2 rfl dX7_clear_41 (i := j0) (v := nI (F 2 (j0)) - 1) rfl (by show _ < 16; omega) rfl ?_
        have b5 := hI.p j0
        refine lv_istore_n (lv' := [(2, .int (nI (F 2 (j0)) - 1)), (0, .ref x), (1, .int (nI (j0)))]) X.1 X.2.1 dX7_clear_42 rfl hl (by decide) rfl (fun ls hl => ?_)
        refine lv_aload_n X.1 X.2.1 dX7_clear_43 rfl (lv_at hl 1 rfl) ?_
        refine mr_get X h kf_X7_7 (by decide) dX7_clear_44 rfl ?_
        refine lv_iload_n X.1 X.2.1 dX7_clear_47 rfl (lv_at hl 2 rfl) ?_
        refine lv_iconst (v := nI (0) - 1) X.1 X.2.1 dX7_clear_48 (by decide) ?_
        refine mr_ast X h 2 rfl (by decide) dX7_clear_49 (i := j0) (v := 0) rfl (by show _ < 16; omega) rfl (fun H locs h => ?_)
        refine lv_aload_n X.1 X.2.1 dX7_clear_50 rfl (lv_at hl 1 rfl) ?_
        refine mr_callV X h ck_X7_147 ki_X7_looks ks_X7_looks dX7_clear_51 (As := []) (c_X7_looks l G x ar (va_up N 29 (0)) (set1 F 2 (j0) (0)) B (hI.set2 j0 0 (by omega))) rfl hl rfl (Nat.le_of_ble_eq_true rfl) ⟨Nat.le_of_ble_eq_true rfl, Nat.le_of_ble_eq_true rfl⟩ ⟨Nat.le_of_ble_eq_true rfl, Nat.le_of_ble_eq_true rfl⟩ ?_
        rintro _ _ F2 _ H locs ⟨rfl, rfl, hS2, rfl, hI2⟩ h
        refine lv_iload_n X.1 X.2.1 dX7_clear_54 rfl (lv_at hl 0 rfl) ?_
        exact mr_iret X hr hlocks h dX7_clear_55 ⟨Nat.le_of_ble_eq_true rfl, Nat.le_of_ble_eq_true rfl⟩ (MA.ok ((if_neg (by rw [iR_lt hj0 (by omega)]; decide)).trans (if_neg (by rw [ix_nI (by omega)]; omega))) (by rw [ix_nI (by omega)]) rfl (fun k h1 h2 => by simp [va_up, h1, h2]) (by rw [ix_nI (by omega), ← lookS_N (SN29 N 0)]; exact hS2) (by rw [ix_nI (by omega), ← lookS_N (SN29 N 0)]; rfl))
      · skip
        exact absurd c4 (by first | decide | omega)
    · skip
      refine lv_iconst (v := nI (2)) X.1 X.2.1 dX7_clear_23 (by decide) ?_
      refine lv_goto (tgt := 28) X.1 X.2.1 dX7_clear_24 (by decide) ?_
      refine mr_callV X h ck_X7_93 ki_X7_fails ks_X7_fails dX7_clear_28 (As := [.int (nI (2))]) (c_X7_fails l G x ar N F B 2 (by omega)) rfl hl rfl (Nat.le_of_ble_eq_true rfl) ⟨Nat.le_of_ble_eq_true rfl, Nat.le_of_ble_eq_true rfl⟩ ⟨Nat.le_of_ble_eq_true rfl, Nat.le_of_ble_eq_true rfl⟩ ?_
      rintro _ _ _ _ H locs ⟨rfl, rfl, rfl, rfl⟩ h
      refine b_bool_eq (tgt := 36) X dX7_clear_31 (by decide) (fun c6 => ?_) (fun c6 => ?_)
      · skip
        exact absurd c6 (by first | decide | omega)
      · skip
        have c6 := of_decide_eq_true c6
        refine lv_iconst (v := nI (0)) X.1 X.2.1 dX7_clear_34 (by decide) ?_
        exact mr_iret X hr hlocks h dX7_clear_35 ⟨Nat.le_of_ble_eq_true rfl, Nat.le_of_ble_eq_true rfl⟩ (MA.bad ((if_neg (by rw [iR_lt hj0 (by omega)]; decide)).trans (if_pos (by rw [ix_nI (by omega)]; omega))) (by decide))
  · skip
    refine lv_iconst (v := nI (1)) X.1 X.2.1 dX7_clear_9 (by decide) ?_
    refine lv_goto (tgt := 28) X.1 X.2.1 dX7_clear_10 (by decide) ?_
    refine mr_callV X h ck_X7_93 ki_X7_fails ks_X7_fails dX7_clear_28 (As := [.int (nI (1))]) (c_X7_fails l G x ar N F B 1 (by omega)) rfl hl rfl (Nat.le_of_ble_eq_true rfl) ⟨Nat.le_of_ble_eq_true rfl, Nat.le_of_ble_eq_true rfl⟩ ⟨Nat.le_of_ble_eq_true rfl, Nat.le_of_ble_eq_true rfl⟩ ?_
    rintro _ _ _ _ H locs ⟨rfl, rfl, rfl, rfl⟩ h
    refine b_bool_eq (tgt := 36) X dX7_clear_31 (by decide) (fun c7 => ?_) (fun c7 => ?_)
    · skip
      exact absurd c7 (by first | decide | omega)
    · skip
      have c7 := of_decide_eq_true c7
      refine lv_iconst (v := nI (0)) X.1 X.2.1 dX7_clear_34 (by decide) ?_
      exact mr_iret X hr hlocks h dX7_clear_35 ⟨Nat.le_of_ble_eq_true rfl, Nat.le_of_ble_eq_true rfl⟩ (MA.bad (if_pos c1) (by decide))
set_option maxHeartbeats 4000000 in
set_option maxRecDepth 100000 in
theorem c_X7_match (l : Launch) (G : mG) (x : Nat) (ar N : Nat → Nat) (F : Nat → Nat → Nat) (B : Nat → Int32) (a0 : Int32) (b0 : Int32) (r0 : Int32) (hI : Iv N F) : MMet l yX7_match cX7_match 6 (some FieldType.int) ({ frames := 2, cells := 0, slots := 0, locals := 43 } : Room) G x ar [.ref x, .int (a0), .int (b0), .int (r0)] N F B (fun r N' F' B' => MA r N' F' B' (kMatch N F a0 b0 r0) (nI (N 6)) (va_up N 6 (N 6 + 1)) (fMatch N F a0 b0 r0) (B) N F B) := by
  refine MMet.of (by decide) (Nat.le_of_ble_eq_true rfl) ?_
  intro p e s m args below meth c A ls X hr hlocks h hl
  have hl : lv_has ls 6 [(0, .ref x), (1, .int (a0)), (2, .int (b0)), (3, .int (r0))] := hl
  have hn := hI.n
  refine lv_aload_n X.1 X.2.1 dX7_match_0 rfl (lv_at hl 0 rfl) ?_
  refine lv_iload_n X.1 X.2.1 dX7_match_1 rfl (lv_at hl 1 rfl) ?_
  refine mr_callV X h ck_X7_107 ki_X7_isPlayer ks_X7_isPlayer dX7_match_2 (As := [.int (a0)]) (c_X7_isPlayer l G x ar N F B (a0) hI) rfl hl rfl (Nat.le_of_ble_eq_true rfl) ⟨Nat.le_of_ble_eq_true rfl, Nat.le_of_ble_eq_true rfl⟩ ⟨Nat.le_of_ble_eq_true rfl, Nat.le_of_ble_eq_true rfl⟩ ?_
  rintro _ _ _ _ H locs ⟨rfl, rfl, rfl, rfl⟩ h
  refine b_bool_eq (tgt := 27) X dX7_match_5 (by decide) (fun c1 => ?_) (fun c1 => ?_)
  · skip
    refine lv_iconst (v := nI (0)) X.1 X.2.1 dX7_match_27 (by decide) ?_
    refine lv_istore (lv' := [(4, .int (nI (0))), (0, .ref x), (1, .int (a0)), (2, .int (b0)), (3, .int (r0))]) X.1 X.2.1 dX7_match_28 hl (by decide) rfl (fun ls hl => ?_)
    refine lv_iload X.1 X.2.1 dX7_match_30 (lv_at hl 0 rfl) ?_
    refine b_if_eq (tgt := 78) X dX7_match_32 (by decide) (a := ((0 : Nat) : Int)) (nI_ti (by omega)) (fun c2 => ?_) (fun c2 => ?_)
    · skip
      refine lv_iconst (v := nI (0)) X.1 X.2.1 dX7_match_78 (by decide) ?_
      refine lv_istore (lv' := [(5, .int (nI (0))), (4, .int (nI (0))), (0, .ref x), (1, .int (a0)), (2, .int (b0)), (3, .int (r0))]) X.1 X.2.1 dX7_match_79 hl (by decide) rfl (fun ls hl => ?_)
      refine lv_aload_n X.1 X.2.1 dX7_match_81 rfl (lv_at hl 2 rfl) ?_
      refine lv_iload X.1 X.2.1 dX7_match_82 (lv_at hl 1 rfl) ?_
      refine b_if_ne (tgt := 91) X dX7_match_84 (by decide) (a := ((0 : Nat) : Int)) (nI_ti (by omega)) (fun c3 => ?_) (fun c3 => ?_)
      · skip
        exact absurd c3 (by first | decide | omega)
      · skip
        refine lv_iconst (v := nI (1)) X.1 X.2.1 dX7_match_87 (by decide) ?_
        refine lv_goto (tgt := 110) X.1 X.2.1 dX7_match_88 (by decide) ?_
        refine mr_callV X h ck_X7_93 ki_X7_fails ks_X7_fails dX7_match_110 (As := [.int (nI (1))]) (c_X7_fails l G x ar N F B 1 (by omega)) rfl hl rfl (Nat.le_of_ble_eq_true rfl) ⟨Nat.le_of_ble_eq_true rfl, Nat.le_of_ble_eq_true rfl⟩ ⟨Nat.le_of_ble_eq_true rfl, Nat.le_of_ble_eq_true rfl⟩ ?_
        rintro _ _ _ _ H locs ⟨rfl, rfl, rfl, rfl⟩ h
        refine b_bool_eq (tgt := 118) X dX7_match_113 (by decide) (fun c4 => ?_) (fun c4 => ?_)
        · skip
          exact absurd c4 (by first | decide | omega)
        · skip
          have c4 := of_decide_eq_true c4
          refine lv_iconst (v := nI (0)) X.1 X.2.1 dX7_match_116 (by decide) ?_
          exact mr_iret X hr hlocks h dX7_match_117 ⟨Nat.le_of_ble_eq_true rfl, Nat.le_of_ble_eq_true rfl⟩ (MA.bad (if_pos (by simp [c1])) (by decide))
    · skip
      exact absurd c2 (by first | decide | omega)
  · skip
    obtain ⟨i1, hi1, rfl⟩ := iR_t c1 (by omega)
    refine lv_aload_n X.1 X.2.1 dX7_match_8 rfl (lv_at hl 0 rfl) ?_
    refine lv_iload_n X.1 X.2.1 dX7_match_9 rfl (lv_at hl 2 rfl) ?_
    refine mr_callV X h ck_X7_107 ki_X7_isPlayer ks_X7_isPlayer dX7_match_10 (As := [.int (b0)]) (c_X7_isPlayer l G x ar N F B (b0) hI) rfl hl rfl (Nat.le_of_ble_eq_true rfl) ⟨Nat.le_of_ble_eq_true rfl, Nat.le_of_ble_eq_true rfl⟩ ⟨Nat.le_of_ble_eq_true rfl, Nat.le_of_ble_eq_true rfl⟩ ?_
    rintro _ _ _ _ H locs ⟨rfl, rfl, rfl, rfl⟩ h
    refine b_bool_eq (tgt := 27) X dX7_match_13 (by decide) (fun c5 => ?_) (fun c5 => ?_)
    · skip
      refine lv_iconst (v := nI (0)) X.1 X.2.1 dX7_match_27 (by decide) ?_
      refine lv_istore (lv' := [(4, .int (nI (0))), (0, .ref x), (1, .int (nI (i1))), (2, .int (b0)), (3, .int (r0))]) X.1 X.2.1 dX7_match_28 hl (by decide) rfl (fun ls hl => ?_)
      refine lv_iload X.1 X.2.1 dX7_match_30 (lv_at hl 0 rfl) ?_
      refine b_if_eq (tgt := 78) X dX7_match_32 (by decide) (a := ((0 : Nat) : Int)) (nI_ti (by omega)) (fun c6 => ?_) (fun c6 => ?_)
      · skip
        refine lv_iconst (v := nI (0)) X.1 X.2.1 dX7_match_78 (by decide) ?_
        refine lv_istore (lv' := [(5, .int (nI (0))), (4, .int (nI (0))), (0, .ref x), (1, .int (nI (i1))), (2, .int (b0)), (3, .int (r0))]) X.1 X.2.1 dX7_match_79 hl (by decide) rfl (fun ls hl => ?_)
        refine lv_aload_n X.1 X.2.1 dX7_match_81 rfl (lv_at hl 2 rfl) ?_
        refine lv_iload X.1 X.2.1 dX7_match_82 (lv_at hl 1 rfl) ?_
        refine b_if_ne (tgt := 91) X dX7_match_84 (by decide) (a := ((0 : Nat) : Int)) (nI_ti (by omega)) (fun c7 => ?_) (fun c7 => ?_)
        · skip
          exact absurd c7 (by first | decide | omega)
        · skip
          refine lv_iconst (v := nI (1)) X.1 X.2.1 dX7_match_87 (by decide) ?_
          refine lv_goto (tgt := 110) X.1 X.2.1 dX7_match_88 (by decide) ?_
          refine mr_callV X h ck_X7_93 ki_X7_fails ks_X7_fails dX7_match_110 (As := [.int (nI (1))]) (c_X7_fails l G x ar N F B 1 (by omega)) rfl hl rfl (Nat.le_of_ble_eq_true rfl) ⟨Nat.le_of_ble_eq_true rfl, Nat.le_of_ble_eq_true rfl⟩ ⟨Nat.le_of_ble_eq_true rfl, Nat.le_of_ble_eq_true rfl⟩ ?_
          rintro _ _ _ _ H locs ⟨rfl, rfl, rfl, rfl⟩ h
          refine b_bool_eq (tgt := 118) X dX7_match_113 (by decide) (fun c8 => ?_) (fun c8 => ?_)
          · skip
            exact absurd c8 (by first | decide | omega)
          · skip
            have c8 := of_decide_eq_true c8
            refine lv_iconst (v := nI (0)) X.1 X.2.1 dX7_match_116 (by decide) ?_
            exact mr_iret X hr hlocks h dX7_match_117 ⟨Nat.le_of_ble_eq_true rfl, Nat.le_of_ble_eq_true rfl⟩ (MA.bad (if_pos (by simp [iR_lt hi1 (show N 1 < 2 ^ 31 by omega), c5])) (by decide))
      · skip
        exact absurd c6 (by first | decide | omega)
    · skip
      obtain ⟨i2, hi2, rfl⟩ := iR_t c5 (by omega)
      refine lv_iload_n X.1 X.2.1 dX7_match_16 rfl (lv_at hl 3 rfl) ?_
      refine mr_callS X h ck_X7_100 kst_X7_isRegion dX7_match_17 (As := [.int (r0)]) (c_X7_isRegion l G x ar N F B (r0)) rfl hl rfl (Nat.le_of_ble_eq_true rfl) ⟨Nat.le_of_ble_eq_true rfl, Nat.le_of_ble_eq_true rfl⟩ ⟨Nat.le_of_ble_eq_true rfl, Nat.le_of_ble_eq_true rfl⟩ ?_
      rintro _ _ _ _ H locs ⟨rfl, rfl, rfl, rfl⟩ h
      refine b_bool_eq (tgt := 27) X dX7_match_20 (by decide) (fun c9 => ?_) (fun c9 => ?_)
      · skip
        refine lv_iconst (v := nI (0)) X.1 X.2.1 dX7_match_27 (by decide) ?_
        refine lv_istore (lv' := [(4, .int (nI (0))), (0, .ref x), (1, .int (nI (i1))), (2, .int (nI (i2))), (3, .int (r0))]) X.1 X.2.1 dX7_match_28 hl (by decide) rfl (fun ls hl => ?_)
        refine lv_iload X.1 X.2.1 dX7_match_30 (lv_at hl 0 rfl) ?_
        refine b_if_eq (tgt := 78) X dX7_match_32 (by decide) (a := ((0 : Nat) : Int)) (nI_ti (by omega)) (fun c10 => ?_) (fun c10 => ?_)
        · skip
          refine lv_iconst (v := nI (0)) X.1 X.2.1 dX7_match_78 (by decide) ?_
          refine lv_istore (lv' := [(5, .int (nI (0))), (4, .int (nI (0))), (0, .ref x), (1, .int (nI (i1))), (2, .int (nI (i2))), (3, .int (r0))]) X.1 X.2.1 dX7_match_79 hl (by decide) rfl (fun ls hl => ?_)
          refine lv_aload_n X.1 X.2.1 dX7_match_81 rfl (lv_at hl 2 rfl) ?_
          refine lv_iload X.1 X.2.1 dX7_match_82 (lv_at hl 1 rfl) ?_
          refine b_if_ne (tgt := 91) X dX7_match_84 (by decide) (a := ((0 : Nat) : Int)) (nI_ti (by omega)) (fun c11 => ?_) (fun c11 => ?_)
          · skip
            exact absurd c11 (by first | decide | omega)
          · skip
            refine lv_iconst (v := nI (1)) X.1 X.2.1 dX7_match_87 (by decide) ?_
            refine lv_goto (tgt := 110) X.1 X.2.1 dX7_match_88 (by decide) ?_
            refine mr_callV X h ck_X7_93 ki_X7_fails ks_X7_fails dX7_match_110 (As := [.int (nI (1))]) (c_X7_fails l G x ar N F B 1 (by omega)) rfl hl rfl (Nat.le_of_ble_eq_true rfl) ⟨Nat.le_of_ble_eq_true rfl, Nat.le_of_ble_eq_true rfl⟩ ⟨Nat.le_of_ble_eq_true rfl, Nat.le_of_ble_eq_true rfl⟩ ?_
            rintro _ _ _ _ H locs ⟨rfl, rfl, rfl, rfl⟩ h
            refine b_bool_eq (tgt := 118) X dX7_match_113 (by decide) (fun c12 => ?_) (fun c12 => ?_)
            · skip
              exact absurd c12 (by first | decide | omega)
            · skip
              have c12 := of_decide_eq_true c12
              refine lv_iconst (v := nI (0)) X.1 X.2.1 dX7_match_116 (by decide) ?_
              exact mr_iret X hr hlocks h dX7_match_117 ⟨Nat.le_of_ble_eq_true rfl, Nat.le_of_ble_eq_true rfl⟩ (MA.bad (if_pos (by simp [iR_lt hi1 (show N 1 < 2 ^ 31 by omega), iR_lt hi2 (show N 1 < 2 ^ 31 by omega), c9])) (by decide))
        · skip
          exact absurd c10 (by first | decide | omega)
      · skip
        obtain ⟨i3, hi3, rfl⟩ := iR_t c9 (by omega)
        refine lv_iconst (v := nI (1)) X.1 X.2.1 dX7_match_23 (by decide) ?_
        refine lv_goto (tgt := 28) X.1 X.2.1 dX7_match_24 (by decide) ?_
        refine lv_istore (lv' := [(4, .int (nI (1))), (0, .ref x), (1, .int (nI (i1))), (2, .int (nI (i2))), (3, .int (nI (i3)))]) X.1 X.2.1 dX7_match_28 hl (by decide) rfl (fun ls hl => ?_)
        refine lv_iload X.1 X.2.1 dX7_match_30 (lv_at hl 0 rfl) ?_
        refine b_if_eq (tgt := 78) X dX7_match_32 (by decide) (a := ((1 : Nat) : Int)) (nI_ti (by omega)) (fun c13 => ?_) (fun c13 => ?_)
        · skip
          exact absurd c13 (by first | decide | omega)
        · skip
          refine lv_aload_n X.1 X.2.1 dX7_match_35 rfl (lv_at hl 1 rfl) ?_
          refine mr_get X h kf_X7_97 (by decide) dX7_match_36 (v := .int (nI (N 6))) rfl ?_
          refine lv_bipush (v := nI (100)) X.1 X.2.1 dX7_match_39 (by decide) ?_
          refine b_icmp_ge (tgt := 78) X dX7_match_41 (by decide) (a := ((N 6 : Nat) : Int)) (b := ((100 : Nat) : Int)) (nI_ti (by omega)) (nI_ti (by omega)) (fun c14 => ?_) (fun c14 => ?_)
          · skip
            refine lv_iconst (v := nI (0)) X.1 X.2.1 dX7_match_78 (by decide) ?_
            refine lv_istore (lv' := [(5, .int (nI (0))), (4, .int (nI (1))), (0, .ref x), (1, .int (nI (i1))), (2, .int (nI (i2))), (3, .int (nI (i3)))]) X.1 X.2.1 dX7_match_79 hl (by decide) rfl (fun ls hl => ?_)
            refine lv_aload_n X.1 X.2.1 dX7_match_81 rfl (lv_at hl 2 rfl) ?_
            refine lv_iload X.1 X.2.1 dX7_match_82 (lv_at hl 1 rfl) ?_
            refine b_if_ne (tgt := 91) X dX7_match_84 (by decide) (a := ((1 : Nat) : Int)) (nI_ti (by omega)) (fun c15 => ?_) (fun c15 => ?_)
            · skip
              refine lv_iload_n X.1 X.2.1 dX7_match_91 rfl (lv_at hl 3 rfl) ?_
              refine lv_iload_n X.1 X.2.1 dX7_match_92 rfl (lv_at hl 4 rfl) ?_
              refine b_icmp_ne (tgt := 100) X dX7_match_93 (by decide) (a := ((i1 : Nat) : Int)) (b := ((i2 : Nat) : Int)) (nI_ti (by omega)) (nI_ti (by omega)) (fun c16 => ?_) (fun c16 => ?_)
              · skip
                refine lv_iload X.1 X.2.1 dX7_match_100 (lv_at hl 0 rfl) ?_
                refine b_if_eq (tgt := 109) X dX7_match_102 (by decide) (a := ((0 : Nat) : Int)) (nI_ti (by omega)) (fun c17 => ?_) (fun c17 => ?_)
                · skip
                  refine lv_iconst (v := nI (3)) X.1 X.2.1 dX7_match_109 (by decide) ?_
                  refine mr_callV X h ck_X7_93 ki_X7_fails ks_X7_fails dX7_match_110 (As := [.int (nI (3))]) (c_X7_fails l G x ar N F B 3 (by omega)) rfl hl rfl (Nat.le_of_ble_eq_true rfl) ⟨Nat.le_of_ble_eq_true rfl, Nat.le_of_ble_eq_true rfl⟩ ⟨Nat.le_of_ble_eq_true rfl, Nat.le_of_ble_eq_true rfl⟩ ?_
                  rintro _ _ _ _ H locs ⟨rfl, rfl, rfl, rfl⟩ h
                  refine b_bool_eq (tgt := 118) X dX7_match_113 (by decide) (fun c18 => ?_) (fun c18 => ?_)
                  · skip
                    exact absurd c18 (by first | decide | omega)
                  · skip
                    have c18 := of_decide_eq_true c18
                    refine lv_iconst (v := nI (0)) X.1 X.2.1 dX7_match_116 (by decide) ?_
                    exact mr_iret X hr hlocks h dX7_match_117 ⟨Nat.le_of_ble_eq_true rfl, Nat.le_of_ble_eq_true rfl⟩ (MA.bad ((if_neg (by rw [iR_lt hi1 (by omega), iR_lt hi2 (by omega), iR_lt hi3 (by omega)]; decide)).trans ((if_neg (fun z => by have := (nI_eq (by omega) (by omega)).mp z; omega)).trans (if_neg (by rw [ix_nI (by omega), ix_nI (by omega), ix_nI (by omega)]; intro z; have := of_decide_eq_true z; omega)))) (by decide))
                · skip
                  exact absurd c17 (by first | decide | omega)
              · skip
                refine lv_iconst (v := nI (2)) X.1 X.2.1 dX7_match_96 (by decide) ?_
                refine lv_goto (tgt := 110) X.1 X.2.1 dX7_match_97 (by decide) ?_
                refine mr_callV X h ck_X7_93 ki_X7_fails ks_X7_fails dX7_match_110 (As := [.int (nI (2))]) (c_X7_fails l G x ar N F B 2 (by omega)) rfl hl rfl (Nat.le_of_ble_eq_true rfl) ⟨Nat.le_of_ble_eq_true rfl, Nat.le_of_ble_eq_true rfl⟩ ⟨Nat.le_of_ble_eq_true rfl, Nat.le_of_ble_eq_true rfl⟩ ?_
                rintro _ _ _ _ H locs ⟨rfl, rfl, rfl, rfl⟩ h
                refine b_bool_eq (tgt := 118) X dX7_match_113 (by decide) (fun c19 => ?_) (fun c19 => ?_)
                · skip
                  exact absurd c19 (by first | decide | omega)
                · skip
                  have c19 := of_decide_eq_true c19
                  refine lv_iconst (v := nI (0)) X.1 X.2.1 dX7_match_116 (by decide) ?_
                  exact mr_iret X hr hlocks h dX7_match_117 ⟨Nat.le_of_ble_eq_true rfl, Nat.le_of_ble_eq_true rfl⟩ (MA.bad ((if_neg (by rw [iR_lt hi1 (by omega), iR_lt hi2 (by omega), iR_lt hi3 (by omega)]; decide)).trans (if_pos (Int32.toInt_inj.mp (by rw [nI_ti (by omega), nI_ti (by omega)]; omega)))) (by decide))
            · skip
              exact absurd c15 (by first | decide | omega)
          · skip
            refine lv_aload_n X.1 X.2.1 dX7_match_44 rfl (lv_at hl 1 rfl) ?_
            refine lv_iload_n X.1 X.2.1 dX7_match_45 rfl (lv_at hl 2 rfl) ?_
            refine mr_callV X h ck_X7_110 ki_X7_isBanned ks_X7_isBanned dX7_match_46 (As := [.int (nI (i1))]) (c_X7_isBanned l G x ar N F B i1 hI (show i1 < N 1 by omega)) rfl hl rfl (Nat.le_of_ble_eq_true rfl) ⟨Nat.le_of_ble_eq_true rfl, Nat.le_of_ble_eq_true rfl⟩ ⟨Nat.le_of_ble_eq_true rfl, Nat.le_of_ble_eq_true rfl⟩ ?_
            rintro _ _ _ _ H locs ⟨rfl, rfl, rfl, rfl⟩ h
            have b20 := hI.p (i1)
            refine b_bool_ne (tgt := 78) X dX7_match_49 (by decide) (fun c21 => ?_) (fun c21 => ?_)
            · skip
              have c21 := of_decide_eq_true c21
              refine lv_iconst (v := nI (0)) X.1 X.2.1 dX7_match_78 (by decide) ?_
              refine lv_istore (lv' := [(5, .int (nI (0))), (4, .int (nI (1))), (0, .ref x), (1, .int (nI (i1))), (2, .int (nI (i2))), (3, .int (nI (i3)))]) X.1 X.2.1 dX7_match_79 hl (by decide) rfl (fun ls hl => ?_)
              refine lv_aload_n X.1 X.2.1 dX7_match_81 rfl (lv_at hl 2 rfl) ?_
              refine lv_iload X.1 X.2.1 dX7_match_82 (lv_at hl 1 rfl) ?_
              refine b_if_ne (tgt := 91) X dX7_match_84 (by decide) (a := ((1 : Nat) : Int)) (nI_ti (by omega)) (fun c22 => ?_) (fun c22 => ?_)
              · skip
                refine lv_iload_n X.1 X.2.1 dX7_match_91 rfl (lv_at hl 3 rfl) ?_
                refine lv_iload_n X.1 X.2.1 dX7_match_92 rfl (lv_at hl 4 rfl) ?_
                refine b_icmp_ne (tgt := 100) X dX7_match_93 (by decide) (a := ((i1 : Nat) : Int)) (b := ((i2 : Nat) : Int)) (nI_ti (by omega)) (nI_ti (by omega)) (fun c23 => ?_) (fun c23 => ?_)
                · skip
                  refine lv_iload X.1 X.2.1 dX7_match_100 (lv_at hl 0 rfl) ?_
                  refine b_if_eq (tgt := 109) X dX7_match_102 (by decide) (a := ((0 : Nat) : Int)) (nI_ti (by omega)) (fun c24 => ?_) (fun c24 => ?_)
                  · skip
                    refine lv_iconst (v := nI (3)) X.1 X.2.1 dX7_match_109 (by decide) ?_
                    refine mr_callV X h ck_X7_93 ki_X7_fails ks_X7_fails dX7_match_110 (As := [.int (nI (3))]) (c_X7_fails l G x ar N F B 3 (by omega)) rfl hl rfl (Nat.le_of_ble_eq_true rfl) ⟨Nat.le_of_ble_eq_true rfl, Nat.le_of_ble_eq_true rfl⟩ ⟨Nat.le_of_ble_eq_true rfl, Nat.le_of_ble_eq_true rfl⟩ ?_
                    rintro _ _ _ _ H locs ⟨rfl, rfl, rfl, rfl⟩ h
                    refine b_bool_eq (tgt := 118) X dX7_match_113 (by decide) (fun c25 => ?_) (fun c25 => ?_)
                    · skip
                      exact absurd c25 (by first | decide | omega)
                    · skip
                      have c25 := of_decide_eq_true c25
                      refine lv_iconst (v := nI (0)) X.1 X.2.1 dX7_match_116 (by decide) ?_
                      exact mr_iret X hr hlocks h dX7_match_117 ⟨Nat.le_of_ble_eq_true rfl, Nat.le_of_ble_eq_true rfl⟩ (MA.bad ((if_neg (by rw [iR_lt hi1 (by omega), iR_lt hi2 (by omega), iR_lt hi3 (by omega)]; decide)).trans ((if_neg (fun z => by have := (nI_eq (by omega) (by omega)).mp z; omega)).trans (if_neg (by rw [ix_nI (by omega), ix_nI (by omega), ix_nI (by omega)]; intro z; have := of_decide_eq_true z; omega)))) (by decide))
                  · skip
                    exact absurd c24 (by first | decide | omega)
                · skip
                  refine lv_iconst (v := nI (2)) X.1 X.2.1 dX7_match_96 (by decide) ?_
                  refine lv_goto (tgt := 110) X.1 X.2.1 dX7_match_97 (by decide) ?_
                  refine mr_callV X h ck_X7_93 ki_X7_fails ks_X7_fails dX7_match_110 (As := [.int (nI (2))]) (c_X7_fails l G x ar N F B 2 (by omega)) rfl hl rfl (Nat.le_of_ble_eq_true rfl) ⟨Nat.le_of_ble_eq_true rfl, Nat.le_of_ble_eq_true rfl⟩ ⟨Nat.le_of_ble_eq_true rfl, Nat.le_of_ble_eq_true rfl⟩ ?_
                  rintro _ _ _ _ H locs ⟨rfl, rfl, rfl, rfl⟩ h
                  refine b_bool_eq (tgt := 118) X dX7_match_113 (by decide) (fun c26 => ?_) (fun c26 => ?_)
                  · skip
                    exact absurd c26 (by first | decide | omega)
                  · skip
                    have c26 := of_decide_eq_true c26
                    refine lv_iconst (v := nI (0)) X.1 X.2.1 dX7_match_116 (by decide) ?_
                    exact mr_iret X hr hlocks h dX7_match_117 ⟨Nat.le_of_ble_eq_true rfl, Nat.le_of_ble_eq_true rfl⟩ (MA.bad ((if_neg (by rw [iR_lt hi1 (by omega), iR_lt hi2 (by omega), iR_lt hi3 (by omega)]; decide)).trans (if_pos (Int32.toInt_inj.mp (by rw [nI_ti (by omega), nI_ti (by omega)]; omega)))) (by decide))
              · skip
                exact absurd c22 (by first | decide | omega)
            · skip
              have c21 := of_decide_eq_false c21
              refine lv_aload_n X.1 X.2.1 dX7_match_52 rfl (lv_at hl 1 rfl) ?_
              refine lv_iload_n X.1 X.2.1 dX7_match_53 rfl (lv_at hl 3 rfl) ?_
              refine mr_callV X h ck_X7_110 ki_X7_isBanned ks_X7_isBanned dX7_match_54 (As := [.int (nI (i2))]) (c_X7_isBanned l G x ar N F B i2 hI (show i2 < N 1 by omega)) rfl hl rfl (Nat.le_of_ble_eq_true rfl) ⟨Nat.le_of_ble_eq_true rfl, Nat.le_of_ble_eq_true rfl⟩ ⟨Nat.le_of_ble_eq_true rfl, Nat.le_of_ble_eq_true rfl⟩ ?_
              rintro _ _ _ _ H locs ⟨rfl, rfl, rfl, rfl⟩ h
              have b27 := hI.p (i2)
              refine b_bool_ne (tgt := 78) X dX7_match_57 (by decide) (fun c28 => ?_) (fun c28 => ?_)
              · skip
                have c28 := of_decide_eq_true c28
                refine lv_iconst (v := nI (0)) X.1 X.2.1 dX7_match_78 (by decide) ?_
                refine lv_istore (lv' := [(5, .int (nI (0))), (4, .int (nI (1))), (0, .ref x), (1, .int (nI (i1))), (2, .int (nI (i2))), (3, .int (nI (i3)))]) X.1 X.2.1 dX7_match_79 hl (by decide) rfl (fun ls hl => ?_)
                refine lv_aload_n X.1 X.2.1 dX7_match_81 rfl (lv_at hl 2 rfl) ?_
                refine lv_iload X.1 X.2.1 dX7_match_82 (lv_at hl 1 rfl) ?_
                refine b_if_ne (tgt := 91) X dX7_match_84 (by decide) (a := ((1 : Nat) : Int)) (nI_ti (by omega)) (fun c29 => ?_) (fun c29 => ?_)
                · skip
                  refine lv_iload_n X.1 X.2.1 dX7_match_91 rfl (lv_at hl 3 rfl) ?_
                  refine lv_iload_n X.1 X.2.1 dX7_match_92 rfl (lv_at hl 4 rfl) ?_
                  refine b_icmp_ne (tgt := 100) X dX7_match_93 (by decide) (a := ((i1 : Nat) : Int)) (b := ((i2 : Nat) : Int)) (nI_ti (by omega)) (nI_ti (by omega)) (fun c30 => ?_) (fun c30 => ?_)
                  · skip
                    refine lv_iload X.1 X.2.1 dX7_match_100 (lv_at hl 0 rfl) ?_
                    refine b_if_eq (tgt := 109) X dX7_match_102 (by decide) (a := ((0 : Nat) : Int)) (nI_ti (by omega)) (fun c31 => ?_) (fun c31 => ?_)
                    · skip
                      refine lv_iconst (v := nI (3)) X.1 X.2.1 dX7_match_109 (by decide) ?_
                      refine mr_callV X h ck_X7_93 ki_X7_fails ks_X7_fails dX7_match_110 (As := [.int (nI (3))]) (c_X7_fails l G x ar N F B 3 (by omega)) rfl hl rfl (Nat.le_of_ble_eq_true rfl) ⟨Nat.le_of_ble_eq_true rfl, Nat.le_of_ble_eq_true rfl⟩ ⟨Nat.le_of_ble_eq_true rfl, Nat.le_of_ble_eq_true rfl⟩ ?_
                      rintro _ _ _ _ H locs ⟨rfl, rfl, rfl, rfl⟩ h
                      refine b_bool_eq (tgt := 118) X dX7_match_113 (by decide) (fun c32 => ?_) (fun c32 => ?_)
                      · skip
                        exact absurd c32 (by first | decide | omega)
                      · skip
                        have c32 := of_decide_eq_true c32
                        refine lv_iconst (v := nI (0)) X.1 X.2.1 dX7_match_116 (by decide) ?_
                        exact mr_iret X hr hlocks h dX7_match_117 ⟨Nat.le_of_ble_eq_true rfl, Nat.le_of_ble_eq_true rfl⟩ (MA.bad ((if_neg (by rw [iR_lt hi1 (by omega), iR_lt hi2 (by omega), iR_lt hi3 (by omega)]; decide)).trans ((if_neg (fun z => by have := (nI_eq (by omega) (by omega)).mp z; omega)).trans (if_neg (by rw [ix_nI (by omega), ix_nI (by omega), ix_nI (by omega)]; intro z; have := of_decide_eq_true z; omega)))) (by decide))
                    · skip
                      exact absurd c31 (by first | decide | omega)
                  · skip
                    refine lv_iconst (v := nI (2)) X.1 X.2.1 dX7_match_96 (by decide) ?_
                    refine lv_goto (tgt := 110) X.1 X.2.1 dX7_match_97 (by decide) ?_
                    refine mr_callV X h ck_X7_93 ki_X7_fails ks_X7_fails dX7_match_110 (As := [.int (nI (2))]) (c_X7_fails l G x ar N F B 2 (by omega)) rfl hl rfl (Nat.le_of_ble_eq_true rfl) ⟨Nat.le_of_ble_eq_true rfl, Nat.le_of_ble_eq_true rfl⟩ ⟨Nat.le_of_ble_eq_true rfl, Nat.le_of_ble_eq_true rfl⟩ ?_
                    rintro _ _ _ _ H locs ⟨rfl, rfl, rfl, rfl⟩ h
                    refine b_bool_eq (tgt := 118) X dX7_match_113 (by decide) (fun c33 => ?_) (fun c33 => ?_)
                    · skip
                      exact absurd c33 (by first | decide | omega)
                    · skip
                      have c33 := of_decide_eq_true c33
                      refine lv_iconst (v := nI (0)) X.1 X.2.1 dX7_match_116 (by decide) ?_
                      exact mr_iret X hr hlocks h dX7_match_117 ⟨Nat.le_of_ble_eq_true rfl, Nat.le_of_ble_eq_true rfl⟩ (MA.bad ((if_neg (by rw [iR_lt hi1 (by omega), iR_lt hi2 (by omega), iR_lt hi3 (by omega)]; decide)).trans (if_pos (Int32.toInt_inj.mp (by rw [nI_ti (by omega), nI_ti (by omega)]; omega)))) (by decide))
                · skip
                  exact absurd c29 (by first | decide | omega)
              · skip
                have c28 := of_decide_eq_false c28
                refine lv_aload_n X.1 X.2.1 dX7_match_60 rfl (lv_at hl 1 rfl) ?_
                refine lv_iload_n X.1 X.2.1 dX7_match_61 rfl (lv_at hl 4 rfl) ?_
                refine mr_callV X h ck_X7_103 ki_X7_today ks_X7_today dX7_match_62 (As := [.int (nI (i3))]) (c_X7_today l G x ar N F B i3 hI (by omega)) rfl hl rfl (Nat.le_of_ble_eq_true rfl) ⟨Nat.le_of_ble_eq_true rfl, Nat.le_of_ble_eq_true rfl⟩ ⟨Nat.le_of_ble_eq_true rfl, Nat.le_of_ble_eq_true rfl⟩ ?_
                rintro _ _ _ _ H locs ⟨rfl, rfl, rfl, rfl⟩ h
                have b34 := tdy_le F (N 0) (i3) (N 6)
                refine lv_aload_n X.1 X.2.1 dX7_match_65 rfl (lv_at hl 1 rfl) ?_
                refine mr_get X h kf_X7_19 (by decide) dX7_match_66 rfl ?_
                refine lv_iload_n X.1 X.2.1 dX7_match_69 rfl (lv_at hl 4 rfl) ?_
                refine mr_ald X h 5 rfl dX7_match_70 (i := i3) (v := nI (F 5 (i3))) rfl (by show _ < 4; omega) rfl ?_
                have b35 := hI.r i3
                refine b_icmp_ge (tgt := 78) X dX7_match_71 (by decide) (a := ((tdy F (N 0) (i3) (N 6) : Nat) : Int)) (b := ((F 5 (i3) : Nat) : Int)) (nI_ti (by omega)) (nI_ti (by omega)) (fun c36 => ?_) (fun c36 => ?_)
                · skip
                  refine lv_iconst (v := nI (0)) X.1 X.2.1 dX7_match_78 (by decide) ?_
                  refine lv_istore (lv' := [(5, .int (nI (0))), (4, .int (nI (1))), (0, .ref x), (1, .int (nI (i1))), (2, .int (nI (i2))), (3, .int (nI (i3)))]) X.1 X.2.1 dX7_match_79 hl (by decide) rfl (fun ls hl => ?_)
                  refine lv_aload_n X.1 X.2.1 dX7_match_81 rfl (lv_at hl 2 rfl) ?_
                  refine lv_iload X.1 X.2.1 dX7_match_82 (lv_at hl 1 rfl) ?_
                  refine b_if_ne (tgt := 91) X dX7_match_84 (by decide) (a := ((1 : Nat) : Int)) (nI_ti (by omega)) (fun c37 => ?_) (fun c37 => ?_)
                  · skip
                    refine lv_iload_n X.1 X.2.1 dX7_match_91 rfl (lv_at hl 3 rfl) ?_
                    refine lv_iload_n X.1 X.2.1 dX7_match_92 rfl (lv_at hl 4 rfl) ?_
                    refine b_icmp_ne (tgt := 100) X dX7_match_93 (by decide) (a := ((i1 : Nat) : Int)) (b := ((i2 : Nat) : Int)) (nI_ti (by omega)) (nI_ti (by omega)) (fun c38 => ?_) (fun c38 => ?_)
                    · skip
                      refine lv_iload X.1 X.2.1 dX7_match_100 (lv_at hl 0 rfl) ?_
                      refine b_if_eq (tgt := 109) X dX7_match_102 (by decide) (a := ((0 : Nat) : Int)) (nI_ti (by omega)) (fun c39 => ?_) (fun c39 => ?_)
                      · skip
                        refine lv_iconst (v := nI (3)) X.1 X.2.1 dX7_match_109 (by decide) ?_
                        refine mr_callV X h ck_X7_93 ki_X7_fails ks_X7_fails dX7_match_110 (As := [.int (nI (3))]) (c_X7_fails l G x ar N F B 3 (by omega)) rfl hl rfl (Nat.le_of_ble_eq_true rfl) ⟨Nat.le_of_ble_eq_true rfl, Nat.le_of_ble_eq_true rfl⟩ ⟨Nat.le_of_ble_eq_true rfl, Nat.le_of_ble_eq_true rfl⟩ ?_
                        rintro _ _ _ _ H locs ⟨rfl, rfl, rfl, rfl⟩ h
                        refine b_bool_eq (tgt := 118) X dX7_match_113 (by decide) (fun c40 => ?_) (fun c40 => ?_)
                        · skip
                          exact absurd c40 (by first | decide | omega)
                        · skip
                          have c40 := of_decide_eq_true c40
                          refine lv_iconst (v := nI (0)) X.1 X.2.1 dX7_match_116 (by decide) ?_
                          exact mr_iret X hr hlocks h dX7_match_117 ⟨Nat.le_of_ble_eq_true rfl, Nat.le_of_ble_eq_true rfl⟩ (MA.bad ((if_neg (by rw [iR_lt hi1 (by omega), iR_lt hi2 (by omega), iR_lt hi3 (by omega)]; decide)).trans ((if_neg (fun z => by have := (nI_eq (by omega) (by omega)).mp z; omega)).trans (if_neg (by rw [ix_nI (by omega), ix_nI (by omega), ix_nI (by omega)]; intro z; have := of_decide_eq_true z; omega)))) (by decide))
                      · skip
                        exact absurd c39 (by first | decide | omega)
                    · skip
                      refine lv_iconst (v := nI (2)) X.1 X.2.1 dX7_match_96 (by decide) ?_
                      refine lv_goto (tgt := 110) X.1 X.2.1 dX7_match_97 (by decide) ?_
                      refine mr_callV X h ck_X7_93 ki_X7_fails ks_X7_fails dX7_match_110 (As := [.int (nI (2))]) (c_X7_fails l G x ar N F B 2 (by omega)) rfl hl rfl (Nat.le_of_ble_eq_true rfl) ⟨Nat.le_of_ble_eq_true rfl, Nat.le_of_ble_eq_true rfl⟩ ⟨Nat.le_of_ble_eq_true rfl, Nat.le_of_ble_eq_true rfl⟩ ?_
                      rintro _ _ _ _ H locs ⟨rfl, rfl, rfl, rfl⟩ h
                      refine b_bool_eq (tgt := 118) X dX7_match_113 (by decide) (fun c41 => ?_) (fun c41 => ?_)
                      · skip
                        exact absurd c41 (by first | decide | omega)
                      · skip
                        have c41 := of_decide_eq_true c41
                        refine lv_iconst (v := nI (0)) X.1 X.2.1 dX7_match_116 (by decide) ?_
                        exact mr_iret X hr hlocks h dX7_match_117 ⟨Nat.le_of_ble_eq_true rfl, Nat.le_of_ble_eq_true rfl⟩ (MA.bad ((if_neg (by rw [iR_lt hi1 (by omega), iR_lt hi2 (by omega), iR_lt hi3 (by omega)]; decide)).trans (if_pos (Int32.toInt_inj.mp (by rw [nI_ti (by omega), nI_ti (by omega)]; omega)))) (by decide))
                  · skip
                    exact absurd c37 (by first | decide | omega)
                · skip
                  refine lv_iconst (v := nI (1)) X.1 X.2.1 dX7_match_74 (by decide) ?_
                  refine lv_goto (tgt := 79) X.1 X.2.1 dX7_match_75 (by decide) ?_
                  refine lv_istore (lv' := [(5, .int (nI (1))), (4, .int (nI (1))), (0, .ref x), (1, .int (nI (i1))), (2, .int (nI (i2))), (3, .int (nI (i3)))]) X.1 X.2.1 dX7_match_79 hl (by decide) rfl (fun ls hl => ?_)
                  refine lv_aload_n X.1 X.2.1 dX7_match_81 rfl (lv_at hl 2 rfl) ?_
                  refine lv_iload X.1 X.2.1 dX7_match_82 (lv_at hl 1 rfl) ?_
                  refine b_if_ne (tgt := 91) X dX7_match_84 (by decide) (a := ((1 : Nat) : Int)) (nI_ti (by omega)) (fun c42 => ?_) (fun c42 => ?_)
                  · skip
                    refine lv_iload_n X.1 X.2.1 dX7_match_91 rfl (lv_at hl 3 rfl) ?_
                    refine lv_iload_n X.1 X.2.1 dX7_match_92 rfl (lv_at hl 4 rfl) ?_
                    refine b_icmp_ne (tgt := 100) X dX7_match_93 (by decide) (a := ((i1 : Nat) : Int)) (b := ((i2 : Nat) : Int)) (nI_ti (by omega)) (nI_ti (by omega)) (fun c43 => ?_) (fun c43 => ?_)
                    · skip
                      refine lv_iload X.1 X.2.1 dX7_match_100 (lv_at hl 0 rfl) ?_
                      refine b_if_eq (tgt := 109) X dX7_match_102 (by decide) (a := ((1 : Nat) : Int)) (nI_ti (by omega)) (fun c44 => ?_) (fun c44 => ?_)
                      · skip
                        exact absurd c44 (by first | decide | omega)
                      · skip
                        refine lv_iconst (v := nI (0)) X.1 X.2.1 dX7_match_105 (by decide) ?_
                        refine lv_goto (tgt := 110) X.1 X.2.1 dX7_match_106 (by decide) ?_
                        refine mr_callV X h ck_X7_93 ki_X7_fails ks_X7_fails dX7_match_110 (As := [.int (nI (0))]) (c_X7_fails l G x ar N F B 0 (by omega)) rfl hl rfl (Nat.le_of_ble_eq_true rfl) ⟨Nat.le_of_ble_eq_true rfl, Nat.le_of_ble_eq_true rfl⟩ ⟨Nat.le_of_ble_eq_true rfl, Nat.le_of_ble_eq_true rfl⟩ ?_
                        rintro _ _ _ _ H locs ⟨rfl, rfl, rfl, rfl⟩ h
                        refine b_bool_eq (tgt := 118) X dX7_match_113 (by decide) (fun c45 => ?_) (fun c45 => ?_)
                        · skip
                          have c45 := of_decide_eq_false c45
                          refine lv_aload_n X.1 X.2.1 dX7_match_118 rfl (lv_at hl 2 rfl) ?_
                          refine mr_get X h kf_X7_22 (by decide) dX7_match_119 rfl ?_
                          refine lv_aload_n X.1 X.2.1 dX7_match_122 rfl (lv_at hl 2 rfl) ?_
                          refine mr_get X h kf_X7_97 (by decide) dX7_match_123 (v := .int (nI (N 6))) rfl ?_
                          refine lv_iload_n X.1 X.2.1 dX7_match_126 rfl (lv_at hl 3 rfl) ?_
                          refine mr_ast X h 7 rfl (by decide) dX7_match_127 (i := N 6) (v := i1) rfl (by show _ < 100; omega) rfl (fun H locs h => ?_)
                          refine lv_aload_n X.1 X.2.1 dX7_match_128 rfl (lv_at hl 2 rfl) ?_
                          refine mr_get X h kf_X7_25 (by decide) dX7_match_129 rfl ?_
                          refine lv_aload_n X.1 X.2.1 dX7_match_132 rfl (lv_at hl 2 rfl) ?_
                          refine mr_get X h kf_X7_97 (by decide) dX7_match_133 (v := .int (nI (N 6))) rfl ?_
                          refine lv_iload_n X.1 X.2.1 dX7_match_136 rfl (lv_at hl 4 rfl) ?_
                          refine mr_ast X h 8 rfl (by decide) dX7_match_137 (i := N 6) (v := i2) rfl (by show _ < 100; omega) rfl (fun H locs h => ?_)
                          refine lv_aload_n X.1 X.2.1 dX7_match_138 rfl (lv_at hl 2 rfl) ?_
                          refine mr_get X h kf_X7_28 (by decide) dX7_match_139 rfl ?_
                          refine lv_aload_n X.1 X.2.1 dX7_match_142 rfl (lv_at hl 2 rfl) ?_
                          refine mr_get X h kf_X7_97 (by decide) dX7_match_143 (v := .int (nI (N 6))) rfl ?_
                          refine lv_iload_n X.1 X.2.1 dX7_match_146 rfl (lv_at hl 5 rfl) ?_
                          refine mr_ast X h 9 rfl (by decide) dX7_match_147 (i := N 6) (v := i3) rfl (by show _ < 100; omega) rfl (fun H locs h => ?_)
                          refine lv_aload_n X.1 X.2.1 dX7_match_148 rfl (lv_at hl 2 rfl) ?_
                          refine mr_get X h kf_X7_31 (by decide) dX7_match_149 rfl ?_
                          refine lv_aload_n X.1 X.2.1 dX7_match_152 rfl (lv_at hl 2 rfl) ?_
                          refine mr_get X h kf_X7_97 (by decide) dX7_match_153 (v := .int (nI (N 6))) rfl ?_
                          refine lv_aload_n X.1 X.2.1 dX7_match_156 rfl (lv_at hl 2 rfl) ?_
                          refine mr_get X h kf_X7_90 (by decide) dX7_match_157 (v := .int (nI (N 0))) rfl ?_
                          refine mr_ast X h 10 rfl (by decide) dX7_match_160 (i := N 6) (v := N 0) rfl (by show _ < 100; omega) rfl (fun H locs h => ?_)
                          refine lv_aload_n X.1 X.2.1 dX7_match_161 rfl (lv_at hl 2 rfl) ?_
                          refine mr_get X h kf_X7_34 (by decide) dX7_match_162 rfl ?_
                          refine lv_aload_n X.1 X.2.1 dX7_match_165 rfl (lv_at hl 2 rfl) ?_
                          refine mr_get X h kf_X7_97 (by decide) dX7_match_166 (v := .int (nI (N 6))) rfl ?_
                          refine lv_aload_n X.1 X.2.1 dX7_match_169 rfl (lv_at hl 2 rfl) ?_
                          refine mr_get X h kf_X7_113 (by decide) dX7_match_170 (v := .int (nI (N 12))) rfl ?_
                          refine mr_ast X h 11 rfl (by decide) dX7_match_173 (i := N 6) (v := N 12) rfl (by show _ < 100; omega) rfl (fun H locs h => ?_)
                          refine lv_aload_n X.1 X.2.1 dX7_match_174 rfl (lv_at hl 2 rfl) ?_
                          refine lv_dup X.1 X.2.1 dX7_match_175 rfl ?_
                          refine mr_get X h kf_X7_97 (by decide) dX7_match_176 (v := .int (nI (N 6))) rfl ?_
                          refine lv_iconst (v := nI (1)) X.1 X.2.1 dX7_match_179 (by decide) ?_
                          refine lv_iadd X.1 X.2.1 dX7_match_180 ?_
                          refine lv_top (y := nI (N 6 + 1)) (nI_add _ _) ?_
                          refine mr_put X h kf_X7_97 (by decide) rfl rfl dX7_match_181 rfl (fun H locs h => ?_)
                          refine lv_aload_n X.1 X.2.1 dX7_match_184 rfl (lv_at hl 2 rfl) ?_
                          refine mr_get X h kf_X7_97 (by decide) dX7_match_185 (v := .int (nI ((N 6 + 1)))) rfl ?_
                          refine lv_iconst (v := nI (1)) X.1 X.2.1 dX7_match_188 (by decide) ?_
                          refine lv_isub X.1 X.2.1 dX7_match_189 ?_
                          refine lv_top (y := nI ((N 6 + 1)) - 1) rfl ?_
                          exact mr_iret X hr hlocks h dX7_match_190 ⟨Nat.le_of_ble_eq_true rfl, Nat.le_of_ble_eq_true rfl⟩ (MA.ok ((if_neg (by rw [iR_lt hi1 (by omega), iR_lt hi2 (by omega), iR_lt hi3 (by omega)]; decide)).trans ((if_neg (fun z => by have := (nI_eq (by omega) (by omega)).mp z; omega)).trans (if_pos (by rw [ix_nI (by omega), ix_nI (by omega), ix_nI (by omega)]; exact decide_eq_true (by omega))))) (nI_pred _) rfl (fun k h1 h2 => by simp [va_up, h1, h2]) (by rw [fMatch, ix_nI (by omega), ix_nI (by omega), ix_nI (by omega)]; exact SF.rf _) rfl)
                        · skip
                          exact absurd c45 (by first | decide | omega)
                    · skip
                      refine lv_iconst (v := nI (2)) X.1 X.2.1 dX7_match_96 (by decide) ?_
                      refine lv_goto (tgt := 110) X.1 X.2.1 dX7_match_97 (by decide) ?_
                      refine mr_callV X h ck_X7_93 ki_X7_fails ks_X7_fails dX7_match_110 (As := [.int (nI (2))]) (c_X7_fails l G x ar N F B 2 (by omega)) rfl hl rfl (Nat.le_of_ble_eq_true rfl) ⟨Nat.le_of_ble_eq_true rfl, Nat.le_of_ble_eq_true rfl⟩ ⟨Nat.le_of_ble_eq_true rfl, Nat.le_of_ble_eq_true rfl⟩ ?_
                      rintro _ _ _ _ H locs ⟨rfl, rfl, rfl, rfl⟩ h
                      refine b_bool_eq (tgt := 118) X dX7_match_113 (by decide) (fun c46 => ?_) (fun c46 => ?_)
                      · skip
                        exact absurd c46 (by first | decide | omega)
                      · skip
                        have c46 := of_decide_eq_true c46
                        refine lv_iconst (v := nI (0)) X.1 X.2.1 dX7_match_116 (by decide) ?_
                        exact mr_iret X hr hlocks h dX7_match_117 ⟨Nat.le_of_ble_eq_true rfl, Nat.le_of_ble_eq_true rfl⟩ (MA.bad ((if_neg (by rw [iR_lt hi1 (by omega), iR_lt hi2 (by omega), iR_lt hi3 (by omega)]; decide)).trans (if_pos (Int32.toInt_inj.mp (by rw [nI_ti (by omega), nI_ti (by omega)]; omega)))) (by decide))
                  · skip
                    exact absurd c42 (by first | decide | omega)
