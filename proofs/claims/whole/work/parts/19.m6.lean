set_option maxHeartbeats 4000000 in
set_option maxRecDepth 100000 in
theorem c_X7_end (l : Launch) (G : mG) (x : Nat) (ar N : Nat → Nat) (F : Nat → Nat → Nat) (B : Nat → Int32)  (hI : Iv N F) : MMet l yX7_end cX7_end 4 (some FieldType.int) ({ frames := 3, cells := 0, slots := 0, locals := 68 } : Room) G x ar [.ref x] N F B (fun r N' F' B' => MA r N' F' B' (kEnd N) (nI (awS N F 3).1) (nEnd N F) ((awS N F 3).2) (B) N F B) := by
  refine MMet.of (by decide) (Nat.le_of_ble_eq_true rfl) ?_
  intro p e s m args below meth c A ls X hr hlocks h hl
  have hl : lv_has ls 4 [(0, .ref x)] := hl
  have hn := hI.n
  refine lv_aload_n X.1 X.2.1 dX7_end_0 rfl (lv_at hl 0 rfl) ?_
  refine lv_aload_n X.1 X.2.1 dX7_end_1 rfl (lv_at hl 0 rfl) ?_
  refine mr_get X h kf_X7_113 (by decide) dX7_end_2 (v := .int (nI (N 12))) rfl ?_
  refine lv_bipush (v := nI (11)) X.1 X.2.1 dX7_end_5 (by decide) ?_
  refine b_icmp_ne (tgt := 14) X dX7_end_7 (by decide) (a := ((N 12 : Nat) : Int)) (b := ((11 : Nat) : Int)) (nI_ti (by omega)) (nI_ti (by omega)) (fun c1 => ?_) (fun c1 => ?_)
  · skip
    refine lv_iconst (v := nI (0)) X.1 X.2.1 dX7_end_14 (by decide) ?_
    refine mr_callV X h ck_X7_93 ki_X7_fails ks_X7_fails dX7_end_15 (As := [.int (nI (0))]) (c_X7_fails l G x ar N F B 0 (by omega)) rfl hl rfl (Nat.le_of_ble_eq_true rfl) ⟨Nat.le_of_ble_eq_true rfl, Nat.le_of_ble_eq_true rfl⟩ ⟨Nat.le_of_ble_eq_true rfl, Nat.le_of_ble_eq_true rfl⟩ ?_
    rintro _ _ _ _ H locs ⟨rfl, rfl, rfl, rfl⟩ h
    refine b_bool_eq (tgt := 23) X dX7_end_18 (by decide) (fun c2 => ?_) (fun c2 => ?_)
    · skip
      have c2 := of_decide_eq_false c2
      refine lv_aload_n X.1 X.2.1 dX7_end_23 rfl (lv_at hl 0 rfl) ?_
      refine lv_aload_n X.1 X.2.1 dX7_end_24 rfl (lv_at hl 0 rfl) ?_
      refine mr_get X h kf_X7_113 (by decide) dX7_end_25 (v := .int (nI (N 12))) rfl ?_
      refine mr_callV X h ck_X7_126 ki_X7_counts ks_X7_counts dX7_end_28 (As := [.int (nI (N 12))]) (c_X7_counts l G x ar (va_up N 29 (0)) F B (N 12) hI (by omega)) rfl hl rfl (Nat.le_of_ble_eq_true rfl) ⟨Nat.le_of_ble_eq_true rfl, Nat.le_of_ble_eq_true rfl⟩ ⟨Nat.le_of_ble_eq_true rfl, Nat.le_of_ble_eq_true rfl⟩ ?_
      rintro _ _ _ _ H locs ⟨rfl, rfl, rfl, g, q, rfl, hg⟩ h
      have hb : ∀ z, z < N 1 → g z ≤ 400 ∧ q z ≤ 400 := fun z hz => by have := cnt_b hg (show N 6 ≤ 100 by omega) hz; omega
      refine lv_iconst (v := nI (0)) X.1 X.2.1 dX7_end_31 (by decide) ?_
      refine lv_istore_n (lv' := [(1, .int (nI (0))), (0, .ref x)]) X.1 X.2.1 dX7_end_32 rfl hl (by decide) rfl (fun ls hl => ?_)
      refine lv_iconst (v := nI (1)) X.1 X.2.1 dX7_end_33 (by decide) ?_
      refine lv_istore_n (lv' := [(2, .int (nI (1))), (1, .int (nI (0))), (0, .ref x)]) X.1 X.2.1 dX7_end_34 rfl hl (by decide) rfl (fun ls hl => ?_)
      have loop : ∀ (n9 : Nat) (j : Nat) (n0 : Nat) (N1 : Nat → Nat) (F1 : Nat → Nat → Nat), (j ≤ 3) → (4 ≤ j + n9) → (n0 ≤ j) → (NE N N1 n0) → ((awS N F j).1 = n0) → (SF (awS N F j).2 F1) → ∀ (H : Heap) (locs : List Loc) (ls : Array Slot), mM G A s.heap x ar N1 (sc2 F1 g q) B H locs → lv_has ls 4 [(0, .ref x), (1, .int (nI (n0))), (2, .int (nI (j + 1)))] → W p l e ({ frames := 3, cells := 0, slots := 0, locals := 68 } : Room) s m args below meth c H locs 0 0 (MZ G A x ar (fun r N' F' B' => MA r N' F' B' (kEnd N) (nI (awS N F 3).1) (nEnd N F) ((awS N F 3).2) (B) N F B) below args s 0 0) (F0 m 35 ls []) := by
        intro n9
        induction n9 with
        | zero => intro j n0 N1 F1 hj hm9 hnj hE hA1 hA2; exact absurd hm9 (by omega)
        | succ n9 ih_loop =>
          intro j n0 N1 F1 hj hm9 hnj hE hA1 hA2 H locs ls h hl
          have hE2 := hE.eqs
          refine lv_iload_n X.1 X.2.1 dX7_end_35 rfl (lv_at hl 2 rfl) ?_
          refine lv_iconst (v := nI (3)) X.1 X.2.1 dX7_end_36 (by decide) ?_
          refine b_icmp_gt (tgt := 143) X dX7_end_37 (by decide) (a := ((j + 1 : Nat) : Int)) (b := ((3 : Nat) : Int)) (nI_ti (by omega)) (nI_ti (by omega)) (fun c3 => ?_) (fun c3 => ?_)
          · skip
            refine lv_aload_n X.1 X.2.1 dX7_end_143 rfl (lv_at hl 0 rfl) ?_
            refine lv_dup X.1 X.2.1 dX7_end_144 rfl ?_
            refine mr_get X h kf_X7_113 (by decide) dX7_end_145 (v := .int (nI (N1 12))) rfl ?_
            refine lv_iconst (v := nI (1)) X.1 X.2.1 dX7_end_148 (by decide) ?_
            refine lv_iadd X.1 X.2.1 dX7_end_149 ?_
            refine lv_top (y := nI (N1 12 + 1)) (nI_add _ _) ?_
            refine mr_put X h kf_X7_113 (by decide) rfl rfl dX7_end_150 rfl (fun H locs h => ?_)
            refine lv_iload_n X.1 X.2.1 dX7_end_153 rfl (lv_at hl 1 rfl) ?_
            exact mr_iret X hr hlocks h dX7_end_154 ⟨Nat.le_of_ble_eq_true rfl, Nat.le_of_ble_eq_true rfl⟩ (MA.ok (if_neg (by omega)) (by obtain rfl : j = 3 := (by omega); rw [hA1]) hE.2.2 (hE.nd (by obtain rfl : j = 3 := (by omega); exact hA1)) (by obtain rfl : j = 3 := (by omega); exact hA2.sc g q) rfl)
          · skip
            refine lv_aload_n X.1 X.2.1 dX7_end_40 rfl (lv_at hl 0 rfl) ?_
            refine lv_iload_n X.1 X.2.1 dX7_end_41 rfl (lv_at hl 2 rfl) ?_
            refine mr_callV X h ck_X7_130 ki_X7_who ks_X7_who dX7_end_42 (As := [.int (nI (j + 1))]) (c_X7_who l G x ar N1 F1 B (j + 1) g q (show N1 1 ≤ 16 by omega) (fun z hz => by first | exact hb z hz | exact hb z (by omega)) (by omega)) rfl hl rfl (Nat.le_of_ble_eq_true rfl) ⟨Nat.le_of_ble_eq_true rfl, Nat.le_of_ble_eq_true rfl⟩ ⟨Nat.le_of_ble_eq_true rfl, Nat.le_of_ble_eq_true rfl⟩ ?_
            rintro _ _ _ _ H locs ⟨rfl, rfl, rfl, rfl⟩ h
            have b4 : who g q (N1 1) (j + 1) ≤ N1 1 := whoN_le _ _ _ _ _
            refine lv_istore_n (lv' := [(3, .int (nI (who g q (N1 1) (j + 1)) - 1)), (0, .ref x), (1, .int (nI (n0))), (2, .int (nI (j + 1)))]) X.1 X.2.1 dX7_end_45 rfl hl (by decide) rfl (fun ls hl => ?_)
            refine lv_iload_n X.1 X.2.1 dX7_end_46 rfl (lv_at hl 0 rfl) ?_
            refine lv_iconst (v := nI (0) - 1) X.1 X.2.1 dX7_end_47 (by decide) ?_
            refine b_icmp_eq (tgt := 137) X dX7_end_48 (by decide) (a := ((who g q (N1 1) (j + 1) : Nat) : Int) - 1) (b := ((0 : Nat) : Int) - 1) (eI_ti (by omega)) (eI_ti (by omega)) (fun c5 => ?_) (fun c5 => ?_)
            · skip
              refine lv_iinc (v := nI (j + 1 + 1)) (lv' := [(2, .int (nI (j + 1 + 1))), (3, .int (nI (who g q (N1 1) (j + 1)) - 1)), (0, .ref x), (1, .int (nI (n0)))]) X.1 X.2.1 dX7_end_137 hl (k := 3) rfl (nI_add (j + 1) 1) (by decide) rfl (fun ls hl => ?_)
              refine lv_goto (tgt := 35) X.1 X.2.1 dX7_end_140 (by decide) ?_
              have hhe : who g q (N1 1) (j + 1) = heirS N F (N 12) (j + 1) := (show who g q (N1 1) (j + 1) = heirS N F (N 12) (j + 1) by rw [hE.eqs.2.1]; exact who_heir (F := F) hg)
              have haf := aw_f hA1 hA2 (show heirS N F (N 12) (j + 1) = 0 by omega)
              exact ih_loop (j + 1) (n0) N1 (F1) (by omega) (by omega) (by omega) hE haf.1 haf.2 _ _ _ h (lv_sub hl [2, 3, 0] rfl)
            · skip
              refine lv_aload_n X.1 X.2.1 dX7_end_51 rfl (lv_at hl 1 rfl) ?_
              refine mr_get X h kf_X7_37 (by decide) dX7_end_52 rfl ?_
              refine lv_aload_n X.1 X.2.1 dX7_end_55 rfl (lv_at hl 1 rfl) ?_
              refine mr_get X h kf_X7_133 (by decide) dX7_end_56 (v := .int (nI (N1 13))) rfl ?_
              refine lv_aload_n X.1 X.2.1 dX7_end_59 rfl (lv_at hl 1 rfl) ?_
              refine mr_get X h kf_X7_113 (by decide) dX7_end_60 (v := .int (nI (N1 12))) rfl ?_
              refine mr_ast X h 14 rfl (by decide) dX7_end_63 (i := N1 13) (v := N1 12) rfl (by show _ < 36; omega) rfl (fun H locs h => ?_)
              rw [sc2_14] at h
              refine lv_aload_n X.1 X.2.1 dX7_end_64 rfl (lv_at hl 1 rfl) ?_
              refine mr_get X h kf_X7_40 (by decide) dX7_end_65 rfl ?_
              refine lv_aload_n X.1 X.2.1 dX7_end_68 rfl (lv_at hl 1 rfl) ?_
              refine mr_get X h kf_X7_133 (by decide) dX7_end_69 (v := .int (nI (N1 13))) rfl ?_
              refine lv_iload_n X.1 X.2.1 dX7_end_72 rfl (lv_at hl 3 rfl) ?_
              refine mr_ast X h 15 rfl (by decide) dX7_end_73 (i := N1 13) (v := j + 1) rfl (by show _ < 36; omega) rfl (fun H locs h => ?_)
              rw [sc2_15] at h
              refine lv_aload_n X.1 X.2.1 dX7_end_74 rfl (lv_at hl 1 rfl) ?_
              refine mr_get X h kf_X7_43 (by decide) dX7_end_75 rfl ?_
              refine lv_aload_n X.1 X.2.1 dX7_end_78 rfl (lv_at hl 1 rfl) ?_
              refine mr_get X h kf_X7_133 (by decide) dX7_end_79 (v := .int (nI (N1 13))) rfl ?_
              refine lv_iload_n X.1 X.2.1 dX7_end_82 rfl (lv_at hl 0 rfl) ?_
              refine mr_ast X h 16 rfl (by decide) dX7_end_83 (i := N1 13) (v := who g q (N1 1) (j + 1)) rfl (by show _ < 36; omega) rfl (fun H locs h => ?_)
              rw [sc2_16] at h
              refine lv_aload_n X.1 X.2.1 dX7_end_84 rfl (lv_at hl 1 rfl) ?_
              refine mr_get X h kf_X7_46 (by decide) dX7_end_85 rfl ?_
              refine lv_aload_n X.1 X.2.1 dX7_end_88 rfl (lv_at hl 1 rfl) ?_
              refine mr_get X h kf_X7_133 (by decide) dX7_end_89 (v := .int (nI (N1 13))) rfl ?_
              refine lv_iload_n X.1 X.2.1 dX7_end_92 rfl (lv_at hl 0 rfl) ?_
              refine mr_ast X h 17 rfl (by decide) dX7_end_93 (i := N1 13) (v := who g q (N1 1) (j + 1)) rfl (by show _ < 36; omega) rfl (fun H locs h => ?_)
              rw [sc2_17] at h
              refine lv_aload_n X.1 X.2.1 dX7_end_94 rfl (lv_at hl 1 rfl) ?_
              refine mr_get X h kf_X7_49 (by decide) dX7_end_95 rfl ?_
              refine lv_aload_n X.1 X.2.1 dX7_end_98 rfl (lv_at hl 1 rfl) ?_
              refine mr_get X h kf_X7_133 (by decide) dX7_end_99 (v := .int (nI (N1 13))) rfl ?_
              refine lv_iconst (v := nI (0) - 1) X.1 X.2.1 dX7_end_102 (by decide) ?_
              refine mr_ast X h 18 rfl (by decide) dX7_end_103 (i := N1 13) (v := 0) rfl (by show _ < 36; omega) rfl (fun H locs h => ?_)
              rw [sc2_18] at h
              refine lv_aload_n X.1 X.2.1 dX7_end_104 rfl (lv_at hl 1 rfl) ?_
              refine mr_get X h kf_X7_55 (by decide) dX7_end_105 rfl ?_
              refine lv_aload_n X.1 X.2.1 dX7_end_108 rfl (lv_at hl 1 rfl) ?_
              refine mr_get X h kf_X7_133 (by decide) dX7_end_109 (v := .int (nI (N1 13))) rfl ?_
              refine lv_iconst (v := nI (0) - 1) X.1 X.2.1 dX7_end_112 (by decide) ?_
              refine mr_ast X h 20 rfl (by decide) dX7_end_113 (i := N1 13) (v := 0) rfl (by show _ < 36; omega) rfl (fun H locs h => ?_)
              rw [sc2_20] at h
              refine lv_aload_n X.1 X.2.1 dX7_end_114 rfl (lv_at hl 1 rfl) ?_
              refine mr_get X h kf_X7_58 (by decide) dX7_end_115 rfl ?_
              refine lv_aload_n X.1 X.2.1 dX7_end_118 rfl (lv_at hl 1 rfl) ?_
              refine mr_get X h kf_X7_133 (by decide) dX7_end_119 (v := .int (nI (N1 13))) rfl ?_
              refine lv_iconst (v := nI (0)) X.1 X.2.1 dX7_end_122 (by decide) ?_
              refine mr_ast X h 21 rfl (by decide) dX7_end_123 (i := N1 13) (v := 0) rfl (by show _ < 36; omega) rfl (fun H locs h => ?_)
              rw [sc2_21] at h
              refine lv_aload_n X.1 X.2.1 dX7_end_124 rfl (lv_at hl 1 rfl) ?_
              refine lv_dup X.1 X.2.1 dX7_end_125 rfl ?_
              refine mr_get X h kf_X7_133 (by decide) dX7_end_126 (v := .int (nI (N1 13))) rfl ?_
              refine lv_iconst (v := nI (1)) X.1 X.2.1 dX7_end_129 (by decide) ?_
              refine lv_iadd X.1 X.2.1 dX7_end_130 ?_
              refine lv_top (y := nI (N1 13 + 1)) (nI_add _ _) ?_
              refine mr_put X h kf_X7_133 (by decide) rfl rfl dX7_end_131 rfl (fun H locs h => ?_)
              refine lv_iinc (v := nI (n0 + 1)) (lv' := [(1, .int (nI (n0 + 1))), (3, .int (nI (who g q (N1 1) (j + 1)) - 1)), (0, .ref x), (2, .int (nI (j + 1)))]) X.1 X.2.1 dX7_end_134 hl (k := 2) rfl (nI_add (n0) 1) (by decide) rfl (fun ls hl => ?_)
              refine lv_iinc (v := nI (j + 1 + 1)) (lv' := [(2, .int (nI (j + 1 + 1))), (1, .int (nI (n0 + 1))), (3, .int (nI (who g q (N1 1) (j + 1)) - 1)), (0, .ref x)]) X.1 X.2.1 dX7_end_137 hl (k := 3) rfl (nI_add (j + 1) 1) (by decide) rfl (fun ls hl => ?_)
              refine lv_goto (tgt := 35) X.1 X.2.1 dX7_end_140 (by decide) ?_
              have hhe : who g q (N1 1) (j + 1) = heirS N F (N 12) (j + 1) := (show who g q (N1 1) (j + 1) = heirS N F (N 12) (j + 1) by rw [hE.eqs.2.1]; exact who_heir (F := F) hg)
              have hat := aw_t hA1 hA2 (show ¬ heirS N F (N 12) (j + 1) = 0 by omega)
              rw [← hE.2.1, ← hhe, ← hE.eqs.2.2.2.1] at hat
              exact ih_loop (j + 1) (n0 + 1) (va_up N1 13 (N1 13 + 1)) ((set1 (set1 (set1 (set1 (set1 (set1 (set1 F1 14 (N1 13) (N1 12)) 15 (N1 13) (j + 1)) 16 (N1 13) (who g q (N1 1) (j + 1))) 17 (N1 13) (who g q (N1 1) (j + 1))) 18 (N1 13) (0)) 20 (N1 13) (0)) 21 (N1 13) (0))) (by omega) (by omega) (by omega) hE.up hat.1 hat.2 _ _ _ h (lv_sub hl [3, 1, 0] rfl)
      exact loop 4 0 0 (va_up N 29 (0)) F (by omega) (by omega) (by omega) (NE.st N) rfl (SF.rf F) _ _ _ h (lv_sub hl [2, 1, 0] rfl)
    · skip
      exact absurd c2 (by first | decide | omega)
  · skip
    refine lv_iconst (v := nI (1)) X.1 X.2.1 dX7_end_10 (by decide) ?_
    refine lv_goto (tgt := 15) X.1 X.2.1 dX7_end_11 (by decide) ?_
    refine mr_callV X h ck_X7_93 ki_X7_fails ks_X7_fails dX7_end_15 (As := [.int (nI (1))]) (c_X7_fails l G x ar N F B 1 (by omega)) rfl hl rfl (Nat.le_of_ble_eq_true rfl) ⟨Nat.le_of_ble_eq_true rfl, Nat.le_of_ble_eq_true rfl⟩ ⟨Nat.le_of_ble_eq_true rfl, Nat.le_of_ble_eq_true rfl⟩ ?_
    rintro _ _ _ _ H locs ⟨rfl, rfl, rfl, rfl⟩ h
    refine b_bool_eq (tgt := 23) X dX7_end_18 (by decide) (fun c6 => ?_) (fun c6 => ?_)
    · skip
      exact absurd c6 (by first | decide | omega)
    · skip
      have c6 := of_decide_eq_true c6
      refine lv_iconst (v := nI (0)) X.1 X.2.1 dX7_end_21 (by decide) ?_
      exact mr_iret X hr hlocks h dX7_end_22 ⟨Nat.le_of_ble_eq_true rfl, Nat.le_of_ble_eq_true rfl⟩ (MA.bad (if_pos (by omega)) (by decide))
set_option maxHeartbeats 4000000 in
set_option maxRecDepth 100000 in
theorem c_X7_sell (l : Launch) (G : mG) (x : Nat) (ar N : Nat → Nat) (F : Nat → Nat → Nat) (B : Nat → Int32) (k0 : Int32) (p0 : Int32) (z0 : Int32) (hI : Iv N F) : MMet l yX7_sell cX7_sell 8 (some FieldType.boolean) ({ frames := 2, cells := 0, slots := 0, locals := 43 } : Room) G x ar [.ref x, .int (k0), .int (p0), .int (z0)] N F B (fun r N' F' B' => MA r N' F' B' (kSell N F k0 p0 z0) (bI (faithS F (ix k0) (ix p0))) (N) (fSell F (ix k0) (ix p0) (ix z0)) (bSell F B (ix k0) (ix p0) (ix z0)) N F B) := by
  refine MMet.of (by decide) (Nat.le_of_ble_eq_true rfl) ?_
  intro p e s m args below meth c A ls X hr hlocks h hl
  have hl : lv_has ls 8 [(0, .ref x), (1, .int (k0)), (2, .int (p0)), (3, .int (z0))] := hl
  have hn := hI.n
  refine lv_aload_n X.1 X.2.1 dX7_sell_0 rfl (lv_at hl 0 rfl) ?_
  refine lv_iload_n X.1 X.2.1 dX7_sell_1 rfl (lv_at hl 1 rfl) ?_
  refine mr_callV X h ck_X7_136 ki_X7_isSkin ks_X7_isSkin dX7_sell_2 (As := [.int (k0)]) (c_X7_isSkin l G x ar N F B (k0) hI) rfl hl rfl (Nat.le_of_ble_eq_true rfl) ⟨Nat.le_of_ble_eq_true rfl, Nat.le_of_ble_eq_true rfl⟩ ⟨Nat.le_of_ble_eq_true rfl, Nat.le_of_ble_eq_true rfl⟩ ?_
  rintro _ _ _ _ H locs ⟨rfl, rfl, rfl, rfl⟩ h
  refine b_bool_eq (tgt := 20) X dX7_sell_5 (by decide) (fun c1 => ?_) (fun c1 => ?_)
  · skip
    refine lv_iconst (v := nI (0)) X.1 X.2.1 dX7_sell_20 (by decide) ?_
    refine lv_istore (lv' := [(4, .int (nI (0))), (0, .ref x), (1, .int (k0)), (2, .int (p0)), (3, .int (z0))]) X.1 X.2.1 dX7_sell_21 hl (by decide) rfl (fun ls hl => ?_)
    refine lv_iload X.1 X.2.1 dX7_sell_23 (lv_at hl 0 rfl) ?_
    refine b_if_eq (tgt := 84) X dX7_sell_25 (by decide) (a := ((0 : Nat) : Int)) (nI_ti (by omega)) (fun c2 => ?_) (fun c2 => ?_)
    · skip
      refine lv_iconst (v := nI (0)) X.1 X.2.1 dX7_sell_84 (by decide) ?_
      refine lv_istore (lv' := [(5, .int (nI (0))), (4, .int (nI (0))), (0, .ref x), (1, .int (k0)), (2, .int (p0)), (3, .int (z0))]) X.1 X.2.1 dX7_sell_85 hl (by decide) rfl (fun ls hl => ?_)
      refine lv_aload_n X.1 X.2.1 dX7_sell_87 rfl (lv_at hl 2 rfl) ?_
      refine lv_iload X.1 X.2.1 dX7_sell_88 (lv_at hl 1 rfl) ?_
      refine b_if_ne (tgt := 97) X dX7_sell_90 (by decide) (a := ((0 : Nat) : Int)) (nI_ti (by omega)) (fun c3 => ?_) (fun c3 => ?_)
      · skip
        exact absurd c3 (by first | decide | omega)
      · skip
        refine lv_iconst (v := nI (1)) X.1 X.2.1 dX7_sell_93 (by decide) ?_
        refine lv_goto (tgt := 122) X.1 X.2.1 dX7_sell_94 (by decide) ?_
        refine mr_callV X h ck_X7_93 ki_X7_fails ks_X7_fails dX7_sell_122 (As := [.int (nI (1))]) (c_X7_fails l G x ar N F B 1 (by omega)) rfl hl rfl (Nat.le_of_ble_eq_true rfl) ⟨Nat.le_of_ble_eq_true rfl, Nat.le_of_ble_eq_true rfl⟩ ⟨Nat.le_of_ble_eq_true rfl, Nat.le_of_ble_eq_true rfl⟩ ?_
        rintro _ _ _ _ H locs ⟨rfl, rfl, rfl, rfl⟩ h
        refine b_bool_eq (tgt := 130) X dX7_sell_125 (by decide) (fun c4 => ?_) (fun c4 => ?_)
        · skip
          exact absurd c4 (by first | decide | omega)
        · skip
          have c4 := of_decide_eq_true c4
          refine lv_iconst (v := nI (0)) X.1 X.2.1 dX7_sell_128 (by decide) ?_
          exact mr_zret X hr hlocks h dX7_sell_129 ⟨Nat.le_of_ble_eq_true rfl, Nat.le_of_ble_eq_true rfl⟩ (rfl) (MA.bad (if_pos (by simp [c1])) (by decide))
    · skip
      exact absurd c2 (by first | decide | omega)
  · skip
    obtain ⟨i1, hi1, rfl⟩ := iR_t c1 (by omega)
    refine lv_aload_n X.1 X.2.1 dX7_sell_8 rfl (lv_at hl 0 rfl) ?_
    refine lv_iload_n X.1 X.2.1 dX7_sell_9 rfl (lv_at hl 2 rfl) ?_
    refine mr_callV X h ck_X7_107 ki_X7_isPlayer ks_X7_isPlayer dX7_sell_10 (As := [.int (p0)]) (c_X7_isPlayer l G x ar N F B (p0) hI) rfl hl rfl (Nat.le_of_ble_eq_true rfl) ⟨Nat.le_of_ble_eq_true rfl, Nat.le_of_ble_eq_true rfl⟩ ⟨Nat.le_of_ble_eq_true rfl, Nat.le_of_ble_eq_true rfl⟩ ?_
    rintro _ _ _ _ H locs ⟨rfl, rfl, rfl, rfl⟩ h
    refine b_bool_eq (tgt := 20) X dX7_sell_13 (by decide) (fun c5 => ?_) (fun c5 => ?_)
    · skip
      refine lv_iconst (v := nI (0)) X.1 X.2.1 dX7_sell_20 (by decide) ?_
      refine lv_istore (lv' := [(4, .int (nI (0))), (0, .ref x), (1, .int (nI (i1))), (2, .int (p0)), (3, .int (z0))]) X.1 X.2.1 dX7_sell_21 hl (by decide) rfl (fun ls hl => ?_)
      refine lv_iload X.1 X.2.1 dX7_sell_23 (lv_at hl 0 rfl) ?_
      refine b_if_eq (tgt := 84) X dX7_sell_25 (by decide) (a := ((0 : Nat) : Int)) (nI_ti (by omega)) (fun c6 => ?_) (fun c6 => ?_)
      · skip
        refine lv_iconst (v := nI (0)) X.1 X.2.1 dX7_sell_84 (by decide) ?_
        refine lv_istore (lv' := [(5, .int (nI (0))), (4, .int (nI (0))), (0, .ref x), (1, .int (nI (i1))), (2, .int (p0)), (3, .int (z0))]) X.1 X.2.1 dX7_sell_85 hl (by decide) rfl (fun ls hl => ?_)
        refine lv_aload_n X.1 X.2.1 dX7_sell_87 rfl (lv_at hl 2 rfl) ?_
        refine lv_iload X.1 X.2.1 dX7_sell_88 (lv_at hl 1 rfl) ?_
        refine b_if_ne (tgt := 97) X dX7_sell_90 (by decide) (a := ((0 : Nat) : Int)) (nI_ti (by omega)) (fun c7 => ?_) (fun c7 => ?_)
        · skip
          exact absurd c7 (by first | decide | omega)
        · skip
          refine lv_iconst (v := nI (1)) X.1 X.2.1 dX7_sell_93 (by decide) ?_
          refine lv_goto (tgt := 122) X.1 X.2.1 dX7_sell_94 (by decide) ?_
          refine mr_callV X h ck_X7_93 ki_X7_fails ks_X7_fails dX7_sell_122 (As := [.int (nI (1))]) (c_X7_fails l G x ar N F B 1 (by omega)) rfl hl rfl (Nat.le_of_ble_eq_true rfl) ⟨Nat.le_of_ble_eq_true rfl, Nat.le_of_ble_eq_true rfl⟩ ⟨Nat.le_of_ble_eq_true rfl, Nat.le_of_ble_eq_true rfl⟩ ?_
          rintro _ _ _ _ H locs ⟨rfl, rfl, rfl, rfl⟩ h
          refine b_bool_eq (tgt := 130) X dX7_sell_125 (by decide) (fun c8 => ?_) (fun c8 => ?_)
          · skip
            exact absurd c8 (by first | decide | omega)
          · skip
            have c8 := of_decide_eq_true c8
            refine lv_iconst (v := nI (0)) X.1 X.2.1 dX7_sell_128 (by decide) ?_
            exact mr_zret X hr hlocks h dX7_sell_129 ⟨Nat.le_of_ble_eq_true rfl, Nat.le_of_ble_eq_true rfl⟩ (rfl) (MA.bad (if_pos (by simp [iR_lt hi1 (show N 13 < 2 ^ 31 by omega), c5])) (by decide))
      · skip
        exact absurd c6 (by first | decide | omega)
    · skip
      obtain ⟨i2, hi2, rfl⟩ := iR_t c5 (by omega)
      refine lv_iconst (v := nI (1)) X.1 X.2.1 dX7_sell_16 (by decide) ?_
      refine lv_goto (tgt := 21) X.1 X.2.1 dX7_sell_17 (by decide) ?_
      refine lv_istore (lv' := [(4, .int (nI (1))), (0, .ref x), (1, .int (nI (i1))), (2, .int (nI (i2))), (3, .int (z0))]) X.1 X.2.1 dX7_sell_21 hl (by decide) rfl (fun ls hl => ?_)
      refine lv_iload X.1 X.2.1 dX7_sell_23 (lv_at hl 0 rfl) ?_
      refine b_if_eq (tgt := 84) X dX7_sell_25 (by decide) (a := ((1 : Nat) : Int)) (nI_ti (by omega)) (fun c9 => ?_) (fun c9 => ?_)
      · skip
        exact absurd c9 (by first | decide | omega)
      · skip
        refine lv_aload_n X.1 X.2.1 dX7_sell_28 rfl (lv_at hl 1 rfl) ?_
        refine mr_get X h kf_X7_46 (by decide) dX7_sell_29 rfl ?_
        refine lv_iload_n X.1 X.2.1 dX7_sell_32 rfl (lv_at hl 2 rfl) ?_
        refine mr_ald X h 17 rfl dX7_sell_33 (i := i1) (v := nI (F 17 (i1)) - 1) rfl (by show _ < 36; omega) rfl ?_
        have b10 := hI.k (k := i1) (by omega)
        refine lv_iconst (v := nI (0) - 1) X.1 X.2.1 dX7_sell_34 (by decide) ?_
        refine b_icmp_eq (tgt := 84) X dX7_sell_35 (by decide) (a := ((F 17 (i1) : Nat) : Int) - 1) (b := ((0 : Nat) : Int) - 1) (eI_ti (by omega)) (eI_ti (by omega)) (fun c11 => ?_) (fun c11 => ?_)
        · skip
          refine lv_iconst (v := nI (0)) X.1 X.2.1 dX7_sell_84 (by decide) ?_
          refine lv_istore (lv' := [(5, .int (nI (0))), (4, .int (nI (1))), (0, .ref x), (1, .int (nI (i1))), (2, .int (nI (i2))), (3, .int (z0))]) X.1 X.2.1 dX7_sell_85 hl (by decide) rfl (fun ls hl => ?_)
          refine lv_aload_n X.1 X.2.1 dX7_sell_87 rfl (lv_at hl 2 rfl) ?_
          refine lv_iload X.1 X.2.1 dX7_sell_88 (lv_at hl 1 rfl) ?_
          refine b_if_ne (tgt := 97) X dX7_sell_90 (by decide) (a := ((1 : Nat) : Int)) (nI_ti (by omega)) (fun c12 => ?_) (fun c12 => ?_)
          · skip
            refine lv_iload_n X.1 X.2.1 dX7_sell_97 rfl (lv_at hl 5 rfl) ?_
            refine lv_iconst (v := nI (0)) X.1 X.2.1 dX7_sell_98 (by decide) ?_
            refine lv_sipush (v := nI (10000)) X.1 X.2.1 dX7_sell_99 (by decide) ?_
            refine mr_callS X h ck_X7_86 kst_X7_isIn dX7_sell_102 (As := [.int (z0), .int (nI (0)), .int (nI (10000))]) (c_X7_isIn l G x ar N F B (z0) (nI (0)) (nI (10000))) rfl hl rfl (Nat.le_of_ble_eq_true rfl) ⟨Nat.le_of_ble_eq_true rfl, Nat.le_of_ble_eq_true rfl⟩ ⟨Nat.le_of_ble_eq_true rfl, Nat.le_of_ble_eq_true rfl⟩ ?_
            rintro _ _ _ _ H locs ⟨rfl, rfl, rfl, rfl⟩ h
            refine lv_top (y := bI (decide (((0 : Nat) : Int) ≤ (z0).toInt ∧ (z0).toInt ≤ ((10000 : Nat) : Int)))) (by rw [show (z0).toInt = (z0).toInt from rfl, show (nI (0)).toInt = ((0 : Nat) : Int) from nI_ti (by omega), show (nI (10000)).toInt = ((10000 : Nat) : Int) from nI_ti (by omega)]) ?_
            refine b_bool_ne (tgt := 112) X dX7_sell_105 (by decide) (fun c13 => ?_) (fun c13 => ?_)
            · skip
              have c13 := of_decide_eq_true c13
              obtain ⟨i3, hi3l, hi3, rfl⟩ := in_t 0 (n := 10000) c13 (by omega)
              refine lv_iload X.1 X.2.1 dX7_sell_112 (lv_at hl 0 rfl) ?_
              refine b_if_eq (tgt := 121) X dX7_sell_114 (by decide) (a := ((0 : Nat) : Int)) (nI_ti (by omega)) (fun c14 => ?_) (fun c14 => ?_)
              · skip
                refine lv_iconst (v := nI (3)) X.1 X.2.1 dX7_sell_121 (by decide) ?_
                refine mr_callV X h ck_X7_93 ki_X7_fails ks_X7_fails dX7_sell_122 (As := [.int (nI (3))]) (c_X7_fails l G x ar N F B 3 (by omega)) rfl hl rfl (Nat.le_of_ble_eq_true rfl) ⟨Nat.le_of_ble_eq_true rfl, Nat.le_of_ble_eq_true rfl⟩ ⟨Nat.le_of_ble_eq_true rfl, Nat.le_of_ble_eq_true rfl⟩ ?_
                rintro _ _ _ _ H locs ⟨rfl, rfl, rfl, rfl⟩ h
                refine b_bool_eq (tgt := 130) X dX7_sell_125 (by decide) (fun c15 => ?_) (fun c15 => ?_)
                · skip
                  exact absurd c15 (by first | decide | omega)
                · skip
                  have c15 := of_decide_eq_true c15
                  refine lv_iconst (v := nI (0)) X.1 X.2.1 dX7_sell_128 (by decide) ?_
                  exact mr_zret X hr hlocks h dX7_sell_129 ⟨Nat.le_of_ble_eq_true rfl, Nat.le_of_ble_eq_true rfl⟩ (rfl) (MA.bad ((if_neg (by rw [iR_lt hi1 (by omega), iR_lt hi2 (by omega)]; decide)).trans ((if_neg (fun z => z (by rw [nI_ti (by omega)]; omega))).trans (if_neg (by rw [ix_nI (by omega), ix_nI (by omega)]; intro z; have := of_decide_eq_true z.1; omega)))) (by decide))
              · skip
                exact absurd c14 (by first | decide | omega)
            · skip
              have c13 := of_decide_eq_false c13
              refine lv_iconst (v := nI (2)) X.1 X.2.1 dX7_sell_108 (by decide) ?_
              refine lv_goto (tgt := 122) X.1 X.2.1 dX7_sell_109 (by decide) ?_
              refine mr_callV X h ck_X7_93 ki_X7_fails ks_X7_fails dX7_sell_122 (As := [.int (nI (2))]) (c_X7_fails l G x ar N F B 2 (by omega)) rfl hl rfl (Nat.le_of_ble_eq_true rfl) ⟨Nat.le_of_ble_eq_true rfl, Nat.le_of_ble_eq_true rfl⟩ ⟨Nat.le_of_ble_eq_true rfl, Nat.le_of_ble_eq_true rfl⟩ ?_
              rintro _ _ _ _ H locs ⟨rfl, rfl, rfl, rfl⟩ h
              refine b_bool_eq (tgt := 130) X dX7_sell_125 (by decide) (fun c16 => ?_) (fun c16 => ?_)
              · skip
                exact absurd c16 (by first | decide | omega)
              · skip
                have c16 := of_decide_eq_true c16
                refine lv_iconst (v := nI (0)) X.1 X.2.1 dX7_sell_128 (by decide) ?_
                exact mr_zret X hr hlocks h dX7_sell_129 ⟨Nat.le_of_ble_eq_true rfl, Nat.le_of_ble_eq_true rfl⟩ (rfl) (MA.bad ((if_neg (by rw [iR_lt hi1 (by omega), iR_lt hi2 (by omega)]; decide)).trans (if_pos (by omega))) (by decide))
          · skip
            exact absurd c12 (by first | decide | omega)
        · skip
          refine lv_aload_n X.1 X.2.1 dX7_sell_38 rfl (lv_at hl 1 rfl) ?_
          refine mr_get X h kf_X7_46 (by decide) dX7_sell_39 rfl ?_
          refine lv_iload_n X.1 X.2.1 dX7_sell_42 rfl (lv_at hl 2 rfl) ?_
          refine mr_ald X h 17 rfl dX7_sell_43 (i := i1) (v := nI (F 17 (i1)) - 1) rfl (by show _ < 36; omega) rfl ?_
          have b17 := hI.k (k := i1) (by omega)
          refine lv_iload_n X.1 X.2.1 dX7_sell_44 rfl (lv_at hl 3 rfl) ?_
          refine b_icmp_eq (tgt := 84) X dX7_sell_45 (by decide) (a := ((F 17 (i1) : Nat) : Int) - 1) (b := ((i2 : Nat) : Int)) (eI_ti (by omega)) (nI_ti (by omega)) (fun c18 => ?_) (fun c18 => ?_)
          · skip
            refine lv_iconst (v := nI (0)) X.1 X.2.1 dX7_sell_84 (by decide) ?_
            refine lv_istore (lv' := [(5, .int (nI (0))), (4, .int (nI (1))), (0, .ref x), (1, .int (nI (i1))), (2, .int (nI (i2))), (3, .int (z0))]) X.1 X.2.1 dX7_sell_85 hl (by decide) rfl (fun ls hl => ?_)
            refine lv_aload_n X.1 X.2.1 dX7_sell_87 rfl (lv_at hl 2 rfl) ?_
            refine lv_iload X.1 X.2.1 dX7_sell_88 (lv_at hl 1 rfl) ?_
            refine b_if_ne (tgt := 97) X dX7_sell_90 (by decide) (a := ((1 : Nat) : Int)) (nI_ti (by omega)) (fun c19 => ?_) (fun c19 => ?_)
            · skip
              refine lv_iload_n X.1 X.2.1 dX7_sell_97 rfl (lv_at hl 5 rfl) ?_
              refine lv_iconst (v := nI (0)) X.1 X.2.1 dX7_sell_98 (by decide) ?_
              refine lv_sipush (v := nI (10000)) X.1 X.2.1 dX7_sell_99 (by decide) ?_
              refine mr_callS X h ck_X7_86 kst_X7_isIn dX7_sell_102 (As := [.int (z0), .int (nI (0)), .int (nI (10000))]) (c_X7_isIn l G x ar N F B (z0) (nI (0)) (nI (10000))) rfl hl rfl (Nat.le_of_ble_eq_true rfl) ⟨Nat.le_of_ble_eq_true rfl, Nat.le_of_ble_eq_true rfl⟩ ⟨Nat.le_of_ble_eq_true rfl, Nat.le_of_ble_eq_true rfl⟩ ?_
              rintro _ _ _ _ H locs ⟨rfl, rfl, rfl, rfl⟩ h
              refine lv_top (y := bI (decide (((0 : Nat) : Int) ≤ (z0).toInt ∧ (z0).toInt ≤ ((10000 : Nat) : Int)))) (by rw [show (z0).toInt = (z0).toInt from rfl, show (nI (0)).toInt = ((0 : Nat) : Int) from nI_ti (by omega), show (nI (10000)).toInt = ((10000 : Nat) : Int) from nI_ti (by omega)]) ?_
              refine b_bool_ne (tgt := 112) X dX7_sell_105 (by decide) (fun c20 => ?_) (fun c20 => ?_)
              · skip
                have c20 := of_decide_eq_true c20
                obtain ⟨i3, hi3l, hi3, rfl⟩ := in_t 0 (n := 10000) c20 (by omega)
                refine lv_iload X.1 X.2.1 dX7_sell_112 (lv_at hl 0 rfl) ?_
                refine b_if_eq (tgt := 121) X dX7_sell_114 (by decide) (a := ((0 : Nat) : Int)) (nI_ti (by omega)) (fun c21 => ?_) (fun c21 => ?_)
                · skip
                  refine lv_iconst (v := nI (3)) X.1 X.2.1 dX7_sell_121 (by decide) ?_
                  refine mr_callV X h ck_X7_93 ki_X7_fails ks_X7_fails dX7_sell_122 (As := [.int (nI (3))]) (c_X7_fails l G x ar N F B 3 (by omega)) rfl hl rfl (Nat.le_of_ble_eq_true rfl) ⟨Nat.le_of_ble_eq_true rfl, Nat.le_of_ble_eq_true rfl⟩ ⟨Nat.le_of_ble_eq_true rfl, Nat.le_of_ble_eq_true rfl⟩ ?_
                  rintro _ _ _ _ H locs ⟨rfl, rfl, rfl, rfl⟩ h
                  refine b_bool_eq (tgt := 130) X dX7_sell_125 (by decide) (fun c22 => ?_) (fun c22 => ?_)
                  · skip
                    exact absurd c22 (by first | decide | omega)
                  · skip
                    have c22 := of_decide_eq_true c22
                    refine lv_iconst (v := nI (0)) X.1 X.2.1 dX7_sell_128 (by decide) ?_
                    exact mr_zret X hr hlocks h dX7_sell_129 ⟨Nat.le_of_ble_eq_true rfl, Nat.le_of_ble_eq_true rfl⟩ (rfl) (MA.bad ((if_neg (by rw [iR_lt hi1 (by omega), iR_lt hi2 (by omega)]; decide)).trans ((if_neg (fun z => z (by rw [nI_ti (by omega)]; omega))).trans (if_neg (by rw [ix_nI (by omega), ix_nI (by omega)]; intro z; have := of_decide_eq_true z.1; omega)))) (by decide))
                · skip
                  exact absurd c21 (by first | decide | omega)
              · skip
                have c20 := of_decide_eq_false c20
                refine lv_iconst (v := nI (2)) X.1 X.2.1 dX7_sell_108 (by decide) ?_
                refine lv_goto (tgt := 122) X.1 X.2.1 dX7_sell_109 (by decide) ?_
                refine mr_callV X h ck_X7_93 ki_X7_fails ks_X7_fails dX7_sell_122 (As := [.int (nI (2))]) (c_X7_fails l G x ar N F B 2 (by omega)) rfl hl rfl (Nat.le_of_ble_eq_true rfl) ⟨Nat.le_of_ble_eq_true rfl, Nat.le_of_ble_eq_true rfl⟩ ⟨Nat.le_of_ble_eq_true rfl, Nat.le_of_ble_eq_true rfl⟩ ?_
                rintro _ _ _ _ H locs ⟨rfl, rfl, rfl, rfl⟩ h
                refine b_bool_eq (tgt := 130) X dX7_sell_125 (by decide) (fun c23 => ?_) (fun c23 => ?_)
                · skip
                  exact absurd c23 (by first | decide | omega)
                · skip
                  have c23 := of_decide_eq_true c23
                  refine lv_iconst (v := nI (0)) X.1 X.2.1 dX7_sell_128 (by decide) ?_
                  exact mr_zret X hr hlocks h dX7_sell_129 ⟨Nat.le_of_ble_eq_true rfl, Nat.le_of_ble_eq_true rfl⟩ (rfl) (MA.bad ((if_neg (by rw [iR_lt hi1 (by omega), iR_lt hi2 (by omega)]; decide)).trans (if_pos (by omega))) (by decide))
            · skip
              exact absurd c19 (by first | decide | omega)
          · skip
            refine lv_aload_n X.1 X.2.1 dX7_sell_48 rfl (lv_at hl 1 rfl) ?_
            refine lv_aload_n X.1 X.2.1 dX7_sell_49 rfl (lv_at hl 1 rfl) ?_
            refine mr_get X h kf_X7_46 (by decide) dX7_sell_50 rfl ?_
            refine lv_iload_n X.1 X.2.1 dX7_sell_53 rfl (lv_at hl 2 rfl) ?_
            refine mr_ald X h 17 rfl dX7_sell_54 (i := i1) (v := nI (F 17 (i1)) - 1) rfl (by show _ < 36; omega) rfl ?_
            have b24 := hI.k (k := i1) (by omega)
            refine lv_top (y := nI (F 17 (i1) - 1)) (eI_pos (by omega)) ?_
            refine mr_callV X h ck_X7_110 ki_X7_isBanned ks_X7_isBanned dX7_sell_55 (As := [.int (nI (F 17 (i1) - 1))]) (c_X7_isBanned l G x ar N F B (F 17 (i1) - 1) hI (show F 17 (i1) - 1 < N 1 by omega)) rfl hl rfl (Nat.le_of_ble_eq_true rfl) ⟨Nat.le_of_ble_eq_true rfl, Nat.le_of_ble_eq_true rfl⟩ ⟨Nat.le_of_ble_eq_true rfl, Nat.le_of_ble_eq_true rfl⟩ ?_
            rintro _ _ _ _ H locs ⟨rfl, rfl, rfl, rfl⟩ h
            have b25 := hI.p (F 17 (i1) - 1)
            refine b_bool_ne (tgt := 84) X dX7_sell_58 (by decide) (fun c26 => ?_) (fun c26 => ?_)
            · skip
              have c26 := of_decide_eq_true c26
              refine lv_iconst (v := nI (0)) X.1 X.2.1 dX7_sell_84 (by decide) ?_
              refine lv_istore (lv' := [(5, .int (nI (0))), (4, .int (nI (1))), (0, .ref x), (1, .int (nI (i1))), (2, .int (nI (i2))), (3, .int (z0))]) X.1 X.2.1 dX7_sell_85 hl (by decide) rfl (fun ls hl => ?_)
              refine lv_aload_n X.1 X.2.1 dX7_sell_87 rfl (lv_at hl 2 rfl) ?_
              refine lv_iload X.1 X.2.1 dX7_sell_88 (lv_at hl 1 rfl) ?_
              refine b_if_ne (tgt := 97) X dX7_sell_90 (by decide) (a := ((1 : Nat) : Int)) (nI_ti (by omega)) (fun c27 => ?_) (fun c27 => ?_)
              · skip
                refine lv_iload_n X.1 X.2.1 dX7_sell_97 rfl (lv_at hl 5 rfl) ?_
                refine lv_iconst (v := nI (0)) X.1 X.2.1 dX7_sell_98 (by decide) ?_
                refine lv_sipush (v := nI (10000)) X.1 X.2.1 dX7_sell_99 (by decide) ?_
                refine mr_callS X h ck_X7_86 kst_X7_isIn dX7_sell_102 (As := [.int (z0), .int (nI (0)), .int (nI (10000))]) (c_X7_isIn l G x ar N F B (z0) (nI (0)) (nI (10000))) rfl hl rfl (Nat.le_of_ble_eq_true rfl) ⟨Nat.le_of_ble_eq_true rfl, Nat.le_of_ble_eq_true rfl⟩ ⟨Nat.le_of_ble_eq_true rfl, Nat.le_of_ble_eq_true rfl⟩ ?_
                rintro _ _ _ _ H locs ⟨rfl, rfl, rfl, rfl⟩ h
                refine lv_top (y := bI (decide (((0 : Nat) : Int) ≤ (z0).toInt ∧ (z0).toInt ≤ ((10000 : Nat) : Int)))) (by rw [show (z0).toInt = (z0).toInt from rfl, show (nI (0)).toInt = ((0 : Nat) : Int) from nI_ti (by omega), show (nI (10000)).toInt = ((10000 : Nat) : Int) from nI_ti (by omega)]) ?_
                refine b_bool_ne (tgt := 112) X dX7_sell_105 (by decide) (fun c28 => ?_) (fun c28 => ?_)
                · skip
                  have c28 := of_decide_eq_true c28
                  obtain ⟨i3, hi3l, hi3, rfl⟩ := in_t 0 (n := 10000) c28 (by omega)
                  refine lv_iload X.1 X.2.1 dX7_sell_112 (lv_at hl 0 rfl) ?_
                  refine b_if_eq (tgt := 121) X dX7_sell_114 (by decide) (a := ((0 : Nat) : Int)) (nI_ti (by omega)) (fun c29 => ?_) (fun c29 => ?_)
                  · skip
                    refine lv_iconst (v := nI (3)) X.1 X.2.1 dX7_sell_121 (by decide) ?_
                    refine mr_callV X h ck_X7_93 ki_X7_fails ks_X7_fails dX7_sell_122 (As := [.int (nI (3))]) (c_X7_fails l G x ar N F B 3 (by omega)) rfl hl rfl (Nat.le_of_ble_eq_true rfl) ⟨Nat.le_of_ble_eq_true rfl, Nat.le_of_ble_eq_true rfl⟩ ⟨Nat.le_of_ble_eq_true rfl, Nat.le_of_ble_eq_true rfl⟩ ?_
                    rintro _ _ _ _ H locs ⟨rfl, rfl, rfl, rfl⟩ h
                    refine b_bool_eq (tgt := 130) X dX7_sell_125 (by decide) (fun c30 => ?_) (fun c30 => ?_)
                    · skip
                      exact absurd c30 (by first | decide | omega)
                    · skip
                      have c30 := of_decide_eq_true c30
                      refine lv_iconst (v := nI (0)) X.1 X.2.1 dX7_sell_128 (by decide) ?_
                      exact mr_zret X hr hlocks h dX7_sell_129 ⟨Nat.le_of_ble_eq_true rfl, Nat.le_of_ble_eq_true rfl⟩ (rfl) (MA.bad ((if_neg (by rw [iR_lt hi1 (by omega), iR_lt hi2 (by omega)]; decide)).trans ((if_neg (fun z => z (by rw [nI_ti (by omega)]; omega))).trans (if_neg (by rw [ix_nI (by omega), ix_nI (by omega)]; intro z; have := of_decide_eq_true z.1; omega)))) (by decide))
                  · skip
                    exact absurd c29 (by first | decide | omega)
                · skip
                  have c28 := of_decide_eq_false c28
                  refine lv_iconst (v := nI (2)) X.1 X.2.1 dX7_sell_108 (by decide) ?_
                  refine lv_goto (tgt := 122) X.1 X.2.1 dX7_sell_109 (by decide) ?_
                  refine mr_callV X h ck_X7_93 ki_X7_fails ks_X7_fails dX7_sell_122 (As := [.int (nI (2))]) (c_X7_fails l G x ar N F B 2 (by omega)) rfl hl rfl (Nat.le_of_ble_eq_true rfl) ⟨Nat.le_of_ble_eq_true rfl, Nat.le_of_ble_eq_true rfl⟩ ⟨Nat.le_of_ble_eq_true rfl, Nat.le_of_ble_eq_true rfl⟩ ?_
                  rintro _ _ _ _ H locs ⟨rfl, rfl, rfl, rfl⟩ h
                  refine b_bool_eq (tgt := 130) X dX7_sell_125 (by decide) (fun c31 => ?_) (fun c31 => ?_)
                  · skip
                    exact absurd c31 (by first | decide | omega)
                  · skip
                    have c31 := of_decide_eq_true c31
                    refine lv_iconst (v := nI (0)) X.1 X.2.1 dX7_sell_128 (by decide) ?_
                    exact mr_zret X hr hlocks h dX7_sell_129 ⟨Nat.le_of_ble_eq_true rfl, Nat.le_of_ble_eq_true rfl⟩ (rfl) (MA.bad ((if_neg (by rw [iR_lt hi1 (by omega), iR_lt hi2 (by omega)]; decide)).trans (if_pos (by omega))) (by decide))
              · skip
                exact absurd c27 (by first | decide | omega)
            · skip
              have c26 := of_decide_eq_false c26
              refine lv_aload_n X.1 X.2.1 dX7_sell_61 rfl (lv_at hl 1 rfl) ?_
              refine lv_iload_n X.1 X.2.1 dX7_sell_62 rfl (lv_at hl 3 rfl) ?_
              refine mr_callV X h ck_X7_110 ki_X7_isBanned ks_X7_isBanned dX7_sell_63 (As := [.int (nI (i2))]) (c_X7_isBanned l G x ar N F B i2 hI (show i2 < N 1 by omega)) rfl hl rfl (Nat.le_of_ble_eq_true rfl) ⟨Nat.le_of_ble_eq_true rfl, Nat.le_of_ble_eq_true rfl⟩ ⟨Nat.le_of_ble_eq_true rfl, Nat.le_of_ble_eq_true rfl⟩ ?_
              rintro _ _ _ _ H locs ⟨rfl, rfl, rfl, rfl⟩ h
              have b32 := hI.p (i2)
              refine b_bool_ne (tgt := 84) X dX7_sell_66 (by decide) (fun c33 => ?_) (fun c33 => ?_)
              · skip
                have c33 := of_decide_eq_true c33
                refine lv_iconst (v := nI (0)) X.1 X.2.1 dX7_sell_84 (by decide) ?_
                refine lv_istore (lv' := [(5, .int (nI (0))), (4, .int (nI (1))), (0, .ref x), (1, .int (nI (i1))), (2, .int (nI (i2))), (3, .int (z0))]) X.1 X.2.1 dX7_sell_85 hl (by decide) rfl (fun ls hl => ?_)
                refine lv_aload_n X.1 X.2.1 dX7_sell_87 rfl (lv_at hl 2 rfl) ?_
                refine lv_iload X.1 X.2.1 dX7_sell_88 (lv_at hl 1 rfl) ?_
                refine b_if_ne (tgt := 97) X dX7_sell_90 (by decide) (a := ((1 : Nat) : Int)) (nI_ti (by omega)) (fun c34 => ?_) (fun c34 => ?_)
                · skip
                  refine lv_iload_n X.1 X.2.1 dX7_sell_97 rfl (lv_at hl 5 rfl) ?_
                  refine lv_iconst (v := nI (0)) X.1 X.2.1 dX7_sell_98 (by decide) ?_
                  refine lv_sipush (v := nI (10000)) X.1 X.2.1 dX7_sell_99 (by decide) ?_
                  refine mr_callS X h ck_X7_86 kst_X7_isIn dX7_sell_102 (As := [.int (z0), .int (nI (0)), .int (nI (10000))]) (c_X7_isIn l G x ar N F B (z0) (nI (0)) (nI (10000))) rfl hl rfl (Nat.le_of_ble_eq_true rfl) ⟨Nat.le_of_ble_eq_true rfl, Nat.le_of_ble_eq_true rfl⟩ ⟨Nat.le_of_ble_eq_true rfl, Nat.le_of_ble_eq_true rfl⟩ ?_
                  rintro _ _ _ _ H locs ⟨rfl, rfl, rfl, rfl⟩ h
                  refine lv_top (y := bI (decide (((0 : Nat) : Int) ≤ (z0).toInt ∧ (z0).toInt ≤ ((10000 : Nat) : Int)))) (by rw [show (z0).toInt = (z0).toInt from rfl, show (nI (0)).toInt = ((0 : Nat) : Int) from nI_ti (by omega), show (nI (10000)).toInt = ((10000 : Nat) : Int) from nI_ti (by omega)]) ?_
                  refine b_bool_ne (tgt := 112) X dX7_sell_105 (by decide) (fun c35 => ?_) (fun c35 => ?_)
                  · skip
                    have c35 := of_decide_eq_true c35
                    obtain ⟨i3, hi3l, hi3, rfl⟩ := in_t 0 (n := 10000) c35 (by omega)
                    refine lv_iload X.1 X.2.1 dX7_sell_112 (lv_at hl 0 rfl) ?_
                    refine b_if_eq (tgt := 121) X dX7_sell_114 (by decide) (a := ((0 : Nat) : Int)) (nI_ti (by omega)) (fun c36 => ?_) (fun c36 => ?_)
                    · skip
                      refine lv_iconst (v := nI (3)) X.1 X.2.1 dX7_sell_121 (by decide) ?_
                      refine mr_callV X h ck_X7_93 ki_X7_fails ks_X7_fails dX7_sell_122 (As := [.int (nI (3))]) (c_X7_fails l G x ar N F B 3 (by omega)) rfl hl rfl (Nat.le_of_ble_eq_true rfl) ⟨Nat.le_of_ble_eq_true rfl, Nat.le_of_ble_eq_true rfl⟩ ⟨Nat.le_of_ble_eq_true rfl, Nat.le_of_ble_eq_true rfl⟩ ?_
                      rintro _ _ _ _ H locs ⟨rfl, rfl, rfl, rfl⟩ h
                      refine b_bool_eq (tgt := 130) X dX7_sell_125 (by decide) (fun c37 => ?_) (fun c37 => ?_)
                      · skip
                        exact absurd c37 (by first | decide | omega)
                      · skip
                        have c37 := of_decide_eq_true c37
                        refine lv_iconst (v := nI (0)) X.1 X.2.1 dX7_sell_128 (by decide) ?_
                        exact mr_zret X hr hlocks h dX7_sell_129 ⟨Nat.le_of_ble_eq_true rfl, Nat.le_of_ble_eq_true rfl⟩ (rfl) (MA.bad ((if_neg (by rw [iR_lt hi1 (by omega), iR_lt hi2 (by omega)]; decide)).trans ((if_neg (fun z => z (by rw [nI_ti (by omega)]; omega))).trans (if_neg (by rw [ix_nI (by omega), ix_nI (by omega)]; intro z; have := of_decide_eq_true z.1; omega)))) (by decide))
                    · skip
                      exact absurd c36 (by first | decide | omega)
                  · skip
                    have c35 := of_decide_eq_false c35
                    refine lv_iconst (v := nI (2)) X.1 X.2.1 dX7_sell_108 (by decide) ?_
                    refine lv_goto (tgt := 122) X.1 X.2.1 dX7_sell_109 (by decide) ?_
                    refine mr_callV X h ck_X7_93 ki_X7_fails ks_X7_fails dX7_sell_122 (As := [.int (nI (2))]) (c_X7_fails l G x ar N F B 2 (by omega)) rfl hl rfl (Nat.le_of_ble_eq_true rfl) ⟨Nat.le_of_ble_eq_true rfl, Nat.le_of_ble_eq_true rfl⟩ ⟨Nat.le_of_ble_eq_true rfl, Nat.le_of_ble_eq_true rfl⟩ ?_
                    rintro _ _ _ _ H locs ⟨rfl, rfl, rfl, rfl⟩ h
                    refine b_bool_eq (tgt := 130) X dX7_sell_125 (by decide) (fun c38 => ?_) (fun c38 => ?_)
                    · skip
                      exact absurd c38 (by first | decide | omega)
                    · skip
                      have c38 := of_decide_eq_true c38
                      refine lv_iconst (v := nI (0)) X.1 X.2.1 dX7_sell_128 (by decide) ?_
                      exact mr_zret X hr hlocks h dX7_sell_129 ⟨Nat.le_of_ble_eq_true rfl, Nat.le_of_ble_eq_true rfl⟩ (rfl) (MA.bad ((if_neg (by rw [iR_lt hi1 (by omega), iR_lt hi2 (by omega)]; decide)).trans (if_pos (by omega))) (by decide))
                · skip
                  exact absurd c34 (by first | decide | omega)
              · skip
                have c33 := of_decide_eq_false c33
                refine lv_aload_n X.1 X.2.1 dX7_sell_69 rfl (lv_at hl 1 rfl) ?_
                refine mr_get X h kf_X7_58 (by decide) dX7_sell_70 rfl ?_
                refine lv_iload_n X.1 X.2.1 dX7_sell_73 rfl (lv_at hl 2 rfl) ?_
                refine mr_ald X h 21 rfl dX7_sell_74 (i := i1) (v := nI (F 21 (i1))) rfl (by show _ < 36; omega) rfl ?_
                have b39 := hI.k (k := i1) (by omega)
                refine lv_bipush (v := nI (20)) X.1 X.2.1 dX7_sell_75 (by decide) ?_
                refine b_icmp_ge (tgt := 84) X dX7_sell_77 (by decide) (a := ((F 21 (i1) : Nat) : Int)) (b := ((20 : Nat) : Int)) (nI_ti (by omega)) (nI_ti (by omega)) (fun c40 => ?_) (fun c40 => ?_)
                · skip
                  refine lv_iconst (v := nI (0)) X.1 X.2.1 dX7_sell_84 (by decide) ?_
                  refine lv_istore (lv' := [(5, .int (nI (0))), (4, .int (nI (1))), (0, .ref x), (1, .int (nI (i1))), (2, .int (nI (i2))), (3, .int (z0))]) X.1 X.2.1 dX7_sell_85 hl (by decide) rfl (fun ls hl => ?_)
                  refine lv_aload_n X.1 X.2.1 dX7_sell_87 rfl (lv_at hl 2 rfl) ?_
                  refine lv_iload X.1 X.2.1 dX7_sell_88 (lv_at hl 1 rfl) ?_
                  refine b_if_ne (tgt := 97) X dX7_sell_90 (by decide) (a := ((1 : Nat) : Int)) (nI_ti (by omega)) (fun c41 => ?_) (fun c41 => ?_)
                  · skip
                    refine lv_iload_n X.1 X.2.1 dX7_sell_97 rfl (lv_at hl 5 rfl) ?_
                    refine lv_iconst (v := nI (0)) X.1 X.2.1 dX7_sell_98 (by decide) ?_
                    refine lv_sipush (v := nI (10000)) X.1 X.2.1 dX7_sell_99 (by decide) ?_
                    refine mr_callS X h ck_X7_86 kst_X7_isIn dX7_sell_102 (As := [.int (z0), .int (nI (0)), .int (nI (10000))]) (c_X7_isIn l G x ar N F B (z0) (nI (0)) (nI (10000))) rfl hl rfl (Nat.le_of_ble_eq_true rfl) ⟨Nat.le_of_ble_eq_true rfl, Nat.le_of_ble_eq_true rfl⟩ ⟨Nat.le_of_ble_eq_true rfl, Nat.le_of_ble_eq_true rfl⟩ ?_
                    rintro _ _ _ _ H locs ⟨rfl, rfl, rfl, rfl⟩ h
                    refine lv_top (y := bI (decide (((0 : Nat) : Int) ≤ (z0).toInt ∧ (z0).toInt ≤ ((10000 : Nat) : Int)))) (by rw [show (z0).toInt = (z0).toInt from rfl, show (nI (0)).toInt = ((0 : Nat) : Int) from nI_ti (by omega), show (nI (10000)).toInt = ((10000 : Nat) : Int) from nI_ti (by omega)]) ?_
                    refine b_bool_ne (tgt := 112) X dX7_sell_105 (by decide) (fun c42 => ?_) (fun c42 => ?_)
                    · skip
                      have c42 := of_decide_eq_true c42
                      obtain ⟨i3, hi3l, hi3, rfl⟩ := in_t 0 (n := 10000) c42 (by omega)
                      refine lv_iload X.1 X.2.1 dX7_sell_112 (lv_at hl 0 rfl) ?_
                      refine b_if_eq (tgt := 121) X dX7_sell_114 (by decide) (a := ((0 : Nat) : Int)) (nI_ti (by omega)) (fun c43 => ?_) (fun c43 => ?_)
                      · skip
                        refine lv_iconst (v := nI (3)) X.1 X.2.1 dX7_sell_121 (by decide) ?_
                        refine mr_callV X h ck_X7_93 ki_X7_fails ks_X7_fails dX7_sell_122 (As := [.int (nI (3))]) (c_X7_fails l G x ar N F B 3 (by omega)) rfl hl rfl (Nat.le_of_ble_eq_true rfl) ⟨Nat.le_of_ble_eq_true rfl, Nat.le_of_ble_eq_true rfl⟩ ⟨Nat.le_of_ble_eq_true rfl, Nat.le_of_ble_eq_true rfl⟩ ?_
                        rintro _ _ _ _ H locs ⟨rfl, rfl, rfl, rfl⟩ h
                        refine b_bool_eq (tgt := 130) X dX7_sell_125 (by decide) (fun c44 => ?_) (fun c44 => ?_)
                        · skip
                          exact absurd c44 (by first | decide | omega)
                        · skip
                          have c44 := of_decide_eq_true c44
                          refine lv_iconst (v := nI (0)) X.1 X.2.1 dX7_sell_128 (by decide) ?_
                          exact mr_zret X hr hlocks h dX7_sell_129 ⟨Nat.le_of_ble_eq_true rfl, Nat.le_of_ble_eq_true rfl⟩ (rfl) (MA.bad ((if_neg (by rw [iR_lt hi1 (by omega), iR_lt hi2 (by omega)]; decide)).trans ((if_neg (fun z => z (by rw [nI_ti (by omega)]; omega))).trans (if_neg (by rw [ix_nI (by omega), ix_nI (by omega)]; intro z; have := of_decide_eq_true z.1; omega)))) (by decide))
                      · skip
                        exact absurd c43 (by first | decide | omega)
                    · skip
                      have c42 := of_decide_eq_false c42
                      refine lv_iconst (v := nI (2)) X.1 X.2.1 dX7_sell_108 (by decide) ?_
                      refine lv_goto (tgt := 122) X.1 X.2.1 dX7_sell_109 (by decide) ?_
                      refine mr_callV X h ck_X7_93 ki_X7_fails ks_X7_fails dX7_sell_122 (As := [.int (nI (2))]) (c_X7_fails l G x ar N F B 2 (by omega)) rfl hl rfl (Nat.le_of_ble_eq_true rfl) ⟨Nat.le_of_ble_eq_true rfl, Nat.le_of_ble_eq_true rfl⟩ ⟨Nat.le_of_ble_eq_true rfl, Nat.le_of_ble_eq_true rfl⟩ ?_
                      rintro _ _ _ _ H locs ⟨rfl, rfl, rfl, rfl⟩ h
                      refine b_bool_eq (tgt := 130) X dX7_sell_125 (by decide) (fun c45 => ?_) (fun c45 => ?_)
                      · skip
                        exact absurd c45 (by first | decide | omega)
                      · skip
                        have c45 := of_decide_eq_true c45
                        refine lv_iconst (v := nI (0)) X.1 X.2.1 dX7_sell_128 (by decide) ?_
                        exact mr_zret X hr hlocks h dX7_sell_129 ⟨Nat.le_of_ble_eq_true rfl, Nat.le_of_ble_eq_true rfl⟩ (rfl) (MA.bad ((if_neg (by rw [iR_lt hi1 (by omega), iR_lt hi2 (by omega)]; decide)).trans (if_pos (by omega))) (by decide))
                  · skip
                    exact absurd c41 (by first | decide | omega)
                · skip
                  refine lv_iconst (v := nI (1)) X.1 X.2.1 dX7_sell_80 (by decide) ?_
                  refine lv_goto (tgt := 85) X.1 X.2.1 dX7_sell_81 (by decide) ?_
                  refine lv_istore (lv' := [(5, .int (nI (1))), (4, .int (nI (1))), (0, .ref x), (1, .int (nI (i1))), (2, .int (nI (i2))), (3, .int (z0))]) X.1 X.2.1 dX7_sell_85 hl (by decide) rfl (fun ls hl => ?_)
                  refine lv_aload_n X.1 X.2.1 dX7_sell_87 rfl (lv_at hl 2 rfl) ?_
                  refine lv_iload X.1 X.2.1 dX7_sell_88 (lv_at hl 1 rfl) ?_
                  refine b_if_ne (tgt := 97) X dX7_sell_90 (by decide) (a := ((1 : Nat) : Int)) (nI_ti (by omega)) (fun c46 => ?_) (fun c46 => ?_)
                  · skip
                    refine lv_iload_n X.1 X.2.1 dX7_sell_97 rfl (lv_at hl 5 rfl) ?_
                    refine lv_iconst (v := nI (0)) X.1 X.2.1 dX7_sell_98 (by decide) ?_
                    refine lv_sipush (v := nI (10000)) X.1 X.2.1 dX7_sell_99 (by decide) ?_
                    refine mr_callS X h ck_X7_86 kst_X7_isIn dX7_sell_102 (As := [.int (z0), .int (nI (0)), .int (nI (10000))]) (c_X7_isIn l G x ar N F B (z0) (nI (0)) (nI (10000))) rfl hl rfl (Nat.le_of_ble_eq_true rfl) ⟨Nat.le_of_ble_eq_true rfl, Nat.le_of_ble_eq_true rfl⟩ ⟨Nat.le_of_ble_eq_true rfl, Nat.le_of_ble_eq_true rfl⟩ ?_
                    rintro _ _ _ _ H locs ⟨rfl, rfl, rfl, rfl⟩ h
                    refine lv_top (y := bI (decide (((0 : Nat) : Int) ≤ (z0).toInt ∧ (z0).toInt ≤ ((10000 : Nat) : Int)))) (by rw [show (z0).toInt = (z0).toInt from rfl, show (nI (0)).toInt = ((0 : Nat) : Int) from nI_ti (by omega), show (nI (10000)).toInt = ((10000 : Nat) : Int) from nI_ti (by omega)]) ?_
                    refine b_bool_ne (tgt := 112) X dX7_sell_105 (by decide) (fun c47 => ?_) (fun c47 => ?_)
                    · skip
                      have c47 := of_decide_eq_true c47
                      obtain ⟨i3, hi3l, hi3, rfl⟩ := in_t 0 (n := 10000) c47 (by omega)
                      refine lv_iload X.1 X.2.1 dX7_sell_112 (lv_at hl 0 rfl) ?_
                      refine b_if_eq (tgt := 121) X dX7_sell_114 (by decide) (a := ((1 : Nat) : Int)) (nI_ti (by omega)) (fun c48 => ?_) (fun c48 => ?_)
                      · skip
                        exact absurd c48 (by first | decide | omega)
                      · skip
                        refine lv_iconst (v := nI (0)) X.1 X.2.1 dX7_sell_117 (by decide) ?_
                        refine lv_goto (tgt := 122) X.1 X.2.1 dX7_sell_118 (by decide) ?_
                        refine mr_callV X h ck_X7_93 ki_X7_fails ks_X7_fails dX7_sell_122 (As := [.int (nI (0))]) (c_X7_fails l G x ar N F B 0 (by omega)) rfl hl rfl (Nat.le_of_ble_eq_true rfl) ⟨Nat.le_of_ble_eq_true rfl, Nat.le_of_ble_eq_true rfl⟩ ⟨Nat.le_of_ble_eq_true rfl, Nat.le_of_ble_eq_true rfl⟩ ?_
                        rintro _ _ _ _ H locs ⟨rfl, rfl, rfl, rfl⟩ h
                        refine b_bool_eq (tgt := 130) X dX7_sell_125 (by decide) (fun c49 => ?_) (fun c49 => ?_)
                        · skip
                          have c49 := of_decide_eq_false c49
                          refine lv_aload_n X.1 X.2.1 dX7_sell_130 rfl (lv_at hl 2 rfl) ?_
                          refine mr_get X h kf_X7_7 (by decide) dX7_sell_131 rfl ?_
                          refine lv_aload_n X.1 X.2.1 dX7_sell_134 rfl (lv_at hl 2 rfl) ?_
                          refine mr_get X h kf_X7_46 (by decide) dX7_sell_135 rfl ?_
                          refine lv_iload_n X.1 X.2.1 dX7_sell_138 rfl (lv_at hl 3 rfl) ?_
                          refine mr_ald X h 17 rfl dX7_sell_139 (i := i1) (v := nI (F 17 (i1)) - 1) rfl (by show _ < 36; omega) rfl ?_
                          have b50 := hI.k (k := i1) (by omega)
                          refine mr_ald X h 2 rfl dX7_sell_140 (i := F 17 (i1) - 1) (v := nI (F 2 (F 17 (i1) - 1)) - 1) (eI_pos (by omega)) (by show _ < 16; omega) rfl ?_
                          have b51 := hI.p (F 17 (i1) - 1)
                          refine lv_iconst (v := nI (0) - 1) X.1 X.2.1 dX7_sell_141 (by decide) ?_
                          refine b_icmp_ne (tgt := 159) X dX7_sell_142 (by decide) (a := ((F 2 (F 17 (i1) - 1) : Nat) : Int) - 1) (b := ((0 : Nat) : Int) - 1) (eI_ti (by omega)) (eI_ti (by omega)) (fun c52 => ?_) (fun c52 => ?_)
                          · skip
                            refine lv_iconst (v := nI (0)) X.1 X.2.1 dX7_sell_159 (by decide) ?_
                            refine lv_istore (lv' := [(6, .int (nI (0))), (5, .int (nI (1))), (4, .int (nI (1))), (0, .ref x), (1, .int (nI (i1))), (2, .int (nI (i2))), (3, .int (nI (i3)))]) X.1 X.2.1 dX7_sell_160 hl (by decide) rfl (fun ls hl => ?_)
                            refine lv_bipush (v := nI (20)) X.1 X.2.1 dX7_sell_162 (by decide) ?_
                            refine lv_iload_n X.1 X.2.1 dX7_sell_164 rfl (lv_at hl 4 rfl) ?_
                            refine lv_imul X.1 X.2.1 dX7_sell_165 ?_
                            refine lv_top (y := nI (20 * i1)) (pk_mul _ _) ?_
                            refine lv_aload_n X.1 X.2.1 dX7_sell_166 rfl (lv_at hl 3 rfl) ?_
                            refine mr_get X h kf_X7_58 (by decide) dX7_sell_167 rfl ?_
                            refine lv_iload_n X.1 X.2.1 dX7_sell_170 rfl (lv_at hl 4 rfl) ?_
                            refine mr_ald X h 21 rfl dX7_sell_171 (i := i1) (v := nI (F 21 (i1))) rfl (by show _ < 36; omega) rfl ?_
                            have b53 := hI.k (k := i1) (by omega)
                            refine lv_iadd X.1 X.2.1 dX7_sell_172 ?_
                            refine lv_top (y := nI (20 * i1 + (F 21 (i1)))) (nI_add _ _) ?_
                            refine lv_istore (lv' := [(7, .int (nI (20 * i1 + (F 21 (i1))))), (6, .int (nI (0))), (5, .int (nI (1))), (4, .int (nI (1))), (0, .ref x), (1, .int (nI (i1))), (2, .int (nI (i2))), (3, .int (nI (i3)))]) X.1 X.2.1 dX7_sell_173 hl (by decide) rfl (fun ls hl => ?_)
                            refine lv_aload_n X.1 X.2.1 dX7_sell_175 rfl (lv_at hl 4 rfl) ?_
                            refine mr_get X h kf_X7_61 (by decide) dX7_sell_176 rfl ?_
                            refine lv_iload X.1 X.2.1 dX7_sell_179 (lv_at hl 0 rfl) ?_
                            refine lv_aload_n X.1 X.2.1 dX7_sell_181 rfl (lv_at hl 4 rfl) ?_
                            refine mr_get X h kf_X7_46 (by decide) dX7_sell_182 rfl ?_
                            refine lv_iload_n X.1 X.2.1 dX7_sell_185 rfl (lv_at hl 5 rfl) ?_
                            refine mr_ald X h 17 rfl dX7_sell_186 (i := i1) (v := nI (F 17 (i1)) - 1) rfl (by show _ < 36; omega) rfl ?_
                            have b54 := hI.k (k := i1) (by omega)
                            refine mr_ast X h 22 rfl (by decide) dX7_sell_187 (i := 20 * i1 + (F 21 (i1))) (v := F 17 (i1) - 1) rfl (by show _ < 720; omega) (eI_pos (by omega)) (fun H locs h => ?_)
                            refine lv_aload_n X.1 X.2.1 dX7_sell_188 rfl (lv_at hl 4 rfl) ?_
                            refine mr_get X h kf_X7_64 (by decide) dX7_sell_189 rfl ?_
                            refine lv_iload X.1 X.2.1 dX7_sell_192 (lv_at hl 0 rfl) ?_
                            refine lv_iload_n X.1 X.2.1 dX7_sell_194 rfl (lv_at hl 6 rfl) ?_
                            refine mr_ast X h 23 rfl (by decide) dX7_sell_195 (i := 20 * i1 + (F 21 (i1))) (v := i2) rfl (by show _ < 720; omega) rfl (fun H locs h => ?_)
                            refine lv_aload_n X.1 X.2.1 dX7_sell_196 rfl (lv_at hl 4 rfl) ?_
                            refine mr_get X h kf_X7_67 (by decide) dX7_sell_197 rfl ?_
                            refine lv_iload X.1 X.2.1 dX7_sell_200 (lv_at hl 0 rfl) ?_
                            refine lv_iload_n X.1 X.2.1 dX7_sell_202 rfl (lv_at hl 7 rfl) ?_
                            refine mr_ast X h 24 rfl (by decide) dX7_sell_203 (i := 20 * i1 + (F 21 (i1))) (v := i3) rfl (by show _ < 720; omega) rfl (fun H locs h => ?_)
                            refine lv_aload_n X.1 X.2.1 dX7_sell_204 rfl (lv_at hl 4 rfl) ?_
                            refine mr_get X h kf_X7_55 (by decide) dX7_sell_205 rfl ?_
                            refine lv_iload_n X.1 X.2.1 dX7_sell_208 rfl (lv_at hl 5 rfl) ?_
                            refine lv_iload X.1 X.2.1 dX7_sell_209 (lv_at hl 1 rfl) ?_
                            refine b_if_eq (tgt := 233) X dX7_sell_211 (by decide) (a := ((0 : Nat) : Int)) (nI_ti (by omega)) (fun c55 => ?_) (fun c55 => ?_)
                            · skip
                              refine lv_aload_n X.1 X.2.1 dX7_sell_233 rfl (lv_at hl 4 rfl) ?_
                              refine mr_get X h kf_X7_55 (by decide) dX7_sell_234 rfl ?_
                              refine lv_iload_n X.1 X.2.1 dX7_sell_237 rfl (lv_at hl 5 rfl) ?_
                              refine mr_ald X h 20 rfl dX7_sell_238 (i := i1) (v := nI (F 20 (i1)) - 1) rfl (by show _ < 36; omega) rfl ?_
                              refine mr_ast X h 20 rfl (by decide) dX7_sell_239 (i := i1) (v := F 20 (i1)) rfl (by show _ < 36; omega) rfl (fun H locs h => ?_)
                              refine lv_aload_n X.1 X.2.1 dX7_sell_240 rfl (lv_at hl 4 rfl) ?_
                              refine mr_get X h kf_X7_58 (by decide) dX7_sell_241 rfl ?_
                              refine lv_iload_n X.1 X.2.1 dX7_sell_244 rfl (lv_at hl 5 rfl) ?_
                              refine lv_dup2_11 X.1 X.2.1 dX7_sell_245 rfl rfl ?_
                              refine mr_ald X h 21 rfl dX7_sell_246 (i := i1) (v := nI (F 21 (i1))) rfl (by show _ < 36; omega) rfl ?_
                              have b56 := hI.k (k := i1) (by omega)
                              refine lv_iconst (v := nI (1)) X.1 X.2.1 dX7_sell_247 (by decide) ?_
                              refine lv_iadd X.1 X.2.1 dX7_sell_248 ?_
                              refine lv_top (y := nI (F 21 (i1) + 1)) (nI_add _ _) ?_
                              refine mr_ast X h 21 rfl (by decide) dX7_sell_249 (i := i1) (v := F 21 (i1) + 1) rfl (by show _ < 36; omega) rfl (fun H locs h => ?_)
                              refine lv_aload_n X.1 X.2.1 dX7_sell_250 rfl (lv_at hl 4 rfl) ?_
                              refine mr_get X h kf_X7_16 (by decide) dX7_sell_251 rfl ?_
                              refine lv_aload_n X.1 X.2.1 dX7_sell_254 rfl (lv_at hl 4 rfl) ?_
                              refine mr_get X h kf_X7_46 (by decide) dX7_sell_255 rfl ?_
                              refine lv_iload_n X.1 X.2.1 dX7_sell_258 rfl (lv_at hl 5 rfl) ?_
                              refine mr_ald X h 17 rfl dX7_sell_259 (i := i1) (v := nI (F 17 (i1)) - 1) rfl (by show _ < 36; omega) rfl ?_
                              have b57 := hI.k (k := i1) (by omega)
                              refine lv_dup2_11 X.1 X.2.1 dX7_sell_260 rfl rfl ?_
                              refine mr_ald X h 4 rfl dX7_sell_261 (i := F 17 (i1) - 1) (v := B (F 17 (i1) - 1)) (eI_pos (by omega)) (by show _ < 16; omega) rfl ?_
                              refine lv_iload_n X.1 X.2.1 dX7_sell_262 rfl (lv_at hl 7 rfl) ?_
                              refine lv_iadd X.1 X.2.1 dX7_sell_263 ?_
                              refine mr_astB X h dX7_sell_264 (i := F 17 (i1) - 1) (eI_pos (by omega)) (by show _ < 16; omega) (fun H locs h => ?_)
                              refine lv_aload_n X.1 X.2.1 dX7_sell_265 rfl (lv_at hl 4 rfl) ?_
                              refine mr_get X h kf_X7_16 (by decide) dX7_sell_266 rfl ?_
                              refine lv_iload_n X.1 X.2.1 dX7_sell_269 rfl (lv_at hl 6 rfl) ?_
                              refine lv_dup2_11 X.1 X.2.1 dX7_sell_270 rfl rfl ?_
                              refine mr_ald X h 4 rfl dX7_sell_271 (i := i2) (v := (upd B (F 17 (i1) - 1) ((B (F 17 (i1) - 1)) + (nI (i3)))) (i2)) rfl (by show _ < 16; omega) rfl ?_
                              refine lv_iload_n X.1 X.2.1 dX7_sell_272 rfl (lv_at hl 7 rfl) ?_
                              refine lv_isub X.1 X.2.1 dX7_sell_273 ?_
                              refine mr_astB X h dX7_sell_274 (i := i2) rfl (by show _ < 16; omega) (fun H locs h => ?_)
                              refine lv_aload_n X.1 X.2.1 dX7_sell_275 rfl (lv_at hl 4 rfl) ?_
                              refine mr_get X h kf_X7_46 (by decide) dX7_sell_276 rfl ?_
                              refine lv_iload_n X.1 X.2.1 dX7_sell_279 rfl (lv_at hl 5 rfl) ?_
                              refine lv_iload_n X.1 X.2.1 dX7_sell_280 rfl (lv_at hl 6 rfl) ?_
                              refine mr_ast X h 17 rfl (by decide) dX7_sell_281 (i := i1) (v := i2 + 1) rfl (by show _ < 36; omega) (eI_suc _) (fun H locs h => ?_)
                              refine lv_aload_n X.1 X.2.1 dX7_sell_282 rfl (lv_at hl 4 rfl) ?_
                              refine mr_get X h kf_X7_49 (by decide) dX7_sell_283 rfl ?_
                              refine lv_iload_n X.1 X.2.1 dX7_sell_286 rfl (lv_at hl 5 rfl) ?_
                              refine lv_iconst (v := nI (0) - 1) X.1 X.2.1 dX7_sell_287 (by decide) ?_
                              refine mr_ast X h 18 rfl (by decide) dX7_sell_288 (i := i1) (v := 0) rfl (by show _ < 36; omega) rfl (fun H locs h => ?_)
                              refine lv_iload X.1 X.2.1 dX7_sell_289 (lv_at hl 1 rfl) ?_
                              have hf : faithS F i1 i2 = false := decide_eq_false (by omega)
                              have hv : (if faithS F i1 i2 = true ∧ F 20 i1 = 0 then F 21 i1 + 1 else F 20 i1) = F 20 (i1) := by rw [hf]; first | exact if_pos ⟨rfl, by omega⟩ | exact if_neg (fun z => by have := z.2; omega) | exact if_neg (fun z => absurd z.1 (by decide))
                              exact mr_zret X hr hlocks h dX7_sell_291 ⟨Nat.le_of_ble_eq_true rfl, Nat.le_of_ble_eq_true rfl⟩ (rfl) (MA.ok ((if_neg (by rw [iR_lt hi1 (by omega), iR_lt hi2 (by omega)]; decide)).trans ((if_neg (fun z => z (by rw [nI_ti (by omega)]; omega))).trans (if_pos (by rw [ix_nI (by omega), ix_nI (by omega)]; exact ⟨decide_eq_true (by omega), by omega⟩)))) (by rw [ix_nI (by omega), ix_nI (by omega), hf]; rfl) rfl (fun k h1 h2 => by simp [va_up, h1, h2]) (by rw [ix_nI (by omega), ix_nI (by omega), ix_nI (by omega), fSell, hv]; exact SF.rf _) (by rw [ix_nI (by omega), ix_nI (by omega), ix_nI (by omega)]; rfl))
                            · skip
                              exact absurd c55 (by first | decide | omega)
                          · skip
                            refine lv_aload_n X.1 X.2.1 dX7_sell_145 rfl (lv_at hl 2 rfl) ?_
                            refine mr_get X h kf_X7_7 (by decide) dX7_sell_146 rfl ?_
                            refine lv_iload_n X.1 X.2.1 dX7_sell_149 rfl (lv_at hl 4 rfl) ?_
                            refine mr_ald X h 2 rfl dX7_sell_150 (i := i2) (v := nI (F 2 (i2)) - 1) rfl (by show _ < 16; omega) rfl ?_
                            have b58 := hI.p i2
                            refine lv_iconst (v := nI (0) - 1) X.1 X.2.1 dX7_sell_151 (by decide) ?_
                            refine b_icmp_ne (tgt := 159) X dX7_sell_152 (by decide) (a := ((F 2 (i2) : Nat) : Int) - 1) (b := ((0 : Nat) : Int) - 1) (eI_ti (by omega)) (eI_ti (by omega)) (fun c59 => ?_) (fun c59 => ?_)
                            · skip
                              refine lv_iconst (v := nI (0)) X.1 X.2.1 dX7_sell_159 (by decide) ?_
                              refine lv_istore (lv' := [(6, .int (nI (0))), (5, .int (nI (1))), (4, .int (nI (1))), (0, .ref x), (1, .int (nI (i1))), (2, .int (nI (i2))), (3, .int (nI (i3)))]) X.1 X.2.1 dX7_sell_160 hl (by decide) rfl (fun ls hl => ?_)
                              refine lv_bipush (v := nI (20)) X.1 X.2.1 dX7_sell_162 (by decide) ?_
                              refine lv_iload_n X.1 X.2.1 dX7_sell_164 rfl (lv_at hl 4 rfl) ?_
                              refine lv_imul X.1 X.2.1 dX7_sell_165 ?_
                              refine lv_top (y := nI (20 * i1)) (pk_mul _ _) ?_
                              refine lv_aload_n X.1 X.2.1 dX7_sell_166 rfl (lv_at hl 3 rfl) ?_
                              refine mr_get X h kf_X7_58 (by decide) dX7_sell_167 rfl ?_
                              refine lv_iload_n X.1 X.2.1 dX7_sell_170 rfl (lv_at hl 4 rfl) ?_
                              refine mr_ald X h 21 rfl dX7_sell_171 (i := i1) (v := nI (F 21 (i1))) rfl (by show _ < 36; omega) rfl ?_
                              have b60 := hI.k (k := i1) (by omega)
                              refine lv_iadd X.1 X.2.1 dX7_sell_172 ?_
                              refine lv_top (y := nI (20 * i1 + (F 21 (i1)))) (nI_add _ _) ?_
                              refine lv_istore (lv' := [(7, .int (nI (20 * i1 + (F 21 (i1))))), (6, .int (nI (0))), (5, .int (nI (1))), (4, .int (nI (1))), (0, .ref x), (1, .int (nI (i1))), (2, .int (nI (i2))), (3, .int (nI (i3)))]) X.1 X.2.1 dX7_sell_173 hl (by decide) rfl (fun ls hl => ?_)
                              refine lv_aload_n X.1 X.2.1 dX7_sell_175 rfl (lv_at hl 4 rfl) ?_
                              refine mr_get X h kf_X7_61 (by decide) dX7_sell_176 rfl ?_
                              refine lv_iload X.1 X.2.1 dX7_sell_179 (lv_at hl 0 rfl) ?_
                              refine lv_aload_n X.1 X.2.1 dX7_sell_181 rfl (lv_at hl 4 rfl) ?_
                              refine mr_get X h kf_X7_46 (by decide) dX7_sell_182 rfl ?_
                              refine lv_iload_n X.1 X.2.1 dX7_sell_185 rfl (lv_at hl 5 rfl) ?_
                              refine mr_ald X h 17 rfl dX7_sell_186 (i := i1) (v := nI (F 17 (i1)) - 1) rfl (by show _ < 36; omega) rfl ?_
                              have b61 := hI.k (k := i1) (by omega)
                              refine mr_ast X h 22 rfl (by decide) dX7_sell_187 (i := 20 * i1 + (F 21 (i1))) (v := F 17 (i1) - 1) rfl (by show _ < 720; omega) (eI_pos (by omega)) (fun H locs h => ?_)
                              refine lv_aload_n X.1 X.2.1 dX7_sell_188 rfl (lv_at hl 4 rfl) ?_
                              refine mr_get X h kf_X7_64 (by decide) dX7_sell_189 rfl ?_
                              refine lv_iload X.1 X.2.1 dX7_sell_192 (lv_at hl 0 rfl) ?_
                              refine lv_iload_n X.1 X.2.1 dX7_sell_194 rfl (lv_at hl 6 rfl) ?_
                              refine mr_ast X h 23 rfl (by decide) dX7_sell_195 (i := 20 * i1 + (F 21 (i1))) (v := i2) rfl (by show _ < 720; omega) rfl (fun H locs h => ?_)
                              refine lv_aload_n X.1 X.2.1 dX7_sell_196 rfl (lv_at hl 4 rfl) ?_
                              refine mr_get X h kf_X7_67 (by decide) dX7_sell_197 rfl ?_
                              refine lv_iload X.1 X.2.1 dX7_sell_200 (lv_at hl 0 rfl) ?_
                              refine lv_iload_n X.1 X.2.1 dX7_sell_202 rfl (lv_at hl 7 rfl) ?_
                              refine mr_ast X h 24 rfl (by decide) dX7_sell_203 (i := 20 * i1 + (F 21 (i1))) (v := i3) rfl (by show _ < 720; omega) rfl (fun H locs h => ?_)
                              refine lv_aload_n X.1 X.2.1 dX7_sell_204 rfl (lv_at hl 4 rfl) ?_
                              refine mr_get X h kf_X7_55 (by decide) dX7_sell_205 rfl ?_
                              refine lv_iload_n X.1 X.2.1 dX7_sell_208 rfl (lv_at hl 5 rfl) ?_
                              refine lv_iload X.1 X.2.1 dX7_sell_209 (lv_at hl 1 rfl) ?_
                              refine b_if_eq (tgt := 233) X dX7_sell_211 (by decide) (a := ((0 : Nat) : Int)) (nI_ti (by omega)) (fun c62 => ?_) (fun c62 => ?_)
                              · skip
                                refine lv_aload_n X.1 X.2.1 dX7_sell_233 rfl (lv_at hl 4 rfl) ?_
                                refine mr_get X h kf_X7_55 (by decide) dX7_sell_234 rfl ?_
                                refine lv_iload_n X.1 X.2.1 dX7_sell_237 rfl (lv_at hl 5 rfl) ?_
                                refine mr_ald X h 20 rfl dX7_sell_238 (i := i1) (v := nI (F 20 (i1)) - 1) rfl (by show _ < 36; omega) rfl ?_
                                refine mr_ast X h 20 rfl (by decide) dX7_sell_239 (i := i1) (v := F 20 (i1)) rfl (by show _ < 36; omega) rfl (fun H locs h => ?_)
                                refine lv_aload_n X.1 X.2.1 dX7_sell_240 rfl (lv_at hl 4 rfl) ?_
                                refine mr_get X h kf_X7_58 (by decide) dX7_sell_241 rfl ?_
                                refine lv_iload_n X.1 X.2.1 dX7_sell_244 rfl (lv_at hl 5 rfl) ?_
                                refine lv_dup2_11 X.1 X.2.1 dX7_sell_245 rfl rfl ?_
                                refine mr_ald X h 21 rfl dX7_sell_246 (i := i1) (v := nI (F 21 (i1))) rfl (by show _ < 36; omega) rfl ?_
                                have b63 := hI.k (k := i1) (by omega)
                                refine lv_iconst (v := nI (1)) X.1 X.2.1 dX7_sell_247 (by decide) ?_
                                refine lv_iadd X.1 X.2.1 dX7_sell_248 ?_
                                refine lv_top (y := nI (F 21 (i1) + 1)) (nI_add _ _) ?_
                                refine mr_ast X h 21 rfl (by decide) dX7_sell_249 (i := i1) (v := F 21 (i1) + 1) rfl (by show _ < 36; omega) rfl (fun H locs h => ?_)
                                refine lv_aload_n X.1 X.2.1 dX7_sell_250 rfl (lv_at hl 4 rfl) ?_
                                refine mr_get X h kf_X7_16 (by decide) dX7_sell_251 rfl ?_
                                refine lv_aload_n X.1 X.2.1 dX7_sell_254 rfl (lv_at hl 4 rfl) ?_
                                refine mr_get X h kf_X7_46 (by decide) dX7_sell_255 rfl ?_
                                refine lv_iload_n X.1 X.2.1 dX7_sell_258 rfl (lv_at hl 5 rfl) ?_
                                refine mr_ald X h 17 rfl dX7_sell_259 (i := i1) (v := nI (F 17 (i1)) - 1) rfl (by show _ < 36; omega) rfl ?_
                                have b64 := hI.k (k := i1) (by omega)
                                refine lv_dup2_11 X.1 X.2.1 dX7_sell_260 rfl rfl ?_
                                refine mr_ald X h 4 rfl dX7_sell_261 (i := F 17 (i1) - 1) (v := B (F 17 (i1) - 1)) (eI_pos (by omega)) (by show _ < 16; omega) rfl ?_
                                refine lv_iload_n X.1 X.2.1 dX7_sell_262 rfl (lv_at hl 7 rfl) ?_
                                refine lv_iadd X.1 X.2.1 dX7_sell_263 ?_
                                refine mr_astB X h dX7_sell_264 (i := F 17 (i1) - 1) (eI_pos (by omega)) (by show _ < 16; omega) (fun H locs h => ?_)
                                refine lv_aload_n X.1 X.2.1 dX7_sell_265 rfl (lv_at hl 4 rfl) ?_
                                refine mr_get X h kf_X7_16 (by decide) dX7_sell_266 rfl ?_
                                refine lv_iload_n X.1 X.2.1 dX7_sell_269 rfl (lv_at hl 6 rfl) ?_
                                refine lv_dup2_11 X.1 X.2.1 dX7_sell_270 rfl rfl ?_
                                refine mr_ald X h 4 rfl dX7_sell_271 (i := i2) (v := (upd B (F 17 (i1) - 1) ((B (F 17 (i1) - 1)) + (nI (i3)))) (i2)) rfl (by show _ < 16; omega) rfl ?_
                                refine lv_iload_n X.1 X.2.1 dX7_sell_272 rfl (lv_at hl 7 rfl) ?_
                                refine lv_isub X.1 X.2.1 dX7_sell_273 ?_
                                refine mr_astB X h dX7_sell_274 (i := i2) rfl (by show _ < 16; omega) (fun H locs h => ?_)
                                refine lv_aload_n X.1 X.2.1 dX7_sell_275 rfl (lv_at hl 4 rfl) ?_
                                refine mr_get X h kf_X7_46 (by decide) dX7_sell_276 rfl ?_
                                refine lv_iload_n X.1 X.2.1 dX7_sell_279 rfl (lv_at hl 5 rfl) ?_
                                refine lv_iload_n X.1 X.2.1 dX7_sell_280 rfl (lv_at hl 6 rfl) ?_
                                refine mr_ast X h 17 rfl (by decide) dX7_sell_281 (i := i1) (v := i2 + 1) rfl (by show _ < 36; omega) (eI_suc _) (fun H locs h => ?_)
                                refine lv_aload_n X.1 X.2.1 dX7_sell_282 rfl (lv_at hl 4 rfl) ?_
                                refine mr_get X h kf_X7_49 (by decide) dX7_sell_283 rfl ?_
                                refine lv_iload_n X.1 X.2.1 dX7_sell_286 rfl (lv_at hl 5 rfl) ?_
                                refine lv_iconst (v := nI (0) - 1) X.1 X.2.1 dX7_sell_287 (by decide) ?_
                                refine mr_ast X h 18 rfl (by decide) dX7_sell_288 (i := i1) (v := 0) rfl (by show _ < 36; omega) rfl (fun H locs h => ?_)
                                refine lv_iload X.1 X.2.1 dX7_sell_289 (lv_at hl 1 rfl) ?_
                                have hf : faithS F i1 i2 = false := decide_eq_false (by omega)
                                have hv : (if faithS F i1 i2 = true ∧ F 20 i1 = 0 then F 21 i1 + 1 else F 20 i1) = F 20 (i1) := by rw [hf]; first | exact if_pos ⟨rfl, by omega⟩ | exact if_neg (fun z => by have := z.2; omega) | exact if_neg (fun z => absurd z.1 (by decide))
                                exact mr_zret X hr hlocks h dX7_sell_291 ⟨Nat.le_of_ble_eq_true rfl, Nat.le_of_ble_eq_true rfl⟩ (rfl) (MA.ok ((if_neg (by rw [iR_lt hi1 (by omega), iR_lt hi2 (by omega)]; decide)).trans ((if_neg (fun z => z (by rw [nI_ti (by omega)]; omega))).trans (if_pos (by rw [ix_nI (by omega), ix_nI (by omega)]; exact ⟨decide_eq_true (by omega), by omega⟩)))) (by rw [ix_nI (by omega), ix_nI (by omega), hf]; rfl) rfl (fun k h1 h2 => by simp [va_up, h1, h2]) (by rw [ix_nI (by omega), ix_nI (by omega), ix_nI (by omega), fSell, hv]; exact SF.rf _) (by rw [ix_nI (by omega), ix_nI (by omega), ix_nI (by omega)]; rfl))
                              · skip
                                exact absurd c62 (by first | decide | omega)
                            · skip
                              refine lv_iconst (v := nI (1)) X.1 X.2.1 dX7_sell_155 (by decide) ?_
                              refine lv_goto (tgt := 160) X.1 X.2.1 dX7_sell_156 (by decide) ?_
                              refine lv_istore (lv' := [(6, .int (nI (1))), (5, .int (nI (1))), (4, .int (nI (1))), (0, .ref x), (1, .int (nI (i1))), (2, .int (nI (i2))), (3, .int (nI (i3)))]) X.1 X.2.1 dX7_sell_160 hl (by decide) rfl (fun ls hl => ?_)
                              refine lv_bipush (v := nI (20)) X.1 X.2.1 dX7_sell_162 (by decide) ?_
                              refine lv_iload_n X.1 X.2.1 dX7_sell_164 rfl (lv_at hl 4 rfl) ?_
                              refine lv_imul X.1 X.2.1 dX7_sell_165 ?_
                              refine lv_top (y := nI (20 * i1)) (pk_mul _ _) ?_
                              refine lv_aload_n X.1 X.2.1 dX7_sell_166 rfl (lv_at hl 3 rfl) ?_
                              refine mr_get X h kf_X7_58 (by decide) dX7_sell_167 rfl ?_
                              refine lv_iload_n X.1 X.2.1 dX7_sell_170 rfl (lv_at hl 4 rfl) ?_
                              refine mr_ald X h 21 rfl dX7_sell_171 (i := i1) (v := nI (F 21 (i1))) rfl (by show _ < 36; omega) rfl ?_
                              have b65 := hI.k (k := i1) (by omega)
                              refine lv_iadd X.1 X.2.1 dX7_sell_172 ?_
                              refine lv_top (y := nI (20 * i1 + (F 21 (i1)))) (nI_add _ _) ?_
                              refine lv_istore (lv' := [(7, .int (nI (20 * i1 + (F 21 (i1))))), (6, .int (nI (1))), (5, .int (nI (1))), (4, .int (nI (1))), (0, .ref x), (1, .int (nI (i1))), (2, .int (nI (i2))), (3, .int (nI (i3)))]) X.1 X.2.1 dX7_sell_173 hl (by decide) rfl (fun ls hl => ?_)
                              refine lv_aload_n X.1 X.2.1 dX7_sell_175 rfl (lv_at hl 4 rfl) ?_
                              refine mr_get X h kf_X7_61 (by decide) dX7_sell_176 rfl ?_
                              refine lv_iload X.1 X.2.1 dX7_sell_179 (lv_at hl 0 rfl) ?_
                              refine lv_aload_n X.1 X.2.1 dX7_sell_181 rfl (lv_at hl 4 rfl) ?_
                              refine mr_get X h kf_X7_46 (by decide) dX7_sell_182 rfl ?_
                              refine lv_iload_n X.1 X.2.1 dX7_sell_185 rfl (lv_at hl 5 rfl) ?_
                              refine mr_ald X h 17 rfl dX7_sell_186 (i := i1) (v := nI (F 17 (i1)) - 1) rfl (by show _ < 36; omega) rfl ?_
                              have b66 := hI.k (k := i1) (by omega)
                              refine mr_ast X h 22 rfl (by decide) dX7_sell_187 (i := 20 * i1 + (F 21 (i1))) (v := F 17 (i1) - 1) rfl (by show _ < 720; omega) (eI_pos (by omega)) (fun H locs h => ?_)
                              refine lv_aload_n X.1 X.2.1 dX7_sell_188 rfl (lv_at hl 4 rfl) ?_
                              refine mr_get X h kf_X7_64 (by decide) dX7_sell_189 rfl ?_
                              refine lv_iload X.1 X.2.1 dX7_sell_192 (lv_at hl 0 rfl) ?_
                              refine lv_iload_n X.1 X.2.1 dX7_sell_194 rfl (lv_at hl 6 rfl) ?_
                              refine mr_ast X h 23 rfl (by decide) dX7_sell_195 (i := 20 * i1 + (F 21 (i1))) (v := i2) rfl (by show _ < 720; omega) rfl (fun H locs h => ?_)
                              refine lv_aload_n X.1 X.2.1 dX7_sell_196 rfl (lv_at hl 4 rfl) ?_
                              refine mr_get X h kf_X7_67 (by decide) dX7_sell_197 rfl ?_
                              refine lv_iload X.1 X.2.1 dX7_sell_200 (lv_at hl 0 rfl) ?_
                              refine lv_iload_n X.1 X.2.1 dX7_sell_202 rfl (lv_at hl 7 rfl) ?_
                              refine mr_ast X h 24 rfl (by decide) dX7_sell_203 (i := 20 * i1 + (F 21 (i1))) (v := i3) rfl (by show _ < 720; omega) rfl (fun H locs h => ?_)
                              refine lv_aload_n X.1 X.2.1 dX7_sell_204 rfl (lv_at hl 4 rfl) ?_
                              refine mr_get X h kf_X7_55 (by decide) dX7_sell_205 rfl ?_
                              refine lv_iload_n X.1 X.2.1 dX7_sell_208 rfl (lv_at hl 5 rfl) ?_
                              refine lv_iload X.1 X.2.1 dX7_sell_209 (lv_at hl 1 rfl) ?_
                              refine b_if_eq (tgt := 233) X dX7_sell_211 (by decide) (a := ((1 : Nat) : Int)) (nI_ti (by omega)) (fun c67 => ?_) (fun c67 => ?_)
                              · skip
                                exact absurd c67 (by first | decide | omega)
                              · skip
                                refine lv_aload_n X.1 X.2.1 dX7_sell_214 rfl (lv_at hl 4 rfl) ?_
                                refine mr_get X h kf_X7_55 (by decide) dX7_sell_215 rfl ?_
                                refine lv_iload_n X.1 X.2.1 dX7_sell_218 rfl (lv_at hl 5 rfl) ?_
                                refine mr_ald X h 20 rfl dX7_sell_219 (i := i1) (v := nI (F 20 (i1)) - 1) rfl (by show _ < 36; omega) rfl ?_
                                refine lv_iconst (v := nI (0) - 1) X.1 X.2.1 dX7_sell_220 (by decide) ?_
                                refine b_icmp_ne (tgt := 233) X dX7_sell_221 (by decide) (a := ((F 20 (i1) : Nat) : Int) - 1) (b := ((0 : Nat) : Int) - 1) (eI_ti (by omega)) (eI_ti (by omega)) (fun c68 => ?_) (fun c68 => ?_)
                                · skip
                                  refine lv_aload_n X.1 X.2.1 dX7_sell_233 rfl (lv_at hl 4 rfl) ?_
                                  refine mr_get X h kf_X7_55 (by decide) dX7_sell_234 rfl ?_
                                  refine lv_iload_n X.1 X.2.1 dX7_sell_237 rfl (lv_at hl 5 rfl) ?_
                                  refine mr_ald X h 20 rfl dX7_sell_238 (i := i1) (v := nI (F 20 (i1)) - 1) rfl (by show _ < 36; omega) rfl ?_
                                  refine mr_ast X h 20 rfl (by decide) dX7_sell_239 (i := i1) (v := F 20 (i1)) rfl (by show _ < 36; omega) rfl (fun H locs h => ?_)
                                  refine lv_aload_n X.1 X.2.1 dX7_sell_240 rfl (lv_at hl 4 rfl) ?_
                                  refine mr_get X h kf_X7_58 (by decide) dX7_sell_241 rfl ?_
                                  refine lv_iload_n X.1 X.2.1 dX7_sell_244 rfl (lv_at hl 5 rfl) ?_
                                  refine lv_dup2_11 X.1 X.2.1 dX7_sell_245 rfl rfl ?_
                                  refine mr_ald X h 21 rfl dX7_sell_246 (i := i1) (v := nI (F 21 (i1))) rfl (by show _ < 36; omega) rfl ?_
                                  have b69 := hI.k (k := i1) (by omega)
                                  refine lv_iconst (v := nI (1)) X.1 X.2.1 dX7_sell_247 (by decide) ?_
                                  refine lv_iadd X.1 X.2.1 dX7_sell_248 ?_
                                  refine lv_top (y := nI (F 21 (i1) + 1)) (nI_add _ _) ?_
                                  refine mr_ast X h 21 rfl (by decide) dX7_sell_249 (i := i1) (v := F 21 (i1) + 1) rfl (by show _ < 36; omega) rfl (fun H locs h => ?_)
                                  refine lv_aload_n X.1 X.2.1 dX7_sell_250 rfl (lv_at hl 4 rfl) ?_
                                  refine mr_get X h kf_X7_16 (by decide) dX7_sell_251 rfl ?_
                                  refine lv_aload_n X.1 X.2.1 dX7_sell_254 rfl (lv_at hl 4 rfl) ?_
                                  refine mr_get X h kf_X7_46 (by decide) dX7_sell_255 rfl ?_
                                  refine lv_iload_n X.1 X.2.1 dX7_sell_258 rfl (lv_at hl 5 rfl) ?_
                                  refine mr_ald X h 17 rfl dX7_sell_259 (i := i1) (v := nI (F 17 (i1)) - 1) rfl (by show _ < 36; omega) rfl ?_
                                  have b70 := hI.k (k := i1) (by omega)
                                  refine lv_dup2_11 X.1 X.2.1 dX7_sell_260 rfl rfl ?_
                                  refine mr_ald X h 4 rfl dX7_sell_261 (i := F 17 (i1) - 1) (v := B (F 17 (i1) - 1)) (eI_pos (by omega)) (by show _ < 16; omega) rfl ?_
                                  refine lv_iload_n X.1 X.2.1 dX7_sell_262 rfl (lv_at hl 7 rfl) ?_
                                  refine lv_iadd X.1 X.2.1 dX7_sell_263 ?_
                                  refine mr_astB X h dX7_sell_264 (i := F 17 (i1) - 1) (eI_pos (by omega)) (by show _ < 16; omega) (fun H locs h => ?_)
                                  refine lv_aload_n X.1 X.2.1 dX7_sell_265 rfl (lv_at hl 4 rfl) ?_
                                  refine mr_get X h kf_X7_16 (by decide) dX7_sell_266 rfl ?_
                                  refine lv_iload_n X.1 X.2.1 dX7_sell_269 rfl (lv_at hl 6 rfl) ?_
                                  refine lv_dup2_11 X.1 X.2.1 dX7_sell_270 rfl rfl ?_
                                  refine mr_ald X h 4 rfl dX7_sell_271 (i := i2) (v := (upd B (F 17 (i1) - 1) ((B (F 17 (i1) - 1)) + (nI (i3)))) (i2)) rfl (by show _ < 16; omega) rfl ?_
                                  refine lv_iload_n X.1 X.2.1 dX7_sell_272 rfl (lv_at hl 7 rfl) ?_
                                  refine lv_isub X.1 X.2.1 dX7_sell_273 ?_
                                  refine mr_astB X h dX7_sell_274 (i := i2) rfl (by show _ < 16; omega) (fun H locs h => ?_)
                                  refine lv_aload_n X.1 X.2.1 dX7_sell_275 rfl (lv_at hl 4 rfl) ?_
                                  refine mr_get X h kf_X7_46 (by decide) dX7_sell_276 rfl ?_
                                  refine lv_iload_n X.1 X.2.1 dX7_sell_279 rfl (lv_at hl 5 rfl) ?_
                                  refine lv_iload_n X.1 X.2.1 dX7_sell_280 rfl (lv_at hl 6 rfl) ?_
                                  refine mr_ast X h 17 rfl (by decide) dX7_sell_281 (i := i1) (v := i2 + 1) rfl (by show _ < 36; omega) (eI_suc _) (fun H locs h => ?_)
                                  refine lv_aload_n X.1 X.2.1 dX7_sell_282 rfl (lv_at hl 4 rfl) ?_
                                  refine mr_get X h kf_X7_49 (by decide) dX7_sell_283 rfl ?_
                                  refine lv_iload_n X.1 X.2.1 dX7_sell_286 rfl (lv_at hl 5 rfl) ?_
                                  refine lv_iconst (v := nI (0) - 1) X.1 X.2.1 dX7_sell_287 (by decide) ?_
                                  refine mr_ast X h 18 rfl (by decide) dX7_sell_288 (i := i1) (v := 0) rfl (by show _ < 36; omega) rfl (fun H locs h => ?_)
                                  refine lv_iload X.1 X.2.1 dX7_sell_289 (lv_at hl 1 rfl) ?_
                                  have hf : faithS F i1 i2 = true := decide_eq_true (by omega)
                                  have hv : (if faithS F i1 i2 = true ∧ F 20 i1 = 0 then F 21 i1 + 1 else F 20 i1) = F 20 (i1) := by rw [hf]; first | exact if_pos ⟨rfl, by omega⟩ | exact if_neg (fun z => by have := z.2; omega) | exact if_neg (fun z => absurd z.1 (by decide))
                                  exact mr_zret X hr hlocks h dX7_sell_291 ⟨Nat.le_of_ble_eq_true rfl, Nat.le_of_ble_eq_true rfl⟩ (rfl) (MA.ok ((if_neg (by rw [iR_lt hi1 (by omega), iR_lt hi2 (by omega)]; decide)).trans ((if_neg (fun z => z (by rw [nI_ti (by omega)]; omega))).trans (if_pos (by rw [ix_nI (by omega), ix_nI (by omega)]; exact ⟨decide_eq_true (by omega), by omega⟩)))) (by rw [ix_nI (by omega), ix_nI (by omega), hf]; rfl) rfl (fun k h1 h2 => by simp [va_up, h1, h2]) (by rw [ix_nI (by omega), ix_nI (by omega), ix_nI (by omega), fSell, hv]; exact SF.rf _) (by rw [ix_nI (by omega), ix_nI (by omega), ix_nI (by omega)]; rfl))
                                · skip
                                  refine lv_aload_n X.1 X.2.1 dX7_sell_224 rfl (lv_at hl 4 rfl) ?_
                                  refine mr_get X h kf_X7_58 (by decide) dX7_sell_225 rfl ?_
                                  refine lv_iload_n X.1 X.2.1 dX7_sell_228 rfl (lv_at hl 5 rfl) ?_
                                  refine mr_ald X h 21 rfl dX7_sell_229 (i := i1) (v := nI (F 21 (i1))) rfl (by show _ < 36; omega) rfl ?_
                                  have b71 := hI.k (k := i1) (by omega)
                                  refine lv_goto (tgt := 239) X.1 X.2.1 dX7_sell_230 (by decide) ?_
                                  refine mr_ast X h 20 rfl (by decide) dX7_sell_239 (i := i1) (v := F 21 (i1) + 1) rfl (by show _ < 36; omega) (eI_suc _) (fun H locs h => ?_)
                                  refine lv_aload_n X.1 X.2.1 dX7_sell_240 rfl (lv_at hl 4 rfl) ?_
                                  refine mr_get X h kf_X7_58 (by decide) dX7_sell_241 rfl ?_
                                  refine lv_iload_n X.1 X.2.1 dX7_sell_244 rfl (lv_at hl 5 rfl) ?_
                                  refine lv_dup2_11 X.1 X.2.1 dX7_sell_245 rfl rfl ?_
                                  refine mr_ald X h 21 rfl dX7_sell_246 (i := i1) (v := nI (F 21 (i1))) rfl (by show _ < 36; omega) rfl ?_
                                  have b72 := hI.k (k := i1) (by omega)
                                  refine lv_iconst (v := nI (1)) X.1 X.2.1 dX7_sell_247 (by decide) ?_
                                  refine lv_iadd X.1 X.2.1 dX7_sell_248 ?_
                                  refine lv_top (y := nI (F 21 (i1) + 1)) (nI_add _ _) ?_
                                  refine mr_ast X h 21 rfl (by decide) dX7_sell_249 (i := i1) (v := F 21 (i1) + 1) rfl (by show _ < 36; omega) rfl (fun H locs h => ?_)
                                  refine lv_aload_n X.1 X.2.1 dX7_sell_250 rfl (lv_at hl 4 rfl) ?_
                                  refine mr_get X h kf_X7_16 (by decide) dX7_sell_251 rfl ?_
                                  refine lv_aload_n X.1 X.2.1 dX7_sell_254 rfl (lv_at hl 4 rfl) ?_
                                  refine mr_get X h kf_X7_46 (by decide) dX7_sell_255 rfl ?_
                                  refine lv_iload_n X.1 X.2.1 dX7_sell_258 rfl (lv_at hl 5 rfl) ?_
                                  refine mr_ald X h 17 rfl dX7_sell_259 (i := i1) (v := nI (F 17 (i1)) - 1) rfl (by show _ < 36; omega) rfl ?_
                                  have b73 := hI.k (k := i1) (by omega)
                                  refine lv_dup2_11 X.1 X.2.1 dX7_sell_260 rfl rfl ?_
                                  refine mr_ald X h 4 rfl dX7_sell_261 (i := F 17 (i1) - 1) (v := B (F 17 (i1) - 1)) (eI_pos (by omega)) (by show _ < 16; omega) rfl ?_
                                  refine lv_iload_n X.1 X.2.1 dX7_sell_262 rfl (lv_at hl 7 rfl) ?_
                                  refine lv_iadd X.1 X.2.1 dX7_sell_263 ?_
                                  refine mr_astB X h dX7_sell_264 (i := F 17 (i1) - 1) (eI_pos (by omega)) (by show _ < 16; omega) (fun H locs h => ?_)
                                  refine lv_aload_n X.1 X.2.1 dX7_sell_265 rfl (lv_at hl 4 rfl) ?_
                                  refine mr_get X h kf_X7_16 (by decide) dX7_sell_266 rfl ?_
                                  refine lv_iload_n X.1 X.2.1 dX7_sell_269 rfl (lv_at hl 6 rfl) ?_
                                  refine lv_dup2_11 X.1 X.2.1 dX7_sell_270 rfl rfl ?_
                                  refine mr_ald X h 4 rfl dX7_sell_271 (i := i2) (v := (upd B (F 17 (i1) - 1) ((B (F 17 (i1) - 1)) + (nI (i3)))) (i2)) rfl (by show _ < 16; omega) rfl ?_
                                  refine lv_iload_n X.1 X.2.1 dX7_sell_272 rfl (lv_at hl 7 rfl) ?_
                                  refine lv_isub X.1 X.2.1 dX7_sell_273 ?_
                                  refine mr_astB X h dX7_sell_274 (i := i2) rfl (by show _ < 16; omega) (fun H locs h => ?_)
                                  refine lv_aload_n X.1 X.2.1 dX7_sell_275 rfl (lv_at hl 4 rfl) ?_
                                  refine mr_get X h kf_X7_46 (by decide) dX7_sell_276 rfl ?_
                                  refine lv_iload_n X.1 X.2.1 dX7_sell_279 rfl (lv_at hl 5 rfl) ?_
                                  refine lv_iload_n X.1 X.2.1 dX7_sell_280 rfl (lv_at hl 6 rfl) ?_
                                  refine mr_ast X h 17 rfl (by decide) dX7_sell_281 (i := i1) (v := i2 + 1) rfl (by show _ < 36; omega) (eI_suc _) (fun H locs h => ?_)
                                  refine lv_aload_n X.1 X.2.1 dX7_sell_282 rfl (lv_at hl 4 rfl) ?_
                                  refine mr_get X h kf_X7_49 (by decide) dX7_sell_283 rfl ?_
                                  refine lv_iload_n X.1 X.2.1 dX7_sell_286 rfl (lv_at hl 5 rfl) ?_
                                  refine lv_iconst (v := nI (0) - 1) X.1 X.2.1 dX7_sell_287 (by decide) ?_
                                  refine mr_ast X h 18 rfl (by decide) dX7_sell_288 (i := i1) (v := 0) rfl (by show _ < 36; omega) rfl (fun H locs h => ?_)
                                  refine lv_iload X.1 X.2.1 dX7_sell_289 (lv_at hl 1 rfl) ?_
                                  have hf : faithS F i1 i2 = true := decide_eq_true (by omega)
                                  have hv : (if faithS F i1 i2 = true ∧ F 20 i1 = 0 then F 21 i1 + 1 else F 20 i1) = F 21 (i1) + 1 := by rw [hf]; first | exact if_pos ⟨rfl, by omega⟩ | exact if_neg (fun z => by have := z.2; omega) | exact if_neg (fun z => absurd z.1 (by decide))
                                  exact mr_zret X hr hlocks h dX7_sell_291 ⟨Nat.le_of_ble_eq_true rfl, Nat.le_of_ble_eq_true rfl⟩ (rfl) (MA.ok ((if_neg (by rw [iR_lt hi1 (by omega), iR_lt hi2 (by omega)]; decide)).trans ((if_neg (fun z => z (by rw [nI_ti (by omega)]; omega))).trans (if_pos (by rw [ix_nI (by omega), ix_nI (by omega)]; exact ⟨decide_eq_true (by omega), by omega⟩)))) (by rw [ix_nI (by omega), ix_nI (by omega), hf]; rfl) rfl (fun k h1 h2 => by simp [va_up, h1, h2]) (by rw [ix_nI (by omega), ix_nI (by omega), ix_nI (by omega), fSell, hv]; exact SF.rf _) (by rw [ix_nI (by omega), ix_nI (by omega), ix_nI (by omega)]; rfl))
                        · skip
                          exact absurd c49 (by first | decide | omega)
                    · skip
                      have c47 := of_decide_eq_false c47
                      refine lv_iconst (v := nI (2)) X.1 X.2.1 dX7_sell_108 (by decide) ?_
                      refine lv_goto (tgt := 122) X.1 X.2.1 dX7_sell_109 (by decide) ?_
                      refine mr_callV X h ck_X7_93 ki_X7_fails ks_X7_fails dX7_sell_122 (As := [.int (nI (2))]) (c_X7_fails l G x ar N F B 2 (by omega)) rfl hl rfl (Nat.le_of_ble_eq_true rfl) ⟨Nat.le_of_ble_eq_true rfl, Nat.le_of_ble_eq_true rfl⟩ ⟨Nat.le_of_ble_eq_true rfl, Nat.le_of_ble_eq_true rfl⟩ ?_
                      rintro _ _ _ _ H locs ⟨rfl, rfl, rfl, rfl⟩ h
                      refine b_bool_eq (tgt := 130) X dX7_sell_125 (by decide) (fun c74 => ?_) (fun c74 => ?_)
                      · skip
                        exact absurd c74 (by first | decide | omega)
                      · skip
                        have c74 := of_decide_eq_true c74
                        refine lv_iconst (v := nI (0)) X.1 X.2.1 dX7_sell_128 (by decide) ?_
                        exact mr_zret X hr hlocks h dX7_sell_129 ⟨Nat.le_of_ble_eq_true rfl, Nat.le_of_ble_eq_true rfl⟩ (rfl) (MA.bad ((if_neg (by rw [iR_lt hi1 (by omega), iR_lt hi2 (by omega)]; decide)).trans (if_pos (by omega))) (by decide))
                  · skip
                    exact absurd c46 (by first | decide | omega)
set_option maxHeartbeats 4000000 in
set_option maxRecDepth 100000 in
theorem c_X7_lend (l : Launch) (G : mG) (x : Nat) (ar N : Nat → Nat) (F : Nat → Nat → Nat) (B : Nat → Int32) (k0 : Int32) (p0 : Int32) (z0 : Int32) (hI : Iv N F) : MMet l yX7_lend cX7_lend 6 (some FieldType.int) ({ frames := 2, cells := 0, slots := 0, locals := 43 } : Room) G x ar [.ref x, .int (k0), .int (p0), .int (z0)] N F B (fun r N' F' B' => MA r N' F' B' (kLend N F k0 p0 z0) (nI (N 0 + ix z0 - 1)) (N) (fLend N F (ix k0) (ix p0) (ix z0)) (B) N F B) := by
  refine MMet.of (by decide) (Nat.le_of_ble_eq_true rfl) ?_
  intro p e s m args below meth c A ls X hr hlocks h hl
  have hl : lv_has ls 6 [(0, .ref x), (1, .int (k0)), (2, .int (p0)), (3, .int (z0))] := hl
  have hn := hI.n
  refine lv_aload_n X.1 X.2.1 dX7_lend_0 rfl (lv_at hl 0 rfl) ?_
  refine lv_iload_n X.1 X.2.1 dX7_lend_1 rfl (lv_at hl 1 rfl) ?_
  refine mr_callV X h ck_X7_136 ki_X7_isSkin ks_X7_isSkin dX7_lend_2 (As := [.int (k0)]) (c_X7_isSkin l G x ar N F B (k0) hI) rfl hl rfl (Nat.le_of_ble_eq_true rfl) ⟨Nat.le_of_ble_eq_true rfl, Nat.le_of_ble_eq_true rfl⟩ ⟨Nat.le_of_ble_eq_true rfl, Nat.le_of_ble_eq_true rfl⟩ ?_
  rintro _ _ _ _ H locs ⟨rfl, rfl, rfl, rfl⟩ h
  refine b_bool_eq (tgt := 20) X dX7_lend_5 (by decide) (fun c1 => ?_) (fun c1 => ?_)
  · skip
    refine lv_iconst (v := nI (0)) X.1 X.2.1 dX7_lend_20 (by decide) ?_
    refine lv_istore (lv' := [(4, .int (nI (0))), (0, .ref x), (1, .int (k0)), (2, .int (p0)), (3, .int (z0))]) X.1 X.2.1 dX7_lend_21 hl (by decide) rfl (fun ls hl => ?_)
    refine lv_iload X.1 X.2.1 dX7_lend_23 (lv_at hl 0 rfl) ?_
    refine b_if_eq (tgt := 73) X dX7_lend_25 (by decide) (a := ((0 : Nat) : Int)) (nI_ti (by omega)) (fun c2 => ?_) (fun c2 => ?_)
    · skip
      refine lv_iconst (v := nI (0)) X.1 X.2.1 dX7_lend_73 (by decide) ?_
      refine lv_istore (lv' := [(5, .int (nI (0))), (4, .int (nI (0))), (0, .ref x), (1, .int (k0)), (2, .int (p0)), (3, .int (z0))]) X.1 X.2.1 dX7_lend_74 hl (by decide) rfl (fun ls hl => ?_)
      refine lv_aload_n X.1 X.2.1 dX7_lend_76 rfl (lv_at hl 2 rfl) ?_
      refine lv_iload X.1 X.2.1 dX7_lend_77 (lv_at hl 1 rfl) ?_
      refine b_if_ne (tgt := 86) X dX7_lend_79 (by decide) (a := ((0 : Nat) : Int)) (nI_ti (by omega)) (fun c3 => ?_) (fun c3 => ?_)
      · skip
        exact absurd c3 (by first | decide | omega)
      · skip
        refine lv_iconst (v := nI (1)) X.1 X.2.1 dX7_lend_82 (by decide) ?_
        refine lv_goto (tgt := 110) X.1 X.2.1 dX7_lend_83 (by decide) ?_
        refine mr_callV X h ck_X7_93 ki_X7_fails ks_X7_fails dX7_lend_110 (As := [.int (nI (1))]) (c_X7_fails l G x ar N F B 1 (by omega)) rfl hl rfl (Nat.le_of_ble_eq_true rfl) ⟨Nat.le_of_ble_eq_true rfl, Nat.le_of_ble_eq_true rfl⟩ ⟨Nat.le_of_ble_eq_true rfl, Nat.le_of_ble_eq_true rfl⟩ ?_
        rintro _ _ _ _ H locs ⟨rfl, rfl, rfl, rfl⟩ h
        refine b_bool_eq (tgt := 118) X dX7_lend_113 (by decide) (fun c4 => ?_) (fun c4 => ?_)
        · skip
          exact absurd c4 (by first | decide | omega)
        · skip
          have c4 := of_decide_eq_true c4
          refine lv_iconst (v := nI (0)) X.1 X.2.1 dX7_lend_116 (by decide) ?_
          exact mr_iret X hr hlocks h dX7_lend_117 ⟨Nat.le_of_ble_eq_true rfl, Nat.le_of_ble_eq_true rfl⟩ (MA.bad (if_pos (by simp [c1])) (by decide))
    · skip
      exact absurd c2 (by first | decide | omega)
  · skip
    obtain ⟨i1, hi1, rfl⟩ := iR_t c1 (by omega)
    refine lv_aload_n X.1 X.2.1 dX7_lend_8 rfl (lv_at hl 0 rfl) ?_
    refine lv_iload_n X.1 X.2.1 dX7_lend_9 rfl (lv_at hl 2 rfl) ?_
    refine mr_callV X h ck_X7_107 ki_X7_isPlayer ks_X7_isPlayer dX7_lend_10 (As := [.int (p0)]) (c_X7_isPlayer l G x ar N F B (p0) hI) rfl hl rfl (Nat.le_of_ble_eq_true rfl) ⟨Nat.le_of_ble_eq_true rfl, Nat.le_of_ble_eq_true rfl⟩ ⟨Nat.le_of_ble_eq_true rfl, Nat.le_of_ble_eq_true rfl⟩ ?_
    rintro _ _ _ _ H locs ⟨rfl, rfl, rfl, rfl⟩ h
    refine b_bool_eq (tgt := 20) X dX7_lend_13 (by decide) (fun c5 => ?_) (fun c5 => ?_)
    · skip
      refine lv_iconst (v := nI (0)) X.1 X.2.1 dX7_lend_20 (by decide) ?_
      refine lv_istore (lv' := [(4, .int (nI (0))), (0, .ref x), (1, .int (nI (i1))), (2, .int (p0)), (3, .int (z0))]) X.1 X.2.1 dX7_lend_21 hl (by decide) rfl (fun ls hl => ?_)
      refine lv_iload X.1 X.2.1 dX7_lend_23 (lv_at hl 0 rfl) ?_
      refine b_if_eq (tgt := 73) X dX7_lend_25 (by decide) (a := ((0 : Nat) : Int)) (nI_ti (by omega)) (fun c6 => ?_) (fun c6 => ?_)
      · skip
        refine lv_iconst (v := nI (0)) X.1 X.2.1 dX7_lend_73 (by decide) ?_
        refine lv_istore (lv' := [(5, .int (nI (0))), (4, .int (nI (0))), (0, .ref x), (1, .int (nI (i1))), (2, .int (p0)), (3, .int (z0))]) X.1 X.2.1 dX7_lend_74 hl (by decide) rfl (fun ls hl => ?_)
        refine lv_aload_n X.1 X.2.1 dX7_lend_76 rfl (lv_at hl 2 rfl) ?_
        refine lv_iload X.1 X.2.1 dX7_lend_77 (lv_at hl 1 rfl) ?_
        refine b_if_ne (tgt := 86) X dX7_lend_79 (by decide) (a := ((0 : Nat) : Int)) (nI_ti (by omega)) (fun c7 => ?_) (fun c7 => ?_)
        · skip
          exact absurd c7 (by first | decide | omega)
        · skip
          refine lv_iconst (v := nI (1)) X.1 X.2.1 dX7_lend_82 (by decide) ?_
          refine lv_goto (tgt := 110) X.1 X.2.1 dX7_lend_83 (by decide) ?_
          refine mr_callV X h ck_X7_93 ki_X7_fails ks_X7_fails dX7_lend_110 (As := [.int (nI (1))]) (c_X7_fails l G x ar N F B 1 (by omega)) rfl hl rfl (Nat.le_of_ble_eq_true rfl) ⟨Nat.le_of_ble_eq_true rfl, Nat.le_of_ble_eq_true rfl⟩ ⟨Nat.le_of_ble_eq_true rfl, Nat.le_of_ble_eq_true rfl⟩ ?_
          rintro _ _ _ _ H locs ⟨rfl, rfl, rfl, rfl⟩ h
          refine b_bool_eq (tgt := 118) X dX7_lend_113 (by decide) (fun c8 => ?_) (fun c8 => ?_)
          · skip
            exact absurd c8 (by first | decide | omega)
          · skip
            have c8 := of_decide_eq_true c8
            refine lv_iconst (v := nI (0)) X.1 X.2.1 dX7_lend_116 (by decide) ?_
            exact mr_iret X hr hlocks h dX7_lend_117 ⟨Nat.le_of_ble_eq_true rfl, Nat.le_of_ble_eq_true rfl⟩ (MA.bad (if_pos (by simp [iR_lt hi1 (show N 13 < 2 ^ 31 by omega), c5])) (by decide))
      · skip
        exact absurd c6 (by first | decide | omega)
    · skip
      obtain ⟨i2, hi2, rfl⟩ := iR_t c5 (by omega)
      refine lv_iconst (v := nI (1)) X.1 X.2.1 dX7_lend_16 (by decide) ?_
      refine lv_goto (tgt := 21) X.1 X.2.1 dX7_lend_17 (by decide) ?_
      refine lv_istore (lv' := [(4, .int (nI (1))), (0, .ref x), (1, .int (nI (i1))), (2, .int (nI (i2))), (3, .int (z0))]) X.1 X.2.1 dX7_lend_21 hl (by decide) rfl (fun ls hl => ?_)
      refine lv_iload X.1 X.2.1 dX7_lend_23 (lv_at hl 0 rfl) ?_
      refine b_if_eq (tgt := 73) X dX7_lend_25 (by decide) (a := ((1 : Nat) : Int)) (nI_ti (by omega)) (fun c9 => ?_) (fun c9 => ?_)
      · skip
        exact absurd c9 (by first | decide | omega)
      · skip
        refine lv_aload_n X.1 X.2.1 dX7_lend_28 rfl (lv_at hl 1 rfl) ?_
        refine mr_get X h kf_X7_46 (by decide) dX7_lend_29 rfl ?_
        refine lv_iload_n X.1 X.2.1 dX7_lend_32 rfl (lv_at hl 2 rfl) ?_
        refine mr_ald X h 17 rfl dX7_lend_33 (i := i1) (v := nI (F 17 (i1)) - 1) rfl (by show _ < 36; omega) rfl ?_
        have b10 := hI.k (k := i1) (by omega)
        refine lv_iconst (v := nI (0) - 1) X.1 X.2.1 dX7_lend_34 (by decide) ?_
        refine b_icmp_eq (tgt := 73) X dX7_lend_35 (by decide) (a := ((F 17 (i1) : Nat) : Int) - 1) (b := ((0 : Nat) : Int) - 1) (eI_ti (by omega)) (eI_ti (by omega)) (fun c11 => ?_) (fun c11 => ?_)
        · skip
          refine lv_iconst (v := nI (0)) X.1 X.2.1 dX7_lend_73 (by decide) ?_
          refine lv_istore (lv' := [(5, .int (nI (0))), (4, .int (nI (1))), (0, .ref x), (1, .int (nI (i1))), (2, .int (nI (i2))), (3, .int (z0))]) X.1 X.2.1 dX7_lend_74 hl (by decide) rfl (fun ls hl => ?_)
          refine lv_aload_n X.1 X.2.1 dX7_lend_76 rfl (lv_at hl 2 rfl) ?_
          refine lv_iload X.1 X.2.1 dX7_lend_77 (lv_at hl 1 rfl) ?_
          refine b_if_ne (tgt := 86) X dX7_lend_79 (by decide) (a := ((1 : Nat) : Int)) (nI_ti (by omega)) (fun c12 => ?_) (fun c12 => ?_)
          · skip
            refine lv_iload_n X.1 X.2.1 dX7_lend_86 rfl (lv_at hl 5 rfl) ?_
            refine lv_iconst (v := nI (1)) X.1 X.2.1 dX7_lend_87 (by decide) ?_
            refine lv_bipush (v := nI (100)) X.1 X.2.1 dX7_lend_88 (by decide) ?_
            refine mr_callS X h ck_X7_86 kst_X7_isIn dX7_lend_90 (As := [.int (z0), .int (nI (1)), .int (nI (100))]) (c_X7_isIn l G x ar N F B (z0) (nI (1)) (nI (100))) rfl hl rfl (Nat.le_of_ble_eq_true rfl) ⟨Nat.le_of_ble_eq_true rfl, Nat.le_of_ble_eq_true rfl⟩ ⟨Nat.le_of_ble_eq_true rfl, Nat.le_of_ble_eq_true rfl⟩ ?_
            rintro _ _ _ _ H locs ⟨rfl, rfl, rfl, rfl⟩ h
            refine lv_top (y := bI (decide (((1 : Nat) : Int) ≤ (z0).toInt ∧ (z0).toInt ≤ ((100 : Nat) : Int)))) (by rw [show (z0).toInt = (z0).toInt from rfl, show (nI (1)).toInt = ((1 : Nat) : Int) from nI_ti (by omega), show (nI (100)).toInt = ((100 : Nat) : Int) from nI_ti (by omega)]) ?_
            refine b_bool_ne (tgt := 100) X dX7_lend_93 (by decide) (fun c13 => ?_) (fun c13 => ?_)
            · skip
              have c13 := of_decide_eq_true c13
              obtain ⟨i3, hi3l, hi3, rfl⟩ := in_t 1 (n := 100) c13 (by omega)
              refine lv_iload X.1 X.2.1 dX7_lend_100 (lv_at hl 0 rfl) ?_
              refine b_if_eq (tgt := 109) X dX7_lend_102 (by decide) (a := ((0 : Nat) : Int)) (nI_ti (by omega)) (fun c14 => ?_) (fun c14 => ?_)
              · skip
                refine lv_iconst (v := nI (3)) X.1 X.2.1 dX7_lend_109 (by decide) ?_
                refine mr_callV X h ck_X7_93 ki_X7_fails ks_X7_fails dX7_lend_110 (As := [.int (nI (3))]) (c_X7_fails l G x ar N F B 3 (by omega)) rfl hl rfl (Nat.le_of_ble_eq_true rfl) ⟨Nat.le_of_ble_eq_true rfl, Nat.le_of_ble_eq_true rfl⟩ ⟨Nat.le_of_ble_eq_true rfl, Nat.le_of_ble_eq_true rfl⟩ ?_
                rintro _ _ _ _ H locs ⟨rfl, rfl, rfl, rfl⟩ h
                refine b_bool_eq (tgt := 118) X dX7_lend_113 (by decide) (fun c15 => ?_) (fun c15 => ?_)
                · skip
                  exact absurd c15 (by first | decide | omega)
                · skip
                  have c15 := of_decide_eq_true c15
                  refine lv_iconst (v := nI (0)) X.1 X.2.1 dX7_lend_116 (by decide) ?_
                  exact mr_iret X hr hlocks h dX7_lend_117 ⟨Nat.le_of_ble_eq_true rfl, Nat.le_of_ble_eq_true rfl⟩ (MA.bad ((if_neg (by rw [iR_lt hi1 (by omega), iR_lt hi2 (by omega)]; decide)).trans ((if_neg (fun z => z (by rw [nI_ti (by omega)]; omega))).trans (if_neg (by rw [ix_nI (by omega), ix_nI (by omega)]; intro z; have := of_decide_eq_true z; omega)))) (by decide))
              · skip
                exact absurd c14 (by first | decide | omega)
            · skip
              have c13 := of_decide_eq_false c13
              refine lv_iconst (v := nI (2)) X.1 X.2.1 dX7_lend_96 (by decide) ?_
              refine lv_goto (tgt := 110) X.1 X.2.1 dX7_lend_97 (by decide) ?_
              refine mr_callV X h ck_X7_93 ki_X7_fails ks_X7_fails dX7_lend_110 (As := [.int (nI (2))]) (c_X7_fails l G x ar N F B 2 (by omega)) rfl hl rfl (Nat.le_of_ble_eq_true rfl) ⟨Nat.le_of_ble_eq_true rfl, Nat.le_of_ble_eq_true rfl⟩ ⟨Nat.le_of_ble_eq_true rfl, Nat.le_of_ble_eq_true rfl⟩ ?_
              rintro _ _ _ _ H locs ⟨rfl, rfl, rfl, rfl⟩ h
              refine b_bool_eq (tgt := 118) X dX7_lend_113 (by decide) (fun c16 => ?_) (fun c16 => ?_)
              · skip
                exact absurd c16 (by first | decide | omega)
              · skip
                have c16 := of_decide_eq_true c16
                refine lv_iconst (v := nI (0)) X.1 X.2.1 dX7_lend_116 (by decide) ?_
                exact mr_iret X hr hlocks h dX7_lend_117 ⟨Nat.le_of_ble_eq_true rfl, Nat.le_of_ble_eq_true rfl⟩ (MA.bad ((if_neg (by rw [iR_lt hi1 (by omega), iR_lt hi2 (by omega)]; decide)).trans (if_pos (by omega))) (by decide))
          · skip
            exact absurd c12 (by first | decide | omega)
        · skip
          refine lv_aload_n X.1 X.2.1 dX7_lend_38 rfl (lv_at hl 1 rfl) ?_
          refine mr_get X h kf_X7_46 (by decide) dX7_lend_39 rfl ?_
          refine lv_iload_n X.1 X.2.1 dX7_lend_42 rfl (lv_at hl 2 rfl) ?_
          refine mr_ald X h 17 rfl dX7_lend_43 (i := i1) (v := nI (F 17 (i1)) - 1) rfl (by show _ < 36; omega) rfl ?_
          have b17 := hI.k (k := i1) (by omega)
          refine lv_iload_n X.1 X.2.1 dX7_lend_44 rfl (lv_at hl 3 rfl) ?_
          refine b_icmp_eq (tgt := 73) X dX7_lend_45 (by decide) (a := ((F 17 (i1) : Nat) : Int) - 1) (b := ((i2 : Nat) : Int)) (eI_ti (by omega)) (nI_ti (by omega)) (fun c18 => ?_) (fun c18 => ?_)
          · skip
            refine lv_iconst (v := nI (0)) X.1 X.2.1 dX7_lend_73 (by decide) ?_
            refine lv_istore (lv' := [(5, .int (nI (0))), (4, .int (nI (1))), (0, .ref x), (1, .int (nI (i1))), (2, .int (nI (i2))), (3, .int (z0))]) X.1 X.2.1 dX7_lend_74 hl (by decide) rfl (fun ls hl => ?_)
            refine lv_aload_n X.1 X.2.1 dX7_lend_76 rfl (lv_at hl 2 rfl) ?_
            refine lv_iload X.1 X.2.1 dX7_lend_77 (lv_at hl 1 rfl) ?_
            refine b_if_ne (tgt := 86) X dX7_lend_79 (by decide) (a := ((1 : Nat) : Int)) (nI_ti (by omega)) (fun c19 => ?_) (fun c19 => ?_)
            · skip
              refine lv_iload_n X.1 X.2.1 dX7_lend_86 rfl (lv_at hl 5 rfl) ?_
              refine lv_iconst (v := nI (1)) X.1 X.2.1 dX7_lend_87 (by decide) ?_
              refine lv_bipush (v := nI (100)) X.1 X.2.1 dX7_lend_88 (by decide) ?_
              refine mr_callS X h ck_X7_86 kst_X7_isIn dX7_lend_90 (As := [.int (z0), .int (nI (1)), .int (nI (100))]) (c_X7_isIn l G x ar N F B (z0) (nI (1)) (nI (100))) rfl hl rfl (Nat.le_of_ble_eq_true rfl) ⟨Nat.le_of_ble_eq_true rfl, Nat.le_of_ble_eq_true rfl⟩ ⟨Nat.le_of_ble_eq_true rfl, Nat.le_of_ble_eq_true rfl⟩ ?_
              rintro _ _ _ _ H locs ⟨rfl, rfl, rfl, rfl⟩ h
              refine lv_top (y := bI (decide (((1 : Nat) : Int) ≤ (z0).toInt ∧ (z0).toInt ≤ ((100 : Nat) : Int)))) (by rw [show (z0).toInt = (z0).toInt from rfl, show (nI (1)).toInt = ((1 : Nat) : Int) from nI_ti (by omega), show (nI (100)).toInt = ((100 : Nat) : Int) from nI_ti (by omega)]) ?_
              refine b_bool_ne (tgt := 100) X dX7_lend_93 (by decide) (fun c20 => ?_) (fun c20 => ?_)
              · skip
                have c20 := of_decide_eq_true c20
                obtain ⟨i3, hi3l, hi3, rfl⟩ := in_t 1 (n := 100) c20 (by omega)
                refine lv_iload X.1 X.2.1 dX7_lend_100 (lv_at hl 0 rfl) ?_
                refine b_if_eq (tgt := 109) X dX7_lend_102 (by decide) (a := ((0 : Nat) : Int)) (nI_ti (by omega)) (fun c21 => ?_) (fun c21 => ?_)
                · skip
                  refine lv_iconst (v := nI (3)) X.1 X.2.1 dX7_lend_109 (by decide) ?_
                  refine mr_callV X h ck_X7_93 ki_X7_fails ks_X7_fails dX7_lend_110 (As := [.int (nI (3))]) (c_X7_fails l G x ar N F B 3 (by omega)) rfl hl rfl (Nat.le_of_ble_eq_true rfl) ⟨Nat.le_of_ble_eq_true rfl, Nat.le_of_ble_eq_true rfl⟩ ⟨Nat.le_of_ble_eq_true rfl, Nat.le_of_ble_eq_true rfl⟩ ?_
                  rintro _ _ _ _ H locs ⟨rfl, rfl, rfl, rfl⟩ h
                  refine b_bool_eq (tgt := 118) X dX7_lend_113 (by decide) (fun c22 => ?_) (fun c22 => ?_)
                  · skip
                    exact absurd c22 (by first | decide | omega)
                  · skip
                    have c22 := of_decide_eq_true c22
                    refine lv_iconst (v := nI (0)) X.1 X.2.1 dX7_lend_116 (by decide) ?_
                    exact mr_iret X hr hlocks h dX7_lend_117 ⟨Nat.le_of_ble_eq_true rfl, Nat.le_of_ble_eq_true rfl⟩ (MA.bad ((if_neg (by rw [iR_lt hi1 (by omega), iR_lt hi2 (by omega)]; decide)).trans ((if_neg (fun z => z (by rw [nI_ti (by omega)]; omega))).trans (if_neg (by rw [ix_nI (by omega), ix_nI (by omega)]; intro z; have := of_decide_eq_true z; omega)))) (by decide))
                · skip
                  exact absurd c21 (by first | decide | omega)
              · skip
                have c20 := of_decide_eq_false c20
                refine lv_iconst (v := nI (2)) X.1 X.2.1 dX7_lend_96 (by decide) ?_
                refine lv_goto (tgt := 110) X.1 X.2.1 dX7_lend_97 (by decide) ?_
                refine mr_callV X h ck_X7_93 ki_X7_fails ks_X7_fails dX7_lend_110 (As := [.int (nI (2))]) (c_X7_fails l G x ar N F B 2 (by omega)) rfl hl rfl (Nat.le_of_ble_eq_true rfl) ⟨Nat.le_of_ble_eq_true rfl, Nat.le_of_ble_eq_true rfl⟩ ⟨Nat.le_of_ble_eq_true rfl, Nat.le_of_ble_eq_true rfl⟩ ?_
                rintro _ _ _ _ H locs ⟨rfl, rfl, rfl, rfl⟩ h
                refine b_bool_eq (tgt := 118) X dX7_lend_113 (by decide) (fun c23 => ?_) (fun c23 => ?_)
                · skip
                  exact absurd c23 (by first | decide | omega)
                · skip
                  have c23 := of_decide_eq_true c23
                  refine lv_iconst (v := nI (0)) X.1 X.2.1 dX7_lend_116 (by decide) ?_
                  exact mr_iret X hr hlocks h dX7_lend_117 ⟨Nat.le_of_ble_eq_true rfl, Nat.le_of_ble_eq_true rfl⟩ (MA.bad ((if_neg (by rw [iR_lt hi1 (by omega), iR_lt hi2 (by omega)]; decide)).trans (if_pos (by omega))) (by decide))
            · skip
              exact absurd c19 (by first | decide | omega)
          · skip
            refine lv_aload_n X.1 X.2.1 dX7_lend_48 rfl (lv_at hl 1 rfl) ?_
            refine lv_aload_n X.1 X.2.1 dX7_lend_49 rfl (lv_at hl 1 rfl) ?_
            refine mr_get X h kf_X7_46 (by decide) dX7_lend_50 rfl ?_
            refine lv_iload_n X.1 X.2.1 dX7_lend_53 rfl (lv_at hl 2 rfl) ?_
            refine mr_ald X h 17 rfl dX7_lend_54 (i := i1) (v := nI (F 17 (i1)) - 1) rfl (by show _ < 36; omega) rfl ?_
            have b24 := hI.k (k := i1) (by omega)
            refine lv_top (y := nI (F 17 (i1) - 1)) (eI_pos (by omega)) ?_
            refine mr_callV X h ck_X7_110 ki_X7_isBanned ks_X7_isBanned dX7_lend_55 (As := [.int (nI (F 17 (i1) - 1))]) (c_X7_isBanned l G x ar N F B (F 17 (i1) - 1) hI (show F 17 (i1) - 1 < N 1 by omega)) rfl hl rfl (Nat.le_of_ble_eq_true rfl) ⟨Nat.le_of_ble_eq_true rfl, Nat.le_of_ble_eq_true rfl⟩ ⟨Nat.le_of_ble_eq_true rfl, Nat.le_of_ble_eq_true rfl⟩ ?_
            rintro _ _ _ _ H locs ⟨rfl, rfl, rfl, rfl⟩ h
            have b25 := hI.p (F 17 (i1) - 1)
            refine b_bool_ne (tgt := 73) X dX7_lend_58 (by decide) (fun c26 => ?_) (fun c26 => ?_)
            · skip
              have c26 := of_decide_eq_true c26
              refine lv_iconst (v := nI (0)) X.1 X.2.1 dX7_lend_73 (by decide) ?_
              refine lv_istore (lv' := [(5, .int (nI (0))), (4, .int (nI (1))), (0, .ref x), (1, .int (nI (i1))), (2, .int (nI (i2))), (3, .int (z0))]) X.1 X.2.1 dX7_lend_74 hl (by decide) rfl (fun ls hl => ?_)
              refine lv_aload_n X.1 X.2.1 dX7_lend_76 rfl (lv_at hl 2 rfl) ?_
              refine lv_iload X.1 X.2.1 dX7_lend_77 (lv_at hl 1 rfl) ?_
              refine b_if_ne (tgt := 86) X dX7_lend_79 (by decide) (a := ((1 : Nat) : Int)) (nI_ti (by omega)) (fun c27 => ?_) (fun c27 => ?_)
              · skip
                refine lv_iload_n X.1 X.2.1 dX7_lend_86 rfl (lv_at hl 5 rfl) ?_
                refine lv_iconst (v := nI (1)) X.1 X.2.1 dX7_lend_87 (by decide) ?_
                refine lv_bipush (v := nI (100)) X.1 X.2.1 dX7_lend_88 (by decide) ?_
                refine mr_callS X h ck_X7_86 kst_X7_isIn dX7_lend_90 (As := [.int (z0), .int (nI (1)), .int (nI (100))]) (c_X7_isIn l G x ar N F B (z0) (nI (1)) (nI (100))) rfl hl rfl (Nat.le_of_ble_eq_true rfl) ⟨Nat.le_of_ble_eq_true rfl, Nat.le_of_ble_eq_true rfl⟩ ⟨Nat.le_of_ble_eq_true rfl, Nat.le_of_ble_eq_true rfl⟩ ?_
                rintro _ _ _ _ H locs ⟨rfl, rfl, rfl, rfl⟩ h
                refine lv_top (y := bI (decide (((1 : Nat) : Int) ≤ (z0).toInt ∧ (z0).toInt ≤ ((100 : Nat) : Int)))) (by rw [show (z0).toInt = (z0).toInt from rfl, show (nI (1)).toInt = ((1 : Nat) : Int) from nI_ti (by omega), show (nI (100)).toInt = ((100 : Nat) : Int) from nI_ti (by omega)]) ?_
                refine b_bool_ne (tgt := 100) X dX7_lend_93 (by decide) (fun c28 => ?_) (fun c28 => ?_)
                · skip
                  have c28 := of_decide_eq_true c28
                  obtain ⟨i3, hi3l, hi3, rfl⟩ := in_t 1 (n := 100) c28 (by omega)
                  refine lv_iload X.1 X.2.1 dX7_lend_100 (lv_at hl 0 rfl) ?_
                  refine b_if_eq (tgt := 109) X dX7_lend_102 (by decide) (a := ((0 : Nat) : Int)) (nI_ti (by omega)) (fun c29 => ?_) (fun c29 => ?_)
                  · skip
                    refine lv_iconst (v := nI (3)) X.1 X.2.1 dX7_lend_109 (by decide) ?_
                    refine mr_callV X h ck_X7_93 ki_X7_fails ks_X7_fails dX7_lend_110 (As := [.int (nI (3))]) (c_X7_fails l G x ar N F B 3 (by omega)) rfl hl rfl (Nat.le_of_ble_eq_true rfl) ⟨Nat.le_of_ble_eq_true rfl, Nat.le_of_ble_eq_true rfl⟩ ⟨Nat.le_of_ble_eq_true rfl, Nat.le_of_ble_eq_true rfl⟩ ?_
                    rintro _ _ _ _ H locs ⟨rfl, rfl, rfl, rfl⟩ h
                    refine b_bool_eq (tgt := 118) X dX7_lend_113 (by decide) (fun c30 => ?_) (fun c30 => ?_)
                    · skip
                      exact absurd c30 (by first | decide | omega)
                    · skip
                      have c30 := of_decide_eq_true c30
                      refine lv_iconst (v := nI (0)) X.1 X.2.1 dX7_lend_116 (by decide) ?_
                      exact mr_iret X hr hlocks h dX7_lend_117 ⟨Nat.le_of_ble_eq_true rfl, Nat.le_of_ble_eq_true rfl⟩ (MA.bad ((if_neg (by rw [iR_lt hi1 (by omega), iR_lt hi2 (by omega)]; decide)).trans ((if_neg (fun z => z (by rw [nI_ti (by omega)]; omega))).trans (if_neg (by rw [ix_nI (by omega), ix_nI (by omega)]; intro z; have := of_decide_eq_true z; omega)))) (by decide))
                  · skip
                    exact absurd c29 (by first | decide | omega)
                · skip
                  have c28 := of_decide_eq_false c28
                  refine lv_iconst (v := nI (2)) X.1 X.2.1 dX7_lend_96 (by decide) ?_
                  refine lv_goto (tgt := 110) X.1 X.2.1 dX7_lend_97 (by decide) ?_
                  refine mr_callV X h ck_X7_93 ki_X7_fails ks_X7_fails dX7_lend_110 (As := [.int (nI (2))]) (c_X7_fails l G x ar N F B 2 (by omega)) rfl hl rfl (Nat.le_of_ble_eq_true rfl) ⟨Nat.le_of_ble_eq_true rfl, Nat.le_of_ble_eq_true rfl⟩ ⟨Nat.le_of_ble_eq_true rfl, Nat.le_of_ble_eq_true rfl⟩ ?_
                  rintro _ _ _ _ H locs ⟨rfl, rfl, rfl, rfl⟩ h
                  refine b_bool_eq (tgt := 118) X dX7_lend_113 (by decide) (fun c31 => ?_) (fun c31 => ?_)
                  · skip
                    exact absurd c31 (by first | decide | omega)
                  · skip
                    have c31 := of_decide_eq_true c31
                    refine lv_iconst (v := nI (0)) X.1 X.2.1 dX7_lend_116 (by decide) ?_
                    exact mr_iret X hr hlocks h dX7_lend_117 ⟨Nat.le_of_ble_eq_true rfl, Nat.le_of_ble_eq_true rfl⟩ (MA.bad ((if_neg (by rw [iR_lt hi1 (by omega), iR_lt hi2 (by omega)]; decide)).trans (if_pos (by omega))) (by decide))
              · skip
                exact absurd c27 (by first | decide | omega)
            · skip
              have c26 := of_decide_eq_false c26
              refine lv_aload_n X.1 X.2.1 dX7_lend_61 rfl (lv_at hl 1 rfl) ?_
              refine lv_iload_n X.1 X.2.1 dX7_lend_62 rfl (lv_at hl 3 rfl) ?_
              refine mr_callV X h ck_X7_110 ki_X7_isBanned ks_X7_isBanned dX7_lend_63 (As := [.int (nI (i2))]) (c_X7_isBanned l G x ar N F B i2 hI (show i2 < N 1 by omega)) rfl hl rfl (Nat.le_of_ble_eq_true rfl) ⟨Nat.le_of_ble_eq_true rfl, Nat.le_of_ble_eq_true rfl⟩ ⟨Nat.le_of_ble_eq_true rfl, Nat.le_of_ble_eq_true rfl⟩ ?_
              rintro _ _ _ _ H locs ⟨rfl, rfl, rfl, rfl⟩ h
              have b32 := hI.p (i2)
              refine b_bool_ne (tgt := 73) X dX7_lend_66 (by decide) (fun c33 => ?_) (fun c33 => ?_)
              · skip
                have c33 := of_decide_eq_true c33
                refine lv_iconst (v := nI (0)) X.1 X.2.1 dX7_lend_73 (by decide) ?_
                refine lv_istore (lv' := [(5, .int (nI (0))), (4, .int (nI (1))), (0, .ref x), (1, .int (nI (i1))), (2, .int (nI (i2))), (3, .int (z0))]) X.1 X.2.1 dX7_lend_74 hl (by decide) rfl (fun ls hl => ?_)
                refine lv_aload_n X.1 X.2.1 dX7_lend_76 rfl (lv_at hl 2 rfl) ?_
                refine lv_iload X.1 X.2.1 dX7_lend_77 (lv_at hl 1 rfl) ?_
                refine b_if_ne (tgt := 86) X dX7_lend_79 (by decide) (a := ((1 : Nat) : Int)) (nI_ti (by omega)) (fun c34 => ?_) (fun c34 => ?_)
                · skip
                  refine lv_iload_n X.1 X.2.1 dX7_lend_86 rfl (lv_at hl 5 rfl) ?_
                  refine lv_iconst (v := nI (1)) X.1 X.2.1 dX7_lend_87 (by decide) ?_
                  refine lv_bipush (v := nI (100)) X.1 X.2.1 dX7_lend_88 (by decide) ?_
                  refine mr_callS X h ck_X7_86 kst_X7_isIn dX7_lend_90 (As := [.int (z0), .int (nI (1)), .int (nI (100))]) (c_X7_isIn l G x ar N F B (z0) (nI (1)) (nI (100))) rfl hl rfl (Nat.le_of_ble_eq_true rfl) ⟨Nat.le_of_ble_eq_true rfl, Nat.le_of_ble_eq_true rfl⟩ ⟨Nat.le_of_ble_eq_true rfl, Nat.le_of_ble_eq_true rfl⟩ ?_
                  rintro _ _ _ _ H locs ⟨rfl, rfl, rfl, rfl⟩ h
                  refine lv_top (y := bI (decide (((1 : Nat) : Int) ≤ (z0).toInt ∧ (z0).toInt ≤ ((100 : Nat) : Int)))) (by rw [show (z0).toInt = (z0).toInt from rfl, show (nI (1)).toInt = ((1 : Nat) : Int) from nI_ti (by omega), show (nI (100)).toInt = ((100 : Nat) : Int) from nI_ti (by omega)]) ?_
                  refine b_bool_ne (tgt := 100) X dX7_lend_93 (by decide) (fun c35 => ?_) (fun c35 => ?_)
                  · skip
                    have c35 := of_decide_eq_true c35
                    obtain ⟨i3, hi3l, hi3, rfl⟩ := in_t 1 (n := 100) c35 (by omega)
                    refine lv_iload X.1 X.2.1 dX7_lend_100 (lv_at hl 0 rfl) ?_
                    refine b_if_eq (tgt := 109) X dX7_lend_102 (by decide) (a := ((0 : Nat) : Int)) (nI_ti (by omega)) (fun c36 => ?_) (fun c36 => ?_)
                    · skip
                      refine lv_iconst (v := nI (3)) X.1 X.2.1 dX7_lend_109 (by decide) ?_
                      refine mr_callV X h ck_X7_93 ki_X7_fails ks_X7_fails dX7_lend_110 (As := [.int (nI (3))]) (c_X7_fails l G x ar N F B 3 (by omega)) rfl hl rfl (Nat.le_of_ble_eq_true rfl) ⟨Nat.le_of_ble_eq_true rfl, Nat.le_of_ble_eq_true rfl⟩ ⟨Nat.le_of_ble_eq_true rfl, Nat.le_of_ble_eq_true rfl⟩ ?_
                      rintro _ _ _ _ H locs ⟨rfl, rfl, rfl, rfl⟩ h
                      refine b_bool_eq (tgt := 118) X dX7_lend_113 (by decide) (fun c37 => ?_) (fun c37 => ?_)
                      · skip
                        exact absurd c37 (by first | decide | omega)
                      · skip
                        have c37 := of_decide_eq_true c37
                        refine lv_iconst (v := nI (0)) X.1 X.2.1 dX7_lend_116 (by decide) ?_
                        exact mr_iret X hr hlocks h dX7_lend_117 ⟨Nat.le_of_ble_eq_true rfl, Nat.le_of_ble_eq_true rfl⟩ (MA.bad ((if_neg (by rw [iR_lt hi1 (by omega), iR_lt hi2 (by omega)]; decide)).trans ((if_neg (fun z => z (by rw [nI_ti (by omega)]; omega))).trans (if_neg (by rw [ix_nI (by omega), ix_nI (by omega)]; intro z; have := of_decide_eq_true z; omega)))) (by decide))
                    · skip
                      exact absurd c36 (by first | decide | omega)
                  · skip
                    have c35 := of_decide_eq_false c35
                    refine lv_iconst (v := nI (2)) X.1 X.2.1 dX7_lend_96 (by decide) ?_
                    refine lv_goto (tgt := 110) X.1 X.2.1 dX7_lend_97 (by decide) ?_
                    refine mr_callV X h ck_X7_93 ki_X7_fails ks_X7_fails dX7_lend_110 (As := [.int (nI (2))]) (c_X7_fails l G x ar N F B 2 (by omega)) rfl hl rfl (Nat.le_of_ble_eq_true rfl) ⟨Nat.le_of_ble_eq_true rfl, Nat.le_of_ble_eq_true rfl⟩ ⟨Nat.le_of_ble_eq_true rfl, Nat.le_of_ble_eq_true rfl⟩ ?_
                    rintro _ _ _ _ H locs ⟨rfl, rfl, rfl, rfl⟩ h
                    refine b_bool_eq (tgt := 118) X dX7_lend_113 (by decide) (fun c38 => ?_) (fun c38 => ?_)
                    · skip
                      exact absurd c38 (by first | decide | omega)
                    · skip
                      have c38 := of_decide_eq_true c38
                      refine lv_iconst (v := nI (0)) X.1 X.2.1 dX7_lend_116 (by decide) ?_
                      exact mr_iret X hr hlocks h dX7_lend_117 ⟨Nat.le_of_ble_eq_true rfl, Nat.le_of_ble_eq_true rfl⟩ (MA.bad ((if_neg (by rw [iR_lt hi1 (by omega), iR_lt hi2 (by omega)]; decide)).trans (if_pos (by omega))) (by decide))
                · skip
                  exact absurd c34 (by first | decide | omega)
              · skip
                have c33 := of_decide_eq_false c33
                refine lv_iconst (v := nI (1)) X.1 X.2.1 dX7_lend_69 (by decide) ?_
                refine lv_goto (tgt := 74) X.1 X.2.1 dX7_lend_70 (by decide) ?_
                refine lv_istore (lv' := [(5, .int (nI (1))), (4, .int (nI (1))), (0, .ref x), (1, .int (nI (i1))), (2, .int (nI (i2))), (3, .int (z0))]) X.1 X.2.1 dX7_lend_74 hl (by decide) rfl (fun ls hl => ?_)
                refine lv_aload_n X.1 X.2.1 dX7_lend_76 rfl (lv_at hl 2 rfl) ?_
                refine lv_iload X.1 X.2.1 dX7_lend_77 (lv_at hl 1 rfl) ?_
                refine b_if_ne (tgt := 86) X dX7_lend_79 (by decide) (a := ((1 : Nat) : Int)) (nI_ti (by omega)) (fun c39 => ?_) (fun c39 => ?_)
                · skip
                  refine lv_iload_n X.1 X.2.1 dX7_lend_86 rfl (lv_at hl 5 rfl) ?_
                  refine lv_iconst (v := nI (1)) X.1 X.2.1 dX7_lend_87 (by decide) ?_
                  refine lv_bipush (v := nI (100)) X.1 X.2.1 dX7_lend_88 (by decide) ?_
                  refine mr_callS X h ck_X7_86 kst_X7_isIn dX7_lend_90 (As := [.int (z0), .int (nI (1)), .int (nI (100))]) (c_X7_isIn l G x ar N F B (z0) (nI (1)) (nI (100))) rfl hl rfl (Nat.le_of_ble_eq_true rfl) ⟨Nat.le_of_ble_eq_true rfl, Nat.le_of_ble_eq_true rfl⟩ ⟨Nat.le_of_ble_eq_true rfl, Nat.le_of_ble_eq_true rfl⟩ ?_
                  rintro _ _ _ _ H locs ⟨rfl, rfl, rfl, rfl⟩ h
                  refine lv_top (y := bI (decide (((1 : Nat) : Int) ≤ (z0).toInt ∧ (z0).toInt ≤ ((100 : Nat) : Int)))) (by rw [show (z0).toInt = (z0).toInt from rfl, show (nI (1)).toInt = ((1 : Nat) : Int) from nI_ti (by omega), show (nI (100)).toInt = ((100 : Nat) : Int) from nI_ti (by omega)]) ?_
                  refine b_bool_ne (tgt := 100) X dX7_lend_93 (by decide) (fun c40 => ?_) (fun c40 => ?_)
                  · skip
                    have c40 := of_decide_eq_true c40
                    obtain ⟨i3, hi3l, hi3, rfl⟩ := in_t 1 (n := 100) c40 (by omega)
                    refine lv_iload X.1 X.2.1 dX7_lend_100 (lv_at hl 0 rfl) ?_
                    refine b_if_eq (tgt := 109) X dX7_lend_102 (by decide) (a := ((1 : Nat) : Int)) (nI_ti (by omega)) (fun c41 => ?_) (fun c41 => ?_)
                    · skip
                      exact absurd c41 (by first | decide | omega)
                    · skip
                      refine lv_iconst (v := nI (0)) X.1 X.2.1 dX7_lend_105 (by decide) ?_
                      refine lv_goto (tgt := 110) X.1 X.2.1 dX7_lend_106 (by decide) ?_
                      refine mr_callV X h ck_X7_93 ki_X7_fails ks_X7_fails dX7_lend_110 (As := [.int (nI (0))]) (c_X7_fails l G x ar N F B 0 (by omega)) rfl hl rfl (Nat.le_of_ble_eq_true rfl) ⟨Nat.le_of_ble_eq_true rfl, Nat.le_of_ble_eq_true rfl⟩ ⟨Nat.le_of_ble_eq_true rfl, Nat.le_of_ble_eq_true rfl⟩ ?_
                      rintro _ _ _ _ H locs ⟨rfl, rfl, rfl, rfl⟩ h
                      refine b_bool_eq (tgt := 118) X dX7_lend_113 (by decide) (fun c42 => ?_) (fun c42 => ?_)
                      · skip
                        have c42 := of_decide_eq_false c42
                        refine lv_aload_n X.1 X.2.1 dX7_lend_118 rfl (lv_at hl 2 rfl) ?_
                        refine mr_get X h kf_X7_49 (by decide) dX7_lend_119 rfl ?_
                        refine lv_iload_n X.1 X.2.1 dX7_lend_122 rfl (lv_at hl 3 rfl) ?_
                        refine lv_iload_n X.1 X.2.1 dX7_lend_123 rfl (lv_at hl 4 rfl) ?_
                        refine mr_ast X h 18 rfl (by decide) dX7_lend_124 (i := i1) (v := i2 + 1) rfl (by show _ < 36; omega) (eI_suc _) (fun H locs h => ?_)
                        refine lv_aload_n X.1 X.2.1 dX7_lend_125 rfl (lv_at hl 2 rfl) ?_
                        refine mr_get X h kf_X7_52 (by decide) dX7_lend_126 rfl ?_
                        refine lv_iload_n X.1 X.2.1 dX7_lend_129 rfl (lv_at hl 3 rfl) ?_
                        refine lv_aload_n X.1 X.2.1 dX7_lend_130 rfl (lv_at hl 2 rfl) ?_
                        refine mr_get X h kf_X7_90 (by decide) dX7_lend_131 (v := .int (nI (N 0))) rfl ?_
                        refine lv_iload_n X.1 X.2.1 dX7_lend_134 rfl (lv_at hl 5 rfl) ?_
                        refine lv_iadd X.1 X.2.1 dX7_lend_135 ?_
                        refine lv_top (y := nI (N 0 + i3)) (nI_add _ _) ?_
                        refine lv_iconst (v := nI (1)) X.1 X.2.1 dX7_lend_136 (by decide) ?_
                        refine lv_isub X.1 X.2.1 dX7_lend_137 ?_
                        refine lv_top (y := nI (N 0 + i3) - 1) rfl ?_
                        refine mr_ast X h 19 rfl (by decide) dX7_lend_138 (i := i1) (v := N 0 + i3 - 1) rfl (by show _ < 36; omega) (eI_pos (by omega)) (fun H locs h => ?_)
                        refine lv_aload_n X.1 X.2.1 dX7_lend_139 rfl (lv_at hl 2 rfl) ?_
                        refine mr_get X h kf_X7_52 (by decide) dX7_lend_140 rfl ?_
                        refine lv_iload_n X.1 X.2.1 dX7_lend_143 rfl (lv_at hl 3 rfl) ?_
                        refine mr_ald X h 19 rfl dX7_lend_144 (i := i1) (v := nI (N 0 + i3 - 1)) rfl (by show _ < 36; omega) (by simp [rowM, shN, set1, va_up]) ?_
                        exact mr_iret X hr hlocks h dX7_lend_145 ⟨Nat.le_of_ble_eq_true rfl, Nat.le_of_ble_eq_true rfl⟩ (MA.ok ((if_neg (by rw [iR_lt hi1 (by omega), iR_lt hi2 (by omega)]; decide)).trans ((if_neg (fun z => z (by rw [nI_ti (by omega)]; omega))).trans (if_pos (by rw [ix_nI (by omega), ix_nI (by omega)]; exact decide_eq_true (by omega))))) (by rw [ix_nI (by omega)]) rfl (fun k h1 h2 => by simp [va_up, h1, h2]) (by rw [ix_nI (by omega), ix_nI (by omega), ix_nI (by omega)]; exact SF.rf _) rfl)
                      · skip
                        exact absurd c42 (by first | decide | omega)
                  · skip
                    have c40 := of_decide_eq_false c40
                    refine lv_iconst (v := nI (2)) X.1 X.2.1 dX7_lend_96 (by decide) ?_
                    refine lv_goto (tgt := 110) X.1 X.2.1 dX7_lend_97 (by decide) ?_
                    refine mr_callV X h ck_X7_93 ki_X7_fails ks_X7_fails dX7_lend_110 (As := [.int (nI (2))]) (c_X7_fails l G x ar N F B 2 (by omega)) rfl hl rfl (Nat.le_of_ble_eq_true rfl) ⟨Nat.le_of_ble_eq_true rfl, Nat.le_of_ble_eq_true rfl⟩ ⟨Nat.le_of_ble_eq_true rfl, Nat.le_of_ble_eq_true rfl⟩ ?_
                    rintro _ _ _ _ H locs ⟨rfl, rfl, rfl, rfl⟩ h
                    refine b_bool_eq (tgt := 118) X dX7_lend_113 (by decide) (fun c43 => ?_) (fun c43 => ?_)
                    · skip
                      exact absurd c43 (by first | decide | omega)
                    · skip
                      have c43 := of_decide_eq_true c43
                      refine lv_iconst (v := nI (0)) X.1 X.2.1 dX7_lend_116 (by decide) ?_
                      exact mr_iret X hr hlocks h dX7_lend_117 ⟨Nat.le_of_ble_eq_true rfl, Nat.le_of_ble_eq_true rfl⟩ (MA.bad ((if_neg (by rw [iR_lt hi1 (by omega), iR_lt hi2 (by omega)]; decide)).trans (if_pos (by omega))) (by decide))
                · skip
                  exact absurd c39 (by first | decide | omega)
