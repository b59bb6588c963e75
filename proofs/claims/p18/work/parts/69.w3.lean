set_option maxHeartbeats 4000000 in
set_option maxRecDepth 100000 in
theorem c_L_looks (l : Launch) (G : mG) (x : Nat) (ar : Nat → Nat) (C : LSt) (N : Nat → Nat) (F : Nat → Nat → Nat) (B : Nat → Int32)  (hI : Iv N F) : QMet l yL_looks cL_looks 14 none ({ frames := 4, cells := 0, slots := 0, locals := 109 } : Room) G x ar [.ref (ar 0), .ref (ar 1), .ref (ar 2), .ref (ar 3), .ref (ar 4), .ref (ar 6), .ref (ar 7), .ref (ar 8), .ref (ar 9)] C (N, F, B) (fun r C' D' => r = none ∧ C = C' ∧ D' = (N, (lookS N F B (N 13)).1, (lookS N F B (N 13)).2)) := by
  refine QMet.of (by decide) (Nat.le_of_ble_eq_true rfl) ?_
  intro p e s m args below meth c A ls X hr hlocks hS hZ hN h hl
  have hl : lv_has ls 14 [(0, .ref (ar 0)), (1, .ref (ar 1)), (2, .ref (ar 2)), (3, .ref (ar 3)), (4, .ref (ar 4)), (5, .ref (ar 6)), (6, .ref (ar 7)), (7, .ref (ar 8)), (8, .ref (ar 9))] := hl
  have hn := hI.n
  refine lv_iconst (v := nI (0)) X.1 X.2.1 dL_looks_0 (by decide) ?_
  refine lv_istore (lv' := [(9, .int (nI (0))), (0, .ref (ar 0)), (1, .ref (ar 1)), (2, .ref (ar 2)), (3, .ref (ar 3)), (4, .ref (ar 4)), (5, .ref (ar 6)), (6, .ref (ar 7)), (7, .ref (ar 8)), (8, .ref (ar 9))]) X.1 X.2.1 dL_looks_1 hl (by decide) rfl (fun ls hl => ?_)
  have outer : ∀ (n9 : Nat) (k0 : Nat) (F1 : Nat → Nat → Nat) (B1 : Nat → Int32), (N 13 + 1 ≤ k0 + n9) → (k0 ≤ N 13) → (lookS N F B k0 = (F1, B1)) → (Iv N F1) → ∀ (H : Heap) (locs : List Loc) (ls : Array Slot), qM G A s x ar C (N, F1, B1) H locs → lv_has ls 14 [(9, .int (nI (k0))), (0, .ref (ar 0)), (1, .ref (ar 1)), (2, .ref (ar 2)), (3, .ref (ar 3)), (4, .ref (ar 4)), (5, .ref (ar 6)), (6, .ref (ar 7)), (7, .ref (ar 8)), (8, .ref (ar 9))] → W p l e ({ frames := 4, cells := 0, slots := 0, locals := 109 } : Room) s m args below meth c H locs (0) (0) (QZ G A x ar (fun r C' D' => r = none ∧ C = C' ∧ D' = (N, (lookS N F B (N 13)).1, (lookS N F B (N 13)).2)) below args s 0 0) (F0 m 3 ls []) := by
    intro n9
    induction n9 with
    | zero => intro k0 F1 B1 hm9 hk0 hLk hI1; exact absurd hm9 (by omega)
    | succ n9 ih_outer =>
      intro k0 F1 B1 hm9 hk0 hLk hI1 H locs ls h hl
      have h6 := qM.n6 h
      refine lv_iload X.1 X.2.1 dL_looks_3 (lv_at hl 0 rfl) ?_
      refine lv_aload X.1 X.2.1 dL_looks_5 (lv_at hl 9 rfl) ?_
      refine lv_iconst (v := nI (4)) X.1 X.2.1 dL_looks_7 (by decide) ?_
      refine q_ald X h 9 (by decide) dL_looks_8 (i := 4) (v := nI (N 13)) rfl (by show _ < 9; omega) (fun V r => LR.g4 r) ?_
      refine b_icmp_ge (tgt := 200) X dL_looks_9 (by decide) (a := ((k0 : Nat) : Int)) (b := ((N 13 : Nat) : Int)) (nI_ti (by omega)) (nI_ti (by omega)) (fun c1 => ?_) (fun c1 => ?_)
      · skip
        exact q_vret X hr hlocks h dL_looks_200 ⟨Nat.le_of_ble_eq_true rfl, Nat.le_of_ble_eq_true rfl⟩ (⟨rfl, rfl, by rw [show k0 = N 13 by omega] at hLk; rw [hLk]⟩)
      · skip
        refine lv_aload_n X.1 X.2.1 dL_looks_12 rfl (lv_at hl 1 rfl) ?_
        refine lv_aload_n X.1 X.2.1 dL_looks_13 rfl (lv_at hl 2 rfl) ?_
        refine lv_aload_n X.1 X.2.1 dL_looks_14 rfl (lv_at hl 3 rfl) ?_
        refine lv_aload X.1 X.2.1 dL_looks_15 (lv_at hl 9 rfl) ?_
        refine lv_aload_n X.1 X.2.1 dL_looks_17 rfl (lv_at hl 4 rfl) ?_
        refine lv_iload X.1 X.2.1 dL_looks_18 (lv_at hl 0 rfl) ?_
        refine q_ald X h 3 (by decide) dL_looks_20 (i := k0) (v := nI (kvS F1 k0)) rfl (by show _ < 36; omega) (fun V r => LR.k3 r (by omega)) ?_
        have b2 := kv_b hI1 (show k0 < N 13 by omega)
        refine lv_bipush (v := nI (16)) X.1 X.2.1 dL_looks_21 (by decide) ?_
        refine lv_irem X.1 X.2.1 dL_looks_23 (by decide) ?_
        refine lv_top (y := nI (F1 14 k0)) ((pk_rem (by omega) (by omega) (by omega)).trans (congrArg nI b2.2.1)) ?_
        refine lv_aload_n X.1 X.2.1 dL_looks_24 rfl (lv_at hl 4 rfl) ?_
        refine lv_iload X.1 X.2.1 dL_looks_25 (lv_at hl 0 rfl) ?_
        refine q_ald X h 3 (by decide) dL_looks_27 (i := k0) (v := nI (kvS F1 k0)) rfl (by show _ < 36; omega) (fun V r => LR.k3 r (by omega)) ?_
        have b3 := kv_b hI1 (show k0 < N 13 by omega)
        refine lv_bipush (v := nI (16)) X.1 X.2.1 dL_looks_28 (by decide) ?_
        refine lv_idiv X.1 X.2.1 dL_looks_30 (by decide) ?_
        refine lv_top (y := nI (F1 15 k0)) ((pk_div (by omega) (by omega) (by omega)).trans (congrArg nI b3.2.2.1)) ?_
        refine q_call X hS hZ hN h ck_L_88 kst_L_who dL_looks_31 (As := [.ref (ar 0), .ref (ar 1), .ref (ar 2), .ref (ar 9), .int (nI (F1 14 k0)), .int (nI (F1 15 k0))]) (c_L_who l G x ar C N F1 B1 (F1 14 k0) (F1 15 k0) (hI1).ih (by omega) (by omega) (by omega)) rfl hl rfl (Nat.le_of_ble_eq_true rfl) ⟨Nat.le_of_ble_eq_true rfl, Nat.le_of_ble_eq_true rfl⟩ ⟨Nat.le_of_ble_eq_true rfl, Nat.le_of_ble_eq_true rfl⟩ ?_
        rintro _ _ _ H locs ⟨rfl, rfl, rfl⟩ h
        obtain ⟨v, hv⟩ : ∃ v, heirS N F1 (F1 14 k0) (F1 15 k0) = v := ⟨_, rfl⟩
        rw [hv]
        have hvb : v ≤ N 1 := by rw [← hv]; exact heirS_le _ _ _ _
        refine lv_istore (lv' := [(10, .int (nI (v) - 1)), (9, .int (nI (k0))), (0, .ref (ar 0)), (1, .ref (ar 1)), (2, .ref (ar 2)), (3, .ref (ar 3)), (4, .ref (ar 4)), (5, .ref (ar 6)), (6, .ref (ar 7)), (7, .ref (ar 8)), (8, .ref (ar 9))]) X.1 X.2.1 dL_looks_34 hl (by decide) rfl (fun ls hl => ?_)
        refine lv_aload X.1 X.2.1 dL_looks_36 (lv_at hl 6 rfl) ?_
        refine lv_iload X.1 X.2.1 dL_looks_38 (lv_at hl 1 rfl) ?_
        refine q_ald X h 4 (by decide) dL_looks_40 (i := k0) (v := nI (hvS F1 k0)) rfl (by show _ < 36; omega) (fun V r => LR.h4 r (by omega)) ?_
        have b4 := hv_b hI1 (show k0 < N 13 by omega)
        refine lv_bipush (v := nI (32)) X.1 X.2.1 dL_looks_41 (by decide) ?_
        refine lv_irem X.1 X.2.1 dL_looks_43 (by decide) ?_
        refine lv_top (y := nI (F1 16 k0)) ((pk_rem (by omega) (by omega) (by omega)).trans (congrArg nI b4.2.1)) ?_
        refine lv_iconst (v := nI (1)) X.1 X.2.1 dL_looks_44 (by decide) ?_
        refine lv_isub X.1 X.2.1 dL_looks_45 ?_
        refine lv_top (y := nI (F1 16 k0) - 1) rfl ?_
        refine lv_istore (lv' := [(11, .int (nI (F1 16 k0) - 1)), (10, .int (nI (v) - 1)), (9, .int (nI (k0))), (0, .ref (ar 0)), (1, .ref (ar 1)), (2, .ref (ar 2)), (3, .ref (ar 3)), (4, .ref (ar 4)), (5, .ref (ar 6)), (6, .ref (ar 7)), (7, .ref (ar 8)), (8, .ref (ar 9))]) X.1 X.2.1 dL_looks_46 hl (by decide) rfl (fun ls hl => ?_)
        refine lv_iload X.1 X.2.1 dL_looks_48 (lv_at hl 1 rfl) ?_
        refine lv_iload X.1 X.2.1 dL_looks_50 (lv_at hl 0 rfl) ?_
        refine b_icmp_eq (tgt := 194) X dL_looks_52 (by decide) (a := ((v : Nat) : Int) - 1) (b := ((F1 16 k0 : Nat) : Int) - 1) (eI_ti (by omega)) (eI_ti (by omega)) (fun c5 => ?_) (fun c5 => ?_)
        · skip
          refine lv_iinc (v := nI (k0 + 1)) (lv' := [(9, .int (nI (k0 + 1))), (11, .int (nI (F1 16 k0) - 1)), (10, .int (nI (v) - 1)), (0, .ref (ar 0)), (1, .ref (ar 1)), (2, .ref (ar 2)), (3, .ref (ar 3)), (4, .ref (ar 4)), (5, .ref (ar 6)), (6, .ref (ar 7)), (7, .ref (ar 8)), (8, .ref (ar 9))]) X.1 X.2.1 dL_looks_194 hl (k := 2) rfl (nI_add (k0) 1) (by decide) rfl (fun ls hl => ?_)
          refine lv_goto (tgt := 3) X.1 X.2.1 dL_looks_197 (by decide) ?_
          exact ih_outer (k0 + 1) F1 B1 (by omega) (by omega) (lk_eq hLk hv (by omega)) hI1 _ _ _ h (lv_sub hl [0, 3, 4, 5, 6, 7, 8, 9, 10, 11] rfl)
        · skip
          refine lv_aload X.1 X.2.1 dL_looks_55 (lv_at hl 7 rfl) ?_
          refine lv_iload X.1 X.2.1 dL_looks_57 (lv_at hl 2 rfl) ?_
          refine lv_aload X.1 X.2.1 dL_looks_59 (lv_at hl 7 rfl) ?_
          refine lv_iload X.1 X.2.1 dL_looks_61 (lv_at hl 2 rfl) ?_
          refine q_ald X h 4 (by decide) dL_looks_63 (i := k0) (v := nI (hvS F1 k0)) rfl (by show _ < 36; omega) (fun V r => LR.h4 r (by omega)) ?_
          have b6 := hv_b hI1 (show k0 < N 13 by omega)
          refine lv_bipush (v := nI (32)) X.1 X.2.1 dL_looks_64 (by decide) ?_
          refine lv_idiv X.1 X.2.1 dL_looks_66 (by decide) ?_
          refine lv_top (y := nI ((hvS F1 k0) / 32)) (pk_div (by omega) (by omega) (by omega)) ?_
          refine lv_bipush (v := nI (32)) X.1 X.2.1 dL_looks_67 (by decide) ?_
          refine lv_imul X.1 X.2.1 dL_looks_69 ?_
          refine lv_top (y := nI (((hvS F1 k0) / 32) * 32)) (pk_mul _ _) ?_
          refine lv_iload X.1 X.2.1 dL_looks_70 (lv_at hl 1 rfl) ?_
          refine lv_iadd X.1 X.2.1 dL_looks_72 ?_
          refine lv_top (y := nI (((hvS F1 k0) / 32) * 32) + (nI (v) - 1)) (rfl) ?_
          refine lv_iconst (v := nI (1)) X.1 X.2.1 dL_looks_73 (by decide) ?_
          refine lv_iadd X.1 X.2.1 dL_looks_74 ?_
          refine lv_top (y := nI (hvS F1 k0 / 32 * 32 + v)) (sh_add2 _ _) ?_
          refine q_ast X h 4 (by decide) dL_looks_75 (i := k0) N (set1 F1 16 (k0) (v)) B1 rfl (by show _ < 36; omega) (fun V r => LR.wh16 r hI1 (by omega) v) (fun H locs h => ?_)
          refine lv_aload X.1 X.2.1 dL_looks_76 (lv_at hl 8 rfl) ?_
          refine lv_iload X.1 X.2.1 dL_looks_78 (lv_at hl 2 rfl) ?_
          refine q_ald X h 6 (by decide) dL_looks_80 (i := k0) (v := nI (F1 20 (k0))) rfl (by show _ < 36; omega) (fun V r => LR.f6 r (by omega) (by omega)) ?_
          have b7 := hI1.k (k := k0) (by omega)
          refine b_if_le (tgt := 115) X dL_looks_81 (by decide) (a := ((F1 20 (k0) : Nat) : Int)) (nI_ti (by omega)) (fun c8 => ?_) (fun c8 => ?_)
          · skip
            refine lv_aload X.1 X.2.1 dL_looks_115 (lv_at hl 9 rfl) ?_
            refine lv_iload X.1 X.2.1 dL_looks_117 (lv_at hl 2 rfl) ?_
            refine q_ald X h 7 (by decide) dL_looks_119 (i := k0) (v := nI (F1 21 (k0))) rfl (by show _ < 36; omega) (fun V r => LR.n7 r (by omega) (by omega)) ?_
            have b9 := hI1.k (k := k0) (by omega)
            refine lv_iconst (v := nI (1)) X.1 X.2.1 dL_looks_120 (by decide) ?_
            refine lv_isub X.1 X.2.1 dL_looks_121 ?_
            refine lv_top (y := nI (F1 21 (k0)) - 1) rfl ?_
            refine lv_istore (lv' := [(12, .int (nI (F1 21 (k0)) - 1)), (11, .int (nI (F1 16 k0) - 1)), (10, .int (nI (v) - 1)), (9, .int (nI (k0))), (0, .ref (ar 0)), (1, .ref (ar 1)), (2, .ref (ar 2)), (3, .ref (ar 3)), (4, .ref (ar 4)), (5, .ref (ar 6)), (6, .ref (ar 7)), (7, .ref (ar 8)), (8, .ref (ar 9))]) X.1 X.2.1 dL_looks_122 hl (by decide) rfl (fun ls hl => ?_)
            have h20 : F1 20 k0 = 0 := by omega
            have inner : ∀ (n9 : Nat) (t : Nat) (B2 : Nat → Int32), (t < n9) → (t ≤ F1 21 k0) → (undoS F1 k0 B2 t = undoS F1 k0 B1 (F1 21 k0)) → ∀ (H : Heap) (locs : List Loc) (ls : Array Slot), qM G A s x ar C (N, (set1 F1 16 (k0) (v)), B2) H locs → lv_has ls 14 [(12, .int (nI (t) - 1)), (9, .int (nI (k0))), (10, .int (nI (v) - 1)), (11, .int (nI (F1 16 k0) - 1)), (0, .ref (ar 0)), (1, .ref (ar 1)), (2, .ref (ar 2)), (3, .ref (ar 3)), (4, .ref (ar 4)), (5, .ref (ar 6)), (6, .ref (ar 7)), (7, .ref (ar 8)), (8, .ref (ar 9))] → W p l e ({ frames := 4, cells := 0, slots := 0, locals := 109 } : Room) s m args below meth c H locs (0) (0) (QZ G A x ar (fun r C' D' => r = none ∧ C = C' ∧ D' = (N, (lookS N F B (N 13)).1, (lookS N F B (N 13)).2)) below args s 0 0) (F0 m 124 ls []) := by
              intro n9
              induction n9 with
              | zero => intro t B2 hm9 ht hB; exact absurd hm9 (by omega)
              | succ n9 ih_inner =>
                intro t B2 hm9 ht hB H locs ls h hl
                refine lv_iload X.1 X.2.1 dL_looks_124 (lv_at hl 0 rfl) ?_
                refine b_if_lt (tgt := 171) X dL_looks_126 (by decide) (a := ((t : Nat) : Int) - 1) (eI_ti (by omega)) (fun c10 => ?_) (fun c10 => ?_)
                · skip
                  refine lv_aload X.1 X.2.1 dL_looks_171 (lv_at hl 10 rfl) ?_
                  refine lv_iload X.1 X.2.1 dL_looks_173 (lv_at hl 1 rfl) ?_
                  refine lv_iconst (v := nI (0)) X.1 X.2.1 dL_looks_175 (by decide) ?_
                  refine q_ast X h 7 (by decide) dL_looks_176 (i := k0) N (set1 (set1 F1 16 (k0) (v)) 21 (k0) (0)) B2 rfl (by show _ < 36; omega) (fun V r => LR.wn0 r (by omega) (by omega)) (fun H locs h => ?_)
                  refine lv_aload X.1 X.2.1 dL_looks_177 (lv_at hl 8 rfl) ?_
                  refine lv_iload X.1 X.2.1 dL_looks_179 (lv_at hl 1 rfl) ?_
                  refine lv_iload X.1 X.2.1 dL_looks_181 (lv_at hl 2 rfl) ?_
                  refine lv_iconst (v := nI (1)) X.1 X.2.1 dL_looks_183 (by decide) ?_
                  refine lv_iadd X.1 X.2.1 dL_looks_184 ?_
                  refine lv_top (y := nI (v)) (sh_suc _) ?_
                  refine lv_bipush (v := nI (32)) X.1 X.2.1 dL_looks_185 (by decide) ?_
                  refine lv_iload X.1 X.2.1 dL_looks_187 (lv_at hl 2 rfl) ?_
                  refine lv_iconst (v := nI (1)) X.1 X.2.1 dL_looks_189 (by decide) ?_
                  refine lv_iadd X.1 X.2.1 dL_looks_190 ?_
                  refine lv_top (y := nI (v)) (sh_suc _) ?_
                  refine lv_imul X.1 X.2.1 dL_looks_191 ?_
                  refine lv_top (y := nI (32 * v)) (pk_mul _ _) ?_
                  refine lv_iadd X.1 X.2.1 dL_looks_192 ?_
                  refine lv_top (y := nI (v + (32 * v))) (nI_add _ _) ?_
                  refine q_ast X h 4 (by decide) dL_looks_193 (i := k0) N (inhF F1 k0 v) B2 rfl (by show _ < 36; omega) (fun V r => LR.whe r h20) (fun H locs h => ?_)
                  refine lv_iinc (v := nI (k0 + 1)) (lv' := [(9, .int (nI (k0 + 1))), (12, .int (nI (t) - 1)), (10, .int (nI (v) - 1)), (11, .int (nI (F1 16 k0) - 1)), (0, .ref (ar 0)), (1, .ref (ar 1)), (2, .ref (ar 2)), (3, .ref (ar 3)), (4, .ref (ar 4)), (5, .ref (ar 6)), (6, .ref (ar 7)), (7, .ref (ar 8)), (8, .ref (ar 9))]) X.1 X.2.1 dL_looks_194 hl (k := 1) rfl (nI_add (k0) 1) (by decide) rfl (fun ls hl => ?_)
                  refine lv_goto (tgt := 3) X.1 X.2.1 dL_looks_197 (by decide) ?_
                  have hlk := lk_ne hLk hv (by omega)
                  exact ih_outer (k0 + 1) (inhF F1 k0 v) B2 (by omega) (by omega) (hlk.trans (inh_b h20 (by obtain rfl : t = 0 := (by omega); exact hB))) (Iv.inh hI1 (by omega) hvb) _ _ _ h (lv_sub hl [0, 4, 5, 6, 7, 8, 9, 10, 11, 12] rfl)
                · skip
                  obtain ⟨u, rfl⟩ : ∃ u, t = u + 1 := ⟨t - 1, by omega⟩
                  have hl : lv_has ls 14 [(12, .int (nI (u))), (9, .int (nI (k0))), (10, .int (nI (v) - 1)), (11, .int (nI (F1 16 k0) - 1)), (0, .ref (ar 0)), (1, .ref (ar 1)), (2, .ref (ar 2)), (3, .ref (ar 3)), (4, .ref (ar 4)), (5, .ref (ar 6)), (6, .ref (ar 7)), (7, .ref (ar 8)), (8, .ref (ar 9))] := by rw [show nI u = nI (u + 1) - 1 from (nI_pred _).symm]; exact hl
                  have hsl : F1 21 k0 ≤ 10 ∧ (5 < k0 → F1 21 k0 = 0) := qM.sl h (show k0 < N 13 by omega)
                  refine lv_aload X.1 X.2.1 dL_looks_129 (lv_at hl 11 rfl) ?_
                  refine lv_bipush (v := nI (10)) X.1 X.2.1 dL_looks_131 (by decide) ?_
                  refine lv_iload X.1 X.2.1 dL_looks_133 (lv_at hl 1 rfl) ?_
                  refine lv_imul X.1 X.2.1 dL_looks_135 ?_
                  refine lv_top (y := nI (10 * k0)) (pk_mul _ _) ?_
                  refine lv_iload X.1 X.2.1 dL_looks_136 (lv_at hl 0 rfl) ?_
                  refine lv_iadd X.1 X.2.1 dL_looks_138 ?_
                  refine lv_top (y := nI (10 * k0 + u)) (nI_add _ _) ?_
                  refine q_ald X h 8 (by decide) dL_looks_139 (i := 10 * k0 + u) (v := nI (svS F1 (20 * k0 + u))) rfl (by show _ < 60; omega) (fun V r => LR.s8 (k := k0) (i := u) r (by omega) (show _ < F1 21 k0 by omega)) ?_
                  have b11 := sv_b hI1 (k := k0) (i := u) (by omega) (by omega)
                  refine lv_istore (lv' := [(13, .int (nI (svS F1 (20 * k0 + u)))), (12, .int (nI (u))), (9, .int (nI (k0))), (10, .int (nI (v) - 1)), (11, .int (nI (F1 16 k0) - 1)), (0, .ref (ar 0)), (1, .ref (ar 1)), (2, .ref (ar 2)), (3, .ref (ar 3)), (4, .ref (ar 4)), (5, .ref (ar 6)), (6, .ref (ar 7)), (7, .ref (ar 8)), (8, .ref (ar 9))]) X.1 X.2.1 dL_looks_140 hl (by decide) rfl (fun ls hl => ?_)
                  refine lv_aload_n X.1 X.2.1 dL_looks_142 rfl (lv_at hl 5 rfl) ?_
                  refine lv_iload X.1 X.2.1 dL_looks_143 (lv_at hl 0 rfl) ?_
                  refine lv_bipush (v := nI (16)) X.1 X.2.1 dL_looks_145 (by decide) ?_
                  refine lv_irem X.1 X.2.1 dL_looks_147 (by decide) ?_
                  refine lv_top (y := nI (F1 22 (20 * k0 + u))) ((pk_rem (by omega) (by omega) (by omega)).trans (congrArg nI b11.2.1)) ?_
                  refine lv_top (y := nI (F1 22 (20 * k0 + u) + 1) - 1) (eI_suc _) ?_
                  refine lv_iload X.1 X.2.1 dL_looks_148 (lv_at hl 0 rfl) ?_
                  refine lv_bipush (v := nI (16)) X.1 X.2.1 dL_looks_150 (by decide) ?_
                  refine lv_idiv X.1 X.2.1 dL_looks_152 (by decide) ?_
                  refine lv_top (y := nI ((svS F1 (20 * k0 + u)) / 16)) (pk_div (by omega) (by omega) (by omega)) ?_
                  refine lv_bipush (v := nI (16)) X.1 X.2.1 dL_looks_153 (by decide) ?_
                  refine lv_irem X.1 X.2.1 dL_looks_155 (by decide) ?_
                  refine lv_top (y := nI (F1 23 (20 * k0 + u))) ((pk_rem (by omega) (by omega) (by omega)).trans (congrArg nI b11.2.2.1)) ?_
                  refine lv_top (y := nI (F1 23 (20 * k0 + u) + 1) - 1) (eI_suc _) ?_
                  refine lv_iload X.1 X.2.1 dL_looks_156 (lv_at hl 0 rfl) ?_
                  refine lv_sipush (v := nI (256)) X.1 X.2.1 dL_looks_158 (by decide) ?_
                  refine lv_idiv X.1 X.2.1 dL_looks_161 (by decide) ?_
                  refine lv_top (y := nI (F1 24 (20 * k0 + u))) ((pk_div (by omega) (by omega) (by omega)).trans (congrArg nI b11.2.2.2.1)) ?_
                  refine q_call X hS hZ hN h ck_L_91 kst_L_pays dL_looks_162 (As := [.ref (ar 0), .int (nI (F1 22 (20 * k0 + u) + 1) - 1), .int (nI (F1 23 (20 * k0 + u) + 1) - 1), .int (nI (F1 24 (20 * k0 + u)))]) (c_L_pays l G x ar C N (set1 F1 16 (k0) (v)) B2 (F1 22 (20 * k0 + u) + 1) (F1 23 (20 * k0 + u) + 1) (F1 24 (20 * k0 + u)) (by omega) (by omega) (by omega)) rfl hl rfl (Nat.le_of_ble_eq_true rfl) ⟨Nat.le_of_ble_eq_true rfl, Nat.le_of_ble_eq_true rfl⟩ ⟨Nat.le_of_ble_eq_true rfl, Nat.le_of_ble_eq_true rfl⟩ ?_
                  rintro _ _ _ H locs ⟨rfl, rfl, rfl⟩ h
                  refine lv_iinc (v := nI (u) - 1) (lv' := [(12, .int (nI (u) - 1)), (13, .int (nI (svS F1 (20 * k0 + u)))), (9, .int (nI (k0))), (10, .int (nI (v) - 1)), (11, .int (nI (F1 16 k0) - 1)), (0, .ref (ar 0)), (1, .ref (ar 1)), (2, .ref (ar 2)), (3, .ref (ar 3)), (4, .ref (ar 4)), (5, .ref (ar 6)), (6, .ref (ar 7)), (7, .ref (ar 8)), (8, .ref (ar 9))]) X.1 X.2.1 dL_looks_165 hl (k := 1) rfl (dec_sh _) (by decide) rfl (fun ls hl => ?_)
                  refine lv_goto (tgt := 124) X.1 X.2.1 dL_looks_168 (by decide) ?_
                  exact ih_inner u (payS B2 (F1 22 (20 * k0 + u) + 1) (F1 23 (20 * k0 + u) + 1) (F1 24 (20 * k0 + u))) (by omega) (by omega) hB _ _ _ h (lv_sub hl [0, 2, 3, 4, 5, 6, 7, 8, 9, 10, 11, 12, 13] rfl)
            exact inner (F1 21 k0 + 1) (F1 21 k0) B1 (by omega) (Nat.le_refl _) rfl _ _ _ h (lv_sub hl [0, 3, 2, 1, 4, 5, 6, 7, 8, 9, 10, 11, 12] rfl)
          · skip
            have hsl : F1 21 k0 ≤ 10 ∧ (5 < k0 → F1 21 k0 = 0) := qM.sl h (show k0 < N 13 by omega)
            refine lv_aload_n X.1 X.2.1 dL_looks_84 rfl (lv_at hl 3 rfl) ?_
            refine lv_iload X.1 X.2.1 dL_looks_85 (lv_at hl 0 rfl) ?_
            refine lv_iload X.1 X.2.1 dL_looks_87 (lv_at hl 1 rfl) ?_
            refine lv_aload X.1 X.2.1 dL_looks_89 (lv_at hl 10 rfl) ?_
            refine lv_bipush (v := nI (10)) X.1 X.2.1 dL_looks_91 (by decide) ?_
            refine lv_iload X.1 X.2.1 dL_looks_93 (lv_at hl 2 rfl) ?_
            refine lv_imul X.1 X.2.1 dL_looks_95 ?_
            refine lv_top (y := nI (10 * k0)) (pk_mul _ _) ?_
            refine lv_aload X.1 X.2.1 dL_looks_96 (lv_at hl 8 rfl) ?_
            refine lv_iload X.1 X.2.1 dL_looks_98 (lv_at hl 2 rfl) ?_
            refine q_ald X h 6 (by decide) dL_looks_100 (i := k0) (v := nI (F1 20 (k0))) rfl (by show _ < 36; omega) (fun V r => LR.f6 r (by omega) (by omega)) ?_
            have b12 := hI1.k (k := k0) (by omega)
            refine lv_iadd X.1 X.2.1 dL_looks_101 ?_
            refine lv_top (y := nI (10 * k0 + (F1 20 (k0)))) (nI_add _ _) ?_
            refine lv_iconst (v := nI (1)) X.1 X.2.1 dL_looks_102 (by decide) ?_
            refine lv_isub X.1 X.2.1 dL_looks_103 ?_
            refine lv_top (y := nI (10 * k0 + (F1 20 (k0) - 1))) ((pk_sub (by omega)).trans (congrArg nI (by omega))) ?_
            refine q_ald X h 8 (by decide) dL_looks_104 (i := 10 * k0 + (F1 20 (k0) - 1)) (v := nI (svS F1 (20 * k0 + (F1 20 (k0) - 1)))) rfl (by show _ < 60; omega) (fun V r => LR.s8 (k := k0) (i := F1 20 (k0) - 1) r (by omega) (show _ < F1 21 k0 by omega)) ?_
            have b13 := sv_b hI1 (k := k0) (i := F1 20 (k0) - 1) (by omega) (by omega)
            refine lv_sipush (v := nI (256)) X.1 X.2.1 dL_looks_105 (by decide) ?_
            refine lv_idiv X.1 X.2.1 dL_looks_108 (by decide) ?_
            refine lv_top (y := nI (F1 24 (20 * k0 + (F1 20 (k0) - 1)))) ((pk_div (by omega) (by omega) (by omega)).trans (congrArg nI b13.2.2.2.1)) ?_
            refine q_call X hS hZ hN h ck_L_91 kst_L_pays dL_looks_109 (As := [.ref (ar 0), .int (nI (F1 16 k0) - 1), .int (nI (v) - 1), .int (nI (F1 24 (20 * k0 + (F1 20 (k0) - 1))))]) (c_L_pays l G x ar C N (set1 F1 16 (k0) (v)) B1 (F1 16 k0) v (F1 24 (20 * k0 + (F1 20 (k0) - 1))) (by omega) (by omega) (by omega)) rfl hl rfl (Nat.le_of_ble_eq_true rfl) ⟨Nat.le_of_ble_eq_true rfl, Nat.le_of_ble_eq_true rfl⟩ ⟨Nat.le_of_ble_eq_true rfl, Nat.le_of_ble_eq_true rfl⟩ ?_
            rintro _ _ _ H locs ⟨rfl, rfl, rfl⟩ h
            refine lv_goto (tgt := 194) X.1 X.2.1 dL_looks_112 (by decide) ?_
            refine lv_iinc (v := nI (k0 + 1)) (lv' := [(9, .int (nI (k0 + 1))), (11, .int (nI (F1 16 k0) - 1)), (10, .int (nI (v) - 1)), (0, .ref (ar 0)), (1, .ref (ar 1)), (2, .ref (ar 2)), (3, .ref (ar 3)), (4, .ref (ar 4)), (5, .ref (ar 6)), (6, .ref (ar 7)), (7, .ref (ar 8)), (8, .ref (ar 9))]) X.1 X.2.1 dL_looks_194 hl (k := 2) rfl (nI_add (k0) 1) (by decide) rfl (fun ls hl => ?_)
            refine lv_goto (tgt := 3) X.1 X.2.1 dL_looks_197 (by decide) ?_
            have hlk := lk_ne hLk hv (by omega)
            rw [inh_g (by omega)] at hlk
            exact ih_outer (k0 + 1) (set1 F1 16 (k0) (v)) (payS B1 (F1 16 k0) v (F1 24 (20 * k0 + (F1 20 (k0) - 1)))) (by omega) (by omega) hlk (by have q9 := Iv.inh (v := v) hI1 (show k0 < N 13 by omega) hvb; rw [inhF, if_neg (by omega)] at q9; exact q9) _ _ _ h (lv_sub hl [0, 3, 4, 5, 6, 7, 8, 9, 10, 11] rfl)
  exact outer (N 13 + 1) 0 F B (by omega) (by omega) rfl hI _ _ _ h (lv_sub hl [0, 1, 2, 3, 4, 5, 6, 7, 8, 9] rfl)
