theorem set1_row (F : Nat → Nat → Nat) {k k2 i v : Nat} (h : k2 ≠ k) : set1 F k i v k2 = F k2 := by funext z; exact set1_off F (Or.inl h)
theorem set1_z {F : Nat → Nat → Nat} {k i : Nat} (h : ∀ z, z < i → F k z = 0) : ∀ z, z < i + 1 → set1 F k i 0 k z = 0 := fun z hz => by
  by_cases hzi : z = i
  · subst hzi; exact set1_at _ _ _ _
  · rw [set1_off F (Or.inr hzi)]; exact h z (by omega)
set_option maxHeartbeats 4000000 in
set_option maxRecDepth 100000 in
theorem c_X4_firstBehind (l : Launch) (G : mG) (ad : Nat → Nat → Nat) (N : Nat → Nat) (F : Nat → Nat → Nat) (B : Nat → Int32) (E P Q : Nat → Nat → Nat) (M : Mem) (R : RC G ad N F B E P Q M) (sj : Nat) (lead : Nat) (hs : sj < E 0 3) (hb : ∀ z, z < 16 → P sj z ≤ 1000 ∧ Q sj z ≤ 1000) (h0 : lead ≤ 16) : mMet l yX4_firstBehind cX4_firstBehind 4 (some FieldType.int) ({ frames := 2, cells := 0, slots := 0, locals := 45 } : Room) G [.ref (ad 3 (sj)), .int (nI (lead) - 1)] M (fun r M' => r = some (.int (nI (fbS (P sj) (Q sj) lead 16) - 1)) ∧ M = M') := by
  refine mMet.of (by decide) (Nat.le_of_ble_eq_true rfl) ?_
  intro p e s m args below meth c A ls X hr hlocks hname hM hl
  have hl : lv_has ls 4 [(0, .ref (ad 3 (sj))), (1, .int (nI (lead) - 1))] := hl
  refine lv_iconst (v := nI (0) - 1) X.1 X.2.1 dX4_firstBehind_0 (by decide) ?_
  refine lv_istore_n (lv' := [(2, .int (nI (0) - 1)), (0, .ref (ad 3 (sj))), (1, .int (nI (lead) - 1))]) X.1 X.2.1 dX4_firstBehind_1 rfl hl (by decide) rfl (fun ls hl => ?_)
  refine lv_iconst (v := nI (0)) X.1 X.2.1 dX4_firstBehind_2 (by decide) ?_
  refine lv_istore_n (lv' := [(3, .int (nI (0))), (2, .int (nI (0) - 1)), (0, .ref (ad 3 (sj))), (1, .int (nI (lead) - 1))]) X.1 X.2.1 dX4_firstBehind_3 rfl hl (by decide) rfl (fun ls hl => ?_)
  have loop : ∀ (n9 : Nat) (i : Nat) (f : Nat), (i ≤ 16) → (17 ≤ i + n9) → (f = fbS (P sj) (Q sj) lead i) → ∀ (H : Heap) (locs : List Loc) (ls : Array Slot), mW G A s.heap M H locs → lv_has ls 4 [(0, .ref (ad 3 (sj))), (1, .int (nI (lead) - 1)), (2, .int (nI (f) - 1)), (3, .int (nI (i)))] → W p l e ({ frames := 2, cells := 0, slots := 0, locals := 45 } : Room) s m args below meth c H locs 0 0 (MQ below (mQ G A (fun r M' => r = some (.int (nI (fbS (P sj) (Q sj) lead 16) - 1)) ∧ M = M')) args s 0 0 A) (F0 m 4 ls []) := by
    intro n9
    induction n9 with
    | zero => intro i f hi hm9 hf; exact absurd hm9 (by omega)
    | succ n9 ih_loop =>
      intro i f hi hm9 hf H locs ls hM hl
      have hf2 : f ≤ i := by rw [hf]; exact fbS_le _ _ _ _
      refine lv_iload_n X.1 X.2.1 dX4_firstBehind_4 rfl (lv_at hl 3 rfl) ?_
      refine lv_aload_n X.1 X.2.1 dX4_firstBehind_5 rfl (lv_at hl 0 rfl) ?_
      refine mg_get X hM (ci := 5) (k := 1) rfl kwX4 (by decide) kf_X4_9 dX4_firstBehind_6 (R.1 3 (sj) (show sj < E 0 3 by omega)) (v := .ref (ad 4 (sj))) rfl ?_
      refine mg_alen X hM 0 rfl dX4_firstBehind_9 (R.1 4 (sj) (show sj < E 0 3 by omega)) ?_
      refine b_icmp_ge (tgt := 58) X dX4_firstBehind_10 (by decide) (a := ((i : Nat) : Int)) (b := ((16 : Nat) : Int)) (nI_ti (by omega)) (nI_ti (by omega)) (fun c1 => ?_) (fun c1 => ?_)
      · skip
        refine lv_iload_n X.1 X.2.1 dX4_firstBehind_58 rfl (lv_at hl 2 rfl) ?_
        exact m_iret X hr hlocks hM dX4_firstBehind_59 ⟨Nat.le_of_ble_eq_true rfl, Nat.le_of_ble_eq_true rfl⟩ (⟨congrArg (fun z => some (Value.int (nI z - 1))) (by rw [hf, show i = 16 by omega]), rfl⟩)
      · skip
        refine lv_aload_n X.1 X.2.1 dX4_firstBehind_13 rfl (lv_at hl 0 rfl) ?_
        refine mg_get X hM (ci := 5) (k := 1) rfl kwX4 (by decide) kf_X4_9 dX4_firstBehind_14 (R.1 3 (sj) (show sj < E 0 3 by omega)) (v := .ref (ad 4 (sj))) rfl ?_
        refine lv_iload_n X.1 X.2.1 dX4_firstBehind_17 rfl (lv_at hl 3 rfl) ?_
        refine mx_iald X hM dX4_firstBehind_18 (R.1 4 (sj) (show sj < E 0 3 by omega)) (i := i) (by omega) (by decide) (v := nI (P (sj) (i))) rfl ?_
        have b2 := hb i (by omega)
        refine b_if_le (tgt := 52) X dX4_firstBehind_19 (by decide) (a := ((P (sj) (i) : Nat) : Int)) (nI_ti (by omega)) (fun c3 => ?_) (fun c3 => ?_)
        · skip
          refine lv_iinc (v := nI (i + 1)) (lv' := [(3, .int (nI (i + 1))), (0, .ref (ad 3 (sj))), (1, .int (nI (lead) - 1)), (2, .int (nI (f) - 1))]) X.1 X.2.1 dX4_firstBehind_52 hl (k := 3) rfl (nI_add (i) 1) (by decide) rfl (fun ls hl => ?_)
          refine lv_goto (tgt := 4) X.1 X.2.1 dX4_firstBehind_55 (by decide) ?_
          exact ih_loop (i + 1) (f) (by omega) (by omega) (fbS_f hf (decide_eq_false (fun z => by obtain ⟨z1, z2, z3⟩ := z; first | (exfalso; omega) | (rcases z2 with z2 | z2 <;> first | (exfalso; omega) | (rw [show ahM (P sj) (Q sj) (lead - 1) i = false by assumption] at z2; cases z2)) | (rcases z3 with z3 | z3 <;> first | (exfalso; omega) | (rw [show ahM (P sj) (Q sj) i (f - 1) = false by assumption] at z3; cases z3))))) _ _ _ hM (lv_sub hl [1, 2, 3, 0] rfl)
        · skip
          refine lv_iload_n X.1 X.2.1 dX4_firstBehind_22 rfl (lv_at hl 1 rfl) ?_
          refine lv_iconst (v := nI (0) - 1) X.1 X.2.1 dX4_firstBehind_23 (by decide) ?_
          refine b_icmp_eq (tgt := 36) X dX4_firstBehind_24 (by decide) (a := ((lead : Nat) : Int) - 1) (b := ((0 : Nat) : Int) - 1) (eI_ti (by omega)) (eI_ti (by omega)) (fun c4 => ?_) (fun c4 => ?_)
          · skip
            refine lv_iload_n X.1 X.2.1 dX4_firstBehind_36 rfl (lv_at hl 2 rfl) ?_
            refine lv_iconst (v := nI (0) - 1) X.1 X.2.1 dX4_firstBehind_37 (by decide) ?_
            refine b_icmp_eq (tgt := 50) X dX4_firstBehind_38 (by decide) (a := ((f : Nat) : Int) - 1) (b := ((0 : Nat) : Int) - 1) (eI_ti (by omega)) (eI_ti (by omega)) (fun c5 => ?_) (fun c5 => ?_)
            · skip
              refine lv_iload_n X.1 X.2.1 dX4_firstBehind_50 rfl (lv_at hl 3 rfl) ?_
              refine lv_top (y := nI (i + 1) - 1) (eI_suc _) ?_
              refine lv_istore_n (lv' := [(2, .int (nI (i + 1) - 1)), (0, .ref (ad 3 (sj))), (1, .int (nI (lead) - 1)), (3, .int (nI (i)))]) X.1 X.2.1 dX4_firstBehind_51 rfl hl (by decide) rfl (fun ls hl => ?_)
              refine lv_iinc (v := nI (i + 1)) (lv' := [(3, .int (nI (i + 1))), (2, .int (nI (i + 1) - 1)), (0, .ref (ad 3 (sj))), (1, .int (nI (lead) - 1))]) X.1 X.2.1 dX4_firstBehind_52 hl (k := 3) rfl (nI_add (i) 1) (by decide) rfl (fun ls hl => ?_)
              refine lv_goto (tgt := 4) X.1 X.2.1 dX4_firstBehind_55 (by decide) ?_
              exact ih_loop (i + 1) (i + 1) (by omega) (by omega) (fbS_t hf (decide_eq_true ⟨by omega, by first | exact Or.inl (by omega) | exact Or.inr (by assumption), by first | exact Or.inl (by omega) | exact Or.inr (by assumption)⟩)) _ _ _ hM (lv_sub hl [2, 3, 1, 0] rfl)
            · skip
              refine lv_aload_n X.1 X.2.1 dX4_firstBehind_41 rfl (lv_at hl 0 rfl) ?_
              refine lv_iload_n X.1 X.2.1 dX4_firstBehind_42 rfl (lv_at hl 3 rfl) ?_
              refine lv_iload_n X.1 X.2.1 dX4_firstBehind_43 rfl (lv_at hl 2 rfl) ?_
              refine lv_top (y := nI (f - 1)) (eI_pos (by omega)) ?_
              refine m_callV X hM ck_X4_26 ki_X4_isAhead ks_X4_isAhead (ci := 5) rfl dX4_firstBehind_44 (As := [.int (nI (i)), .int (nI (f - 1))]) (c_X4_isAhead l G ad N F B E P Q _ R sj i (f - 1) (show _ < E 0 3 by omega) hb (by omega) (by omega)) (R.1 3 (sj) (show sj < E 0 3 by omega)) rfl hl rfl (Nat.le_of_ble_eq_true rfl) ⟨Nat.le_of_ble_eq_true rfl, Nat.le_of_ble_eq_true rfl⟩ ⟨Nat.le_of_ble_eq_true rfl, Nat.le_of_ble_eq_true rfl⟩ ?_
              rintro _ _ H locs ⟨rfl, rfl⟩ hM
              refine b_bool_eq (tgt := 52) X dX4_firstBehind_47 (by decide) (fun c6 => ?_) (fun c6 => ?_)
              · skip
                refine lv_iinc (v := nI (i + 1)) (lv' := [(3, .int (nI (i + 1))), (0, .ref (ad 3 (sj))), (1, .int (nI (lead) - 1)), (2, .int (nI (f) - 1))]) X.1 X.2.1 dX4_firstBehind_52 hl (k := 3) rfl (nI_add (i) 1) (by decide) rfl (fun ls hl => ?_)
                refine lv_goto (tgt := 4) X.1 X.2.1 dX4_firstBehind_55 (by decide) ?_
                exact ih_loop (i + 1) (f) (by omega) (by omega) (fbS_f hf (decide_eq_false (fun z => by obtain ⟨z1, z2, z3⟩ := z; first | (exfalso; omega) | (rcases z2 with z2 | z2 <;> first | (exfalso; omega) | (rw [show ahM (P sj) (Q sj) (lead - 1) i = false by assumption] at z2; cases z2)) | (rcases z3 with z3 | z3 <;> first | (exfalso; omega) | (rw [show ahM (P sj) (Q sj) i (f - 1) = false by assumption] at z3; cases z3))))) _ _ _ hM (lv_sub hl [1, 2, 3, 0] rfl)
              · skip
                refine lv_iload_n X.1 X.2.1 dX4_firstBehind_50 rfl (lv_at hl 3 rfl) ?_
                refine lv_top (y := nI (i + 1) - 1) (eI_suc _) ?_
                refine lv_istore_n (lv' := [(2, .int (nI (i + 1) - 1)), (0, .ref (ad 3 (sj))), (1, .int (nI (lead) - 1)), (3, .int (nI (i)))]) X.1 X.2.1 dX4_firstBehind_51 rfl hl (by decide) rfl (fun ls hl => ?_)
                refine lv_iinc (v := nI (i + 1)) (lv' := [(3, .int (nI (i + 1))), (2, .int (nI (i + 1) - 1)), (0, .ref (ad 3 (sj))), (1, .int (nI (lead) - 1))]) X.1 X.2.1 dX4_firstBehind_52 hl (k := 3) rfl (nI_add (i) 1) (by decide) rfl (fun ls hl => ?_)
                refine lv_goto (tgt := 4) X.1 X.2.1 dX4_firstBehind_55 (by decide) ?_
                exact ih_loop (i + 1) (i + 1) (by omega) (by omega) (fbS_t hf (decide_eq_true ⟨by omega, by first | exact Or.inl (by omega) | exact Or.inr (by assumption), by first | exact Or.inl (by omega) | exact Or.inr (by assumption)⟩)) _ _ _ hM (lv_sub hl [2, 3, 1, 0] rfl)
          · skip
            refine lv_aload_n X.1 X.2.1 dX4_firstBehind_27 rfl (lv_at hl 0 rfl) ?_
            refine lv_iload_n X.1 X.2.1 dX4_firstBehind_28 rfl (lv_at hl 1 rfl) ?_
            refine lv_top (y := nI (lead - 1)) (eI_pos (by omega)) ?_
            refine lv_iload_n X.1 X.2.1 dX4_firstBehind_29 rfl (lv_at hl 3 rfl) ?_
            refine m_callV X hM ck_X4_26 ki_X4_isAhead ks_X4_isAhead (ci := 5) rfl dX4_firstBehind_30 (As := [.int (nI (lead - 1)), .int (nI (i))]) (c_X4_isAhead l G ad N F B E P Q _ R sj (lead - 1) i (show _ < E 0 3 by omega) hb (by omega) (by omega)) (R.1 3 (sj) (show sj < E 0 3 by omega)) rfl hl rfl (Nat.le_of_ble_eq_true rfl) ⟨Nat.le_of_ble_eq_true rfl, Nat.le_of_ble_eq_true rfl⟩ ⟨Nat.le_of_ble_eq_true rfl, Nat.le_of_ble_eq_true rfl⟩ ?_
            rintro _ _ H locs ⟨rfl, rfl⟩ hM
            refine b_bool_eq (tgt := 52) X dX4_firstBehind_33 (by decide) (fun c7 => ?_) (fun c7 => ?_)
            · skip
              refine lv_iinc (v := nI (i + 1)) (lv' := [(3, .int (nI (i + 1))), (0, .ref (ad 3 (sj))), (1, .int (nI (lead) - 1)), (2, .int (nI (f) - 1))]) X.1 X.2.1 dX4_firstBehind_52 hl (k := 3) rfl (nI_add (i) 1) (by decide) rfl (fun ls hl => ?_)
              refine lv_goto (tgt := 4) X.1 X.2.1 dX4_firstBehind_55 (by decide) ?_
              exact ih_loop (i + 1) (f) (by omega) (by omega) (fbS_f hf (decide_eq_false (fun z => by obtain ⟨z1, z2, z3⟩ := z; first | (exfalso; omega) | (rcases z2 with z2 | z2 <;> first | (exfalso; omega) | (rw [show ahM (P sj) (Q sj) (lead - 1) i = false by assumption] at z2; cases z2)) | (rcases z3 with z3 | z3 <;> first | (exfalso; omega) | (rw [show ahM (P sj) (Q sj) i (f - 1) = false by assumption] at z3; cases z3))))) _ _ _ hM (lv_sub hl [1, 2, 3, 0] rfl)
            · skip
              refine lv_iload_n X.1 X.2.1 dX4_firstBehind_36 rfl (lv_at hl 2 rfl) ?_
              refine lv_iconst (v := nI (0) - 1) X.1 X.2.1 dX4_firstBehind_37 (by decide) ?_
              refine b_icmp_eq (tgt := 50) X dX4_firstBehind_38 (by decide) (a := ((f : Nat) : Int) - 1) (b := ((0 : Nat) : Int) - 1) (eI_ti (by omega)) (eI_ti (by omega)) (fun c8 => ?_) (fun c8 => ?_)
              · skip
                refine lv_iload_n X.1 X.2.1 dX4_firstBehind_50 rfl (lv_at hl 3 rfl) ?_
                refine lv_top (y := nI (i + 1) - 1) (eI_suc _) ?_
                refine lv_istore_n (lv' := [(2, .int (nI (i + 1) - 1)), (0, .ref (ad 3 (sj))), (1, .int (nI (lead) - 1)), (3, .int (nI (i)))]) X.1 X.2.1 dX4_firstBehind_51 rfl hl (by decide) rfl (fun ls hl => ?_)
                refine lv_iinc (v := nI (i + 1)) (lv' := [(3, .int (nI (i + 1))), (2, .int (nI (i + 1) - 1)), (0, .ref (ad 3 (sj))), (1, .int (nI (lead) - 1))]) X.1 X.2.1 dX4_firstBehind_52 hl (k := 3) rfl (nI_add (i) 1) (by decide) rfl (fun ls hl => ?_)
                refine lv_goto (tgt := 4) X.1 X.2.1 dX4_firstBehind_55 (by decide) ?_
                exact ih_loop (i + 1) (i + 1) (by omega) (by omega) (fbS_t hf (decide_eq_true ⟨by omega, by first | exact Or.inl (by omega) | exact Or.inr (by assumption), by first | exact Or.inl (by omega) | exact Or.inr (by assumption)⟩)) _ _ _ hM (lv_sub hl [2, 3, 1, 0] rfl)
              · skip
                refine lv_aload_n X.1 X.2.1 dX4_firstBehind_41 rfl (lv_at hl 0 rfl) ?_
                refine lv_iload_n X.1 X.2.1 dX4_firstBehind_42 rfl (lv_at hl 3 rfl) ?_
                refine lv_iload_n X.1 X.2.1 dX4_firstBehind_43 rfl (lv_at hl 2 rfl) ?_
                refine lv_top (y := nI (f - 1)) (eI_pos (by omega)) ?_
                refine m_callV X hM ck_X4_26 ki_X4_isAhead ks_X4_isAhead (ci := 5) rfl dX4_firstBehind_44 (As := [.int (nI (i)), .int (nI (f - 1))]) (c_X4_isAhead l G ad N F B E P Q _ R sj i (f - 1) (show _ < E 0 3 by omega) hb (by omega) (by omega)) (R.1 3 (sj) (show sj < E 0 3 by omega)) rfl hl rfl (Nat.le_of_ble_eq_true rfl) ⟨Nat.le_of_ble_eq_true rfl, Nat.le_of_ble_eq_true rfl⟩ ⟨Nat.le_of_ble_eq_true rfl, Nat.le_of_ble_eq_true rfl⟩ ?_
                rintro _ _ H locs ⟨rfl, rfl⟩ hM
                refine b_bool_eq (tgt := 52) X dX4_firstBehind_47 (by decide) (fun c9 => ?_) (fun c9 => ?_)
                · skip
                  refine lv_iinc (v := nI (i + 1)) (lv' := [(3, .int (nI (i + 1))), (0, .ref (ad 3 (sj))), (1, .int (nI (lead) - 1)), (2, .int (nI (f) - 1))]) X.1 X.2.1 dX4_firstBehind_52 hl (k := 3) rfl (nI_add (i) 1) (by decide) rfl (fun ls hl => ?_)
                  refine lv_goto (tgt := 4) X.1 X.2.1 dX4_firstBehind_55 (by decide) ?_
                  exact ih_loop (i + 1) (f) (by omega) (by omega) (fbS_f hf (decide_eq_false (fun z => by obtain ⟨z1, z2, z3⟩ := z; first | (exfalso; omega) | (rcases z2 with z2 | z2 <;> first | (exfalso; omega) | (rw [show ahM (P sj) (Q sj) (lead - 1) i = false by assumption] at z2; cases z2)) | (rcases z3 with z3 | z3 <;> first | (exfalso; omega) | (rw [show ahM (P sj) (Q sj) i (f - 1) = false by assumption] at z3; cases z3))))) _ _ _ hM (lv_sub hl [1, 2, 3, 0] rfl)
                · skip
                  refine lv_iload_n X.1 X.2.1 dX4_firstBehind_50 rfl (lv_at hl 3 rfl) ?_
                  refine lv_top (y := nI (i + 1) - 1) (eI_suc _) ?_
                  refine lv_istore_n (lv' := [(2, .int (nI (i + 1) - 1)), (0, .ref (ad 3 (sj))), (1, .int (nI (lead) - 1)), (3, .int (nI (i)))]) X.1 X.2.1 dX4_firstBehind_51 rfl hl (by decide) rfl (fun ls hl => ?_)
                  refine lv_iinc (v := nI (i + 1)) (lv' := [(3, .int (nI (i + 1))), (2, .int (nI (i + 1) - 1)), (0, .ref (ad 3 (sj))), (1, .int (nI (lead) - 1))]) X.1 X.2.1 dX4_firstBehind_52 hl (k := 3) rfl (nI_add (i) 1) (by decide) rfl (fun ls hl => ?_)
                  refine lv_goto (tgt := 4) X.1 X.2.1 dX4_firstBehind_55 (by decide) ?_
                  exact ih_loop (i + 1) (i + 1) (by omega) (by omega) (fbS_t hf (decide_eq_true ⟨by omega, by first | exact Or.inl (by omega) | exact Or.inr (by assumption), by first | exact Or.inl (by omega) | exact Or.inr (by assumption)⟩)) _ _ _ hM (lv_sub hl [2, 3, 1, 0] rfl)
  exact loop 17 0 0 (by omega) (by omega) rfl _ _ _ hM (lv_sub hl [2, 3, 1, 0] rfl)
set_option maxHeartbeats 4000000 in
set_option maxRecDepth 100000 in
theorem c_X4_playerOn (l : Launch) (G : mG) (ad : Nat → Nat → Nat) (N : Nat → Nat) (F : Nat → Nat → Nat) (B : Nat → Int32) (E P Q : Nat → Nat → Nat) (M : Mem) (R : RC G ad N F B E P Q M) (sj : Nat) (pl : Nat) (hs : sj < E 0 3) (hb : ∀ z, z < 16 → P sj z ≤ 1000 ∧ Q sj z ≤ 1000) (h0 : 1 ≤ pl ∧ pl ≤ 3) : mMet l yX4_playerOn cX4_playerOn 4 (some FieldType.int) ({ frames := 3, cells := 0, slots := 0, locals := 68 } : Room) G [.ref (ad 3 (sj)), .int (nI (pl))] M (fun r M' => r = some (.int (nI (poS (P sj) (Q sj) (pl - 1)) - 1)) ∧ M = M') := by
  refine mMet.of (by decide) (Nat.le_of_ble_eq_true rfl) ?_
  intro p e s m args below meth c A ls X hr hlocks hname hM hl
  have hl : lv_has ls 4 [(0, .ref (ad 3 (sj))), (1, .int (nI (pl)))] := hl
  refine lv_aload_n X.1 X.2.1 dX4_playerOn_0 rfl (lv_at hl 0 rfl) ?_
  refine lv_iconst (v := nI (0) - 1) X.1 X.2.1 dX4_playerOn_1 (by decide) ?_
  refine m_callV X hM ck_X4_30 ki_X4_firstBehind ks_X4_firstBehind (ci := 5) rfl dX4_playerOn_2 (As := [.int (nI (0) - 1)]) (c_X4_firstBehind l G ad N F B E P Q _ R sj 0 (show _ < E 0 3 by omega) hb (by omega)) (R.1 3 (sj) (show sj < E 0 3 by omega)) rfl hl rfl (Nat.le_of_ble_eq_true rfl) ⟨Nat.le_of_ble_eq_true rfl, Nat.le_of_ble_eq_true rfl⟩ ⟨Nat.le_of_ble_eq_true rfl, Nat.le_of_ble_eq_true rfl⟩ ?_
  rintro _ _ H locs ⟨rfl, rfl⟩ hM
  have b1 := fbS_le (P sj) (Q sj) 0 16
  refine lv_istore_n (lv' := [(2, .int (nI (fbS (P sj) (Q sj) 0 16) - 1)), (0, .ref (ad 3 (sj))), (1, .int (nI (pl)))]) X.1 X.2.1 dX4_playerOn_5 rfl hl (by decide) rfl (fun ls hl => ?_)
  refine lv_iconst (v := nI (1)) X.1 X.2.1 dX4_playerOn_6 (by decide) ?_
  refine lv_istore_n (lv' := [(3, .int (nI (1))), (2, .int (nI (fbS (P sj) (Q sj) 0 16) - 1)), (0, .ref (ad 3 (sj))), (1, .int (nI (pl)))]) X.1 X.2.1 dX4_playerOn_7 rfl hl (by decide) rfl (fun ls hl => ?_)
  have loop : ∀ (n9 : Nat) (i : Nat) (f : Nat), (i + 1 ≤ pl) → (pl ≤ i + n9) → (f = poS (P sj) (Q sj) i) → ∀ (H : Heap) (locs : List Loc) (ls : Array Slot), mW G A s.heap M H locs → lv_has ls 4 [(0, .ref (ad 3 (sj))), (1, .int (nI (pl))), (2, .int (nI (f) - 1)), (3, .int (nI (i + 1)))] → W p l e ({ frames := 3, cells := 0, slots := 0, locals := 68 } : Room) s m args below meth c H locs 0 0 (MQ below (mQ G A (fun r M' => r = some (.int (nI (poS (P sj) (Q sj) (pl - 1)) - 1)) ∧ M = M')) args s 0 0 A) (F0 m 8 ls []) := by
    intro n9
    induction n9 with
    | zero => intro i f hi hm9 hf; exact absurd hm9 (by omega)
    | succ n9 ih_loop =>
      intro i f hi hm9 hf H locs ls hM hl
      have hf2 : f ≤ 16 := by rw [hf]; exact poS_le _ _ _
      refine lv_iload_n X.1 X.2.1 dX4_playerOn_8 rfl (lv_at hl 3 rfl) ?_
      refine lv_iload_n X.1 X.2.1 dX4_playerOn_9 rfl (lv_at hl 1 rfl) ?_
      refine b_icmp_ge (tgt := 30) X dX4_playerOn_10 (by decide) (a := ((i + 1 : Nat) : Int)) (b := ((pl : Nat) : Int)) (nI_ti (by omega)) (nI_ti (by omega)) (fun c2 => ?_) (fun c2 => ?_)
      · skip
        refine lv_iload_n X.1 X.2.1 dX4_playerOn_30 rfl (lv_at hl 2 rfl) ?_
        exact m_iret X hr hlocks hM dX4_playerOn_31 ⟨Nat.le_of_ble_eq_true rfl, Nat.le_of_ble_eq_true rfl⟩ (⟨congrArg (fun z => some (Value.int (nI z - 1))) (by first | (rw [hf, show i = pl - 1 by omega]) | (rw [show f = 0 by omega]; exact (poS_0 (hf.symm.trans (show f = 0 by omega)) (by omega)).symm)), rfl⟩)
      · skip
        refine lv_iload_n X.1 X.2.1 dX4_playerOn_13 rfl (lv_at hl 2 rfl) ?_
        refine lv_iconst (v := nI (0) - 1) X.1 X.2.1 dX4_playerOn_14 (by decide) ?_
        refine b_icmp_eq (tgt := 30) X dX4_playerOn_15 (by decide) (a := ((f : Nat) : Int) - 1) (b := ((0 : Nat) : Int) - 1) (eI_ti (by omega)) (eI_ti (by omega)) (fun c3 => ?_) (fun c3 => ?_)
        · skip
          refine lv_iload_n X.1 X.2.1 dX4_playerOn_30 rfl (lv_at hl 2 rfl) ?_
          exact m_iret X hr hlocks hM dX4_playerOn_31 ⟨Nat.le_of_ble_eq_true rfl, Nat.le_of_ble_eq_true rfl⟩ (⟨congrArg (fun z => some (Value.int (nI z - 1))) (by first | (rw [hf, show i = pl - 1 by omega]) | (rw [show f = 0 by omega]; exact (poS_0 (hf.symm.trans (show f = 0 by omega)) (by omega)).symm)), rfl⟩)
        · skip
          refine lv_aload_n X.1 X.2.1 dX4_playerOn_18 rfl (lv_at hl 0 rfl) ?_
          refine lv_iload_n X.1 X.2.1 dX4_playerOn_19 rfl (lv_at hl 2 rfl) ?_
          refine m_callV X hM ck_X4_30 ki_X4_firstBehind ks_X4_firstBehind (ci := 5) rfl dX4_playerOn_20 (As := [.int (nI (f) - 1)]) (c_X4_firstBehind l G ad N F B E P Q _ R sj f (show _ < E 0 3 by omega) hb (by omega)) (R.1 3 (sj) (show sj < E 0 3 by omega)) rfl hl rfl (Nat.le_of_ble_eq_true rfl) ⟨Nat.le_of_ble_eq_true rfl, Nat.le_of_ble_eq_true rfl⟩ ⟨Nat.le_of_ble_eq_true rfl, Nat.le_of_ble_eq_true rfl⟩ ?_
          rintro _ _ H locs ⟨rfl, rfl⟩ hM
          have b4 := fbS_le (P sj) (Q sj) f 16
          refine lv_istore_n (lv' := [(2, .int (nI (fbS (P sj) (Q sj) f 16) - 1)), (0, .ref (ad 3 (sj))), (1, .int (nI (pl))), (3, .int (nI (i + 1)))]) X.1 X.2.1 dX4_playerOn_23 rfl hl (by decide) rfl (fun ls hl => ?_)
          refine lv_iinc (v := nI (i + 1 + 1)) (lv' := [(3, .int (nI (i + 1 + 1))), (2, .int (nI (fbS (P sj) (Q sj) f 16) - 1)), (0, .ref (ad 3 (sj))), (1, .int (nI (pl)))]) X.1 X.2.1 dX4_playerOn_24 hl (k := 3) rfl (nI_add (i + 1) 1) (by decide) rfl (fun ls hl => ?_)
          refine lv_goto (tgt := 8) X.1 X.2.1 dX4_playerOn_27 (by decide) ?_
          exact ih_loop (i + 1) (fbS (P sj) (Q sj) f 16) (by omega) (by omega) (by rw [poS, ← hf, if_neg (show ¬ f = 0 by omega)]) _ _ _ hM (lv_sub hl [2, 3, 1, 0] rfl)
  exact loop pl 0 (fbS (P sj) (Q sj) 0 16) (by omega) (by omega) rfl _ _ _ hM (lv_sub hl [2, 3, 1, 0] rfl)
set_option maxHeartbeats 4000000 in
set_option maxRecDepth 100000 in
theorem c_X4_forgetPoints (l : Launch) (G : mG) (ad : Nat → Nat → Nat) (N : Nat → Nat) (F : Nat → Nat → Nat) (B : Nat → Int32) (E P Q : Nat → Nat → Nat) (M : Mem) (R : RC G ad N F B E P Q M) (sj : Nat) (hs : sj < E 0 3) : mMet l yX4_forgetPoints cX4_forgetPoints 2 none ({ frames := 0, cells := 0, slots := 0, locals := 0 } : Room) G [.ref (ad 3 (sj))] M (fun r M' => r = none ∧ ∃ P' Q', RC G ad N F B E P' Q' M' ∧ (∀ a, a ≠ sj → P' a = P a) ∧ (∀ a, a ≠ sj → Q' a = Q a) ∧ ∀ z, z < 16 → P' sj z = 0 ∧ Q' sj z = 0) := by
  refine mMet.of (by decide) (Nat.le_of_ble_eq_true rfl) ?_
  intro p e s m args below meth c A ls X hr hlocks hname hM hl
  have hl : lv_has ls 2 [(0, .ref (ad 3 (sj)))] := hl
  refine lv_iconst (v := nI (0)) X.1 X.2.1 dX4_forgetPoints_0 (by decide) ?_
  refine lv_istore_n (lv' := [(1, .int (nI (0))), (0, .ref (ad 3 (sj)))]) X.1 X.2.1 dX4_forgetPoints_1 rfl hl (by decide) rfl (fun ls hl => ?_)
  have loop1 : ∀ (n9 : Nat) (i : Nat) (M : Mem) (P1 : Nat → Nat → Nat), (i ≤ 16) → (17 ≤ i + n9) → (RC G ad N F B E P1 Q M) → (∀ a, a ≠ sj → P1 a = P a) → (∀ z, z < i → P1 sj z = 0) → ∀ (H : Heap) (locs : List Loc) (ls : Array Slot), mW G A s.heap M H locs → lv_has ls 2 [(0, .ref (ad 3 (sj))), (1, .int (nI (i)))] → W p l e ({ frames := 0, cells := 0, slots := 0, locals := 0 } : Room) s m args below meth c H locs 0 0 (MQ below (mQ G A (fun r M' => r = none ∧ ∃ P' Q', RC G ad N F B E P' Q' M' ∧ (∀ a, a ≠ sj → P' a = P a) ∧ (∀ a, a ≠ sj → Q' a = Q a) ∧ ∀ z, z < 16 → P' sj z = 0 ∧ Q' sj z = 0)) args s 0 0 A) (F0 m 2 ls []) := by
    intro n9
    induction n9 with
    | zero => intro i M P1 hi hm9 R hp1 hp2; exact absurd hm9 (by omega)
    | succ n9 ih_loop1 =>
      intro i M P1 hi hm9 R hp1 hp2 H locs ls hM hl
      refine lv_iload_n X.1 X.2.1 dX4_forgetPoints_2 rfl (lv_at hl 1 rfl) ?_
      refine lv_aload_n X.1 X.2.1 dX4_forgetPoints_3 rfl (lv_at hl 0 rfl) ?_
      refine mg_get X hM (ci := 5) (k := 1) rfl kwX4 (by decide) kf_X4_9 dX4_forgetPoints_4 (R.1 3 (sj) (show sj < E 0 3 by omega)) (v := .ref (ad 4 (sj))) rfl ?_
      refine mg_alen X hM 0 rfl dX4_forgetPoints_7 (R.1 4 (sj) (show sj < E 0 3 by omega)) ?_
      refine b_icmp_ge (tgt := 24) X dX4_forgetPoints_8 (by decide) (a := ((i : Nat) : Int)) (b := ((16 : Nat) : Int)) (nI_ti (by omega)) (nI_ti (by omega)) (fun c1 => ?_) (fun c1 => ?_)
      · skip
        refine lv_iconst (v := nI (0)) X.1 X.2.1 dX4_forgetPoints_24 (by decide) ?_
        refine lv_istore_n (lv' := [(1, .int (nI (0))), (0, .ref (ad 3 (sj)))]) X.1 X.2.1 dX4_forgetPoints_25 rfl hl (by decide) rfl (fun ls hl => ?_)
        have loop2 : ∀ (n9 : Nat) (i : Nat) (M : Mem) (Q1 : Nat → Nat → Nat), (i ≤ 16) → (17 ≤ i + n9) → (RC G ad N F B E P1 Q1 M) → (∀ a, a ≠ sj → Q1 a = Q a) → (∀ z, z < i → Q1 sj z = 0) → ∀ (H : Heap) (locs : List Loc) (ls : Array Slot), mW G A s.heap M H locs → lv_has ls 2 [(0, .ref (ad 3 (sj))), (1, .int (nI (i)))] → W p l e ({ frames := 0, cells := 0, slots := 0, locals := 0 } : Room) s m args below meth c H locs 0 0 (MQ below (mQ G A (fun r M' => r = none ∧ ∃ P' Q', RC G ad N F B E P' Q' M' ∧ (∀ a, a ≠ sj → P' a = P a) ∧ (∀ a, a ≠ sj → Q' a = Q a) ∧ ∀ z, z < 16 → P' sj z = 0 ∧ Q' sj z = 0)) args s 0 0 A) (F0 m 26 ls []) := by
          intro n9
          induction n9 with
          | zero => intro i M Q1 hi hm9 R hq1 hq2; exact absurd hm9 (by omega)
          | succ n9 ih_loop2 =>
            intro i M Q1 hi hm9 R hq1 hq2 H locs ls hM hl
            refine lv_iload_n X.1 X.2.1 dX4_forgetPoints_26 rfl (lv_at hl 1 rfl) ?_
            refine lv_aload_n X.1 X.2.1 dX4_forgetPoints_27 rfl (lv_at hl 0 rfl) ?_
            refine mg_get X hM (ci := 5) (k := 2) rfl kwX4 (by decide) kf_X4_15 dX4_forgetPoints_28 (R.1 3 (sj) (show sj < E 0 3 by omega)) (v := .ref (ad 5 (sj))) rfl ?_
            refine mg_alen X hM 0 rfl dX4_forgetPoints_31 (R.1 5 (sj) (show sj < E 0 3 by omega)) ?_
            refine b_icmp_ge (tgt := 48) X dX4_forgetPoints_32 (by decide) (a := ((i : Nat) : Int)) (b := ((16 : Nat) : Int)) (nI_ti (by omega)) (nI_ti (by omega)) (fun c2 => ?_) (fun c2 => ?_)
            · skip
              exact m_vret X hr hlocks hM dX4_forgetPoints_48 ⟨Nat.le_of_ble_eq_true rfl, Nat.le_of_ble_eq_true rfl⟩ (⟨rfl, _, _, R, hp1, hq1, fun z hz => ⟨hp2 z (by omega), hq2 z (by omega)⟩⟩)
            · skip
              refine lv_aload_n X.1 X.2.1 dX4_forgetPoints_35 rfl (lv_at hl 0 rfl) ?_
              refine mg_get X hM (ci := 5) (k := 2) rfl kwX4 (by decide) kf_X4_15 dX4_forgetPoints_36 (R.1 3 (sj) (show sj < E 0 3 by omega)) (v := .ref (ad 5 (sj))) rfl ?_
              refine lv_iload_n X.1 X.2.1 dX4_forgetPoints_39 rfl (lv_at hl 1 rfl) ?_
              refine lv_iconst (v := nI (0)) X.1 X.2.1 dX4_forgetPoints_40 (by decide) ?_
              refine mx_iast X hM dX4_forgetPoints_41 (R.1 5 (sj) (show sj < E 0 3 by omega)) (i := i) (by omega) (by decide) (fun H locs hM => ?_)
              obtain ⟨M, hM, R⟩ : ∃ M2, mW G A s.heap M2 H locs ∧ RC G ad N F B E P1 (set1 Q1 (sj) (i) (0)) M2 := ⟨_, hM, R.gmsW (show sj < E 0 3 by omega) (i) (0)⟩
              refine lv_iinc (v := nI (i + 1)) (lv' := [(1, .int (nI (i + 1))), (0, .ref (ad 3 (sj)))]) X.1 X.2.1 dX4_forgetPoints_42 hl (k := 1) rfl (nI_add (i) 1) (by decide) rfl (fun ls hl => ?_)
              refine lv_goto (tgt := 26) X.1 X.2.1 dX4_forgetPoints_45 (by decide) ?_
              exact ih_loop2 (i + 1) _ (set1 Q1 (sj) (i) (0)) (by omega) (by omega) R (fun a ha => (set1_row Q1 ha).trans (hq1 a ha)) (set1_z hq2) _ _ _ hM (lv_sub hl [1, 0] rfl)
        exact loop2 17 0 _ Q (by omega) (by omega) R (fun _ _ => rfl) (fun _ h => absurd h (by omega)) _ _ _ hM (lv_sub hl [1, 0] rfl)
      · skip
        refine lv_aload_n X.1 X.2.1 dX4_forgetPoints_11 rfl (lv_at hl 0 rfl) ?_
        refine mg_get X hM (ci := 5) (k := 1) rfl kwX4 (by decide) kf_X4_9 dX4_forgetPoints_12 (R.1 3 (sj) (show sj < E 0 3 by omega)) (v := .ref (ad 4 (sj))) rfl ?_
        refine lv_iload_n X.1 X.2.1 dX4_forgetPoints_15 rfl (lv_at hl 1 rfl) ?_
        refine lv_iconst (v := nI (0)) X.1 X.2.1 dX4_forgetPoints_16 (by decide) ?_
        refine mx_iast X hM dX4_forgetPoints_17 (R.1 4 (sj) (show sj < E 0 3 by omega)) (i := i) (by omega) (by decide) (fun H locs hM => ?_)
        obtain ⟨M, hM, R⟩ : ∃ M2, mW G A s.heap M2 H locs ∧ RC G ad N F B E (set1 P1 (sj) (i) (0)) Q M2 := ⟨_, hM, R.ptsW (show sj < E 0 3 by omega) (i) (0)⟩
        refine lv_iinc (v := nI (i + 1)) (lv' := [(1, .int (nI (i + 1))), (0, .ref (ad 3 (sj)))]) X.1 X.2.1 dX4_forgetPoints_18 hl (k := 1) rfl (nI_add (i) 1) (by decide) rfl (fun ls hl => ?_)
        refine lv_goto (tgt := 2) X.1 X.2.1 dX4_forgetPoints_21 (by decide) ?_
        exact ih_loop1 (i + 1) _ (set1 P1 (sj) (i) (0)) (by omega) (by omega) R (fun a ha => (set1_row P1 ha).trans (hp1 a ha)) (set1_z hp2) _ _ _ hM (lv_sub hl [1, 0] rfl)
  exact loop1 17 0 _ P (by omega) (by omega) R (fun _ _ => rfl) (fun _ h => absurd h (by omega)) _ _ _ hM (lv_sub hl [1, 0] rfl)
set_option maxHeartbeats 4000000 in
set_option maxRecDepth 100000 in
theorem c_X4_add (l : Launch) (G : mG) (ad : Nat → Nat → Nat) (N : Nat → Nat) (F : Nat → Nat → Nat) (B : Nat → Int32) (E P Q : Nat → Nat → Nat) (M : Mem) (R : RC G ad N F B E P Q M) (sj : Nat) (z : Nat) (g : Nat) (hs : sj < E 0 3) (hz : z < 16) : mMet l yX4_add cX4_add 3 none ({ frames := 0, cells := 0, slots := 0, locals := 0 } : Room) G [.ref (ad 3 (sj)), .int (nI (z)), .int (nI (g))] M (fun r M' => r = none ∧ RC G ad N F B E (set1 P sj z (P sj z + g)) (set1 Q sj z (Q sj z + 1)) M') := by
  refine mMet.of (by decide) (Nat.le_of_ble_eq_true rfl) ?_
  intro p e s m args below meth c A ls X hr hlocks hname hM hl
  have hl : lv_has ls 3 [(0, .ref (ad 3 (sj))), (1, .int (nI (z))), (2, .int (nI (g)))] := hl
  refine lv_iload_n X.1 X.2.1 dX4_add_0 rfl (lv_at hl 1 rfl) ?_
  refine b_if_lt (tgt := 42) X dX4_add_1 (by decide) (a := ((z : Nat) : Int)) (nI_ti (by omega)) (fun c1 => ?_) (fun c1 => ?_)
  · skip
    exact m_vret X hr hlocks hM dX4_add_42 ⟨Nat.le_of_ble_eq_true rfl, Nat.le_of_ble_eq_true rfl⟩ (⟨rfl, by first | exact R | (exfalso; omega)⟩)
  · skip
    refine lv_iload_n X.1 X.2.1 dX4_add_4 rfl (lv_at hl 1 rfl) ?_
    refine lv_aload_n X.1 X.2.1 dX4_add_5 rfl (lv_at hl 0 rfl) ?_
    refine mg_get X hM (ci := 5) (k := 1) rfl kwX4 (by decide) kf_X4_9 dX4_add_6 (R.1 3 (sj) (show sj < E 0 3 by omega)) (v := .ref (ad 4 (sj))) rfl ?_
    refine mg_alen X hM 0 rfl dX4_add_9 (R.1 4 (sj) (show sj < E 0 3 by omega)) ?_
    refine b_icmp_ge (tgt := 42) X dX4_add_10 (by decide) (a := ((z : Nat) : Int)) (b := ((16 : Nat) : Int)) (nI_ti (by omega)) (nI_ti (by omega)) (fun c2 => ?_) (fun c2 => ?_)
    · skip
      exact m_vret X hr hlocks hM dX4_add_42 ⟨Nat.le_of_ble_eq_true rfl, Nat.le_of_ble_eq_true rfl⟩ (⟨rfl, by first | exact R | (exfalso; omega)⟩)
    · skip
      refine lv_iload_n X.1 X.2.1 dX4_add_13 rfl (lv_at hl 1 rfl) ?_
      refine lv_aload_n X.1 X.2.1 dX4_add_14 rfl (lv_at hl 0 rfl) ?_
      refine mg_get X hM (ci := 5) (k := 2) rfl kwX4 (by decide) kf_X4_15 dX4_add_15 (R.1 3 (sj) (show sj < E 0 3 by omega)) (v := .ref (ad 5 (sj))) rfl ?_
      refine mg_alen X hM 0 rfl dX4_add_18 (R.1 5 (sj) (show sj < E 0 3 by omega)) ?_
      refine b_icmp_ge (tgt := 42) X dX4_add_19 (by decide) (a := ((z : Nat) : Int)) (b := ((16 : Nat) : Int)) (nI_ti (by omega)) (nI_ti (by omega)) (fun c3 => ?_) (fun c3 => ?_)
      · skip
        exact m_vret X hr hlocks hM dX4_add_42 ⟨Nat.le_of_ble_eq_true rfl, Nat.le_of_ble_eq_true rfl⟩ (⟨rfl, by first | exact R | (exfalso; omega)⟩)
      · skip
        refine lv_aload_n X.1 X.2.1 dX4_add_22 rfl (lv_at hl 0 rfl) ?_
        refine mg_get X hM (ci := 5) (k := 1) rfl kwX4 (by decide) kf_X4_9 dX4_add_23 (R.1 3 (sj) (show sj < E 0 3 by omega)) (v := .ref (ad 4 (sj))) rfl ?_
        refine lv_iload_n X.1 X.2.1 dX4_add_26 rfl (lv_at hl 1 rfl) ?_
        refine lv_dup2_11 X.1 X.2.1 dX4_add_27 rfl rfl ?_
        refine mx_iald X hM dX4_add_28 (R.1 4 (sj) (show sj < E 0 3 by omega)) (i := z) (by omega) (by decide) (v := nI (P (sj) (z))) rfl ?_
        refine lv_iload_n X.1 X.2.1 dX4_add_29 rfl (lv_at hl 2 rfl) ?_
        refine lv_iadd X.1 X.2.1 dX4_add_30 ?_
        refine lv_top (y := nI (P (sj) (z) + g)) (nI_add _ _) ?_
        refine mx_iast X hM dX4_add_31 (R.1 4 (sj) (show sj < E 0 3 by omega)) (i := z) (by omega) (by decide) (fun H locs hM => ?_)
        obtain ⟨M, hM, R⟩ : ∃ M2, mW G A s.heap M2 H locs ∧ RC G ad N F B E (set1 P (sj) (z) (P (sj) (z) + g)) Q M2 := ⟨_, hM, R.ptsW (show sj < E 0 3 by omega) (z) (P (sj) (z) + g)⟩
        refine lv_aload_n X.1 X.2.1 dX4_add_32 rfl (lv_at hl 0 rfl) ?_
        refine mg_get X hM (ci := 5) (k := 2) rfl kwX4 (by decide) kf_X4_15 dX4_add_33 (R.1 3 (sj) (show sj < E 0 3 by omega)) (v := .ref (ad 5 (sj))) rfl ?_
        refine lv_iload_n X.1 X.2.1 dX4_add_36 rfl (lv_at hl 1 rfl) ?_
        refine lv_dup2_11 X.1 X.2.1 dX4_add_37 rfl rfl ?_
        refine mx_iald X hM dX4_add_38 (R.1 5 (sj) (show sj < E 0 3 by omega)) (i := z) (by omega) (by decide) (v := nI (Q (sj) (z))) rfl ?_
        refine lv_iconst (v := nI (1)) X.1 X.2.1 dX4_add_39 (by decide) ?_
        refine lv_iadd X.1 X.2.1 dX4_add_40 ?_
        refine lv_top (y := nI (Q (sj) (z) + 1)) (nI_add _ _) ?_
        refine mx_iast X hM dX4_add_41 (R.1 5 (sj) (show sj < E 0 3 by omega)) (i := z) (by omega) (by decide) (fun H locs hM => ?_)
        obtain ⟨M, hM, R⟩ : ∃ M2, mW G A s.heap M2 H locs ∧ RC G ad N F B E (set1 P (sj) (z) (P (sj) (z) + g)) (set1 Q (sj) (z) (Q (sj) (z) + 1)) M2 := ⟨_, hM, R.gmsW (show sj < E 0 3 by omega) (z) (Q (sj) (z) + 1)⟩
        exact m_vret X hr hlocks hM dX4_add_42 ⟨Nat.le_of_ble_eq_true rfl, Nat.le_of_ble_eq_true rfl⟩ (⟨rfl, by first | exact R | (exfalso; omega)⟩)
set_option maxHeartbeats 4000000 in
set_option maxRecDepth 100000 in
theorem c_X0_isStanding (l : Launch) (G : mG) (ad : Nat → Nat → Nat) (N : Nat → Nat) (F : Nat → Nat → Nat) (B : Nat → Int32) (E P Q : Nat → Nat → Nat) (M : Mem) (R : RC G ad N F B E P Q M) (i : Nat) (hi : i < E 0 2) (h1 : F 7 i < E 0 1) (h2 : F 10 i < 2 ^ 30) (h3 : F 2 (F 7 i) < 2 ^ 30) : mMet l yX0_isStanding cX0_isStanding 1 (some FieldType.boolean) ({ frames := 2, cells := 0, slots := 0, locals := 41 } : Room) G [.ref (ad 2 (i))] M (fun r M' => r = some (.int (bI (goodS F i))) ∧ M = M') := by
  refine mMet.of (by decide) (Nat.le_of_ble_eq_true rfl) ?_
  intro p e s m args below meth c A ls X hr hlocks hname hM hl
  have hl : lv_has ls 1 [(0, .ref (ad 2 (i)))] := hl
  refine lv_aload_n X.1 X.2.1 dX0_isStanding_0 rfl (lv_at hl 0 rfl) ?_
  refine mg_get X hM (ci := 1) (k := 0) rfl kwX0 (by decide) kf_X0_9 dX0_isStanding_1 (R.1 2 (i) (show i < E 0 2 by omega)) (v := .ref (ad 1 (F 7 (i)))) rfl ?_
  refine lv_aload_n X.1 X.2.1 dX0_isStanding_4 rfl (lv_at hl 0 rfl) ?_
  refine mg_get X hM (ci := 1) (k := 3) rfl kwX0 (by decide) kf_X0_22 dX0_isStanding_5 (R.1 2 (i) (show i < E 0 2 by omega)) (v := .int (nI (F 10 (i)))) rfl ?_
  refine m_callVN X hM ckN_X0_26 ki_X1_isProvenOn ks_X1_isProvenOn (ci := 2) rfl dX0_isStanding_8 (As := [.int (nI (F 10 (i)))]) (c_X1_isProvenOn l G ad N F B E P Q _ R (F 7 (i)) (F 10 (i)) (show _ < E 0 1 by omega) (by omega) (by omega)) (R.1 1 (F 7 (i)) (show F 7 (i) < E 0 1 by omega)) rfl hl rfl (Nat.le_of_ble_eq_true rfl) ⟨Nat.le_of_ble_eq_true rfl, Nat.le_of_ble_eq_true rfl⟩ ⟨Nat.le_of_ble_eq_true rfl, Nat.le_of_ble_eq_true rfl⟩ ?_
  rintro _ _ H locs ⟨rfl, rfl⟩ hM
  refine b_bool_ne (tgt := 18) X dX0_isStanding_11 (by decide) (fun c1 => ?_) (fun c1 => ?_)
  · skip
    have c1 := of_decide_eq_true c1
    refine lv_iconst (v := nI (0)) X.1 X.2.1 dX0_isStanding_18 (by decide) ?_
    exact m_zret X hr hlocks hM dX0_isStanding_19 ⟨Nat.le_of_ble_eq_true rfl, Nat.le_of_ble_eq_true rfl⟩ (rfl) (⟨congrArg (fun z => some (Value.int z)) (by unfold goodS; first | exact bI_dec (by omega) | exact bI_decN (by omega)), rfl⟩)
  · skip
    have c1 := of_decide_eq_false c1
    refine lv_iconst (v := nI (1)) X.1 X.2.1 dX0_isStanding_14 (by decide) ?_
    refine lv_goto (tgt := 19) X.1 X.2.1 dX0_isStanding_15 (by decide) ?_
    exact m_zret X hr hlocks hM dX0_isStanding_19 ⟨Nat.le_of_ble_eq_true rfl, Nat.le_of_ble_eq_true rfl⟩ (rfl) (⟨congrArg (fun z => some (Value.int z)) (by unfold goodS; first | exact bI_dec (by omega) | exact bI_decN (by omega)), rfl⟩)
set_option maxHeartbeats 4000000 in
set_option maxRecDepth 100000 in
theorem c_X0_addPoints (l : Launch) (G : mG) (ad : Nat → Nat → Nat) (N : Nat → Nat) (F : Nat → Nat → Nat) (B : Nat → Int32) (E P Q : Nat → Nat → Nat) (M : Mem) (R : RC G ad N F B E P Q M) (i : Nat) (hi : i < E 0 2) (h1 : F 7 i < E 0 1) (h2 : F 10 i < 2 ^ 30) (h3 : F 2 (F 7 i) < 2 ^ 30) (h4 : F 8 i < E 0 1 ∧ E 0 1 ≤ 16) (h5 : F 11 i < E 0 3) : mMet l yX0_addPoints cX0_addPoints 1 none ({ frames := 3, cells := 0, slots := 0, locals := 61 } : Room) G [.ref (ad 2 (i))] M (fun r M' => r = none ∧ RC G ad N F B E (adP F P i) (adQ F Q i) M') := by
  refine mMet.of (by decide) (Nat.le_of_ble_eq_true rfl) ?_
  intro p e s m args below meth c A ls X hr hlocks hname hM hl
  have hl : lv_has ls 1 [(0, .ref (ad 2 (i)))] := hl
  refine lv_aload_n X.1 X.2.1 dX0_addPoints_0 rfl (lv_at hl 0 rfl) ?_
  refine m_callV X hM ck_X0_32 ki_X0_isStanding ks_X0_isStanding (ci := 1) rfl dX0_addPoints_1 (As := []) (c_X0_isStanding l G ad N F B E P Q _ R i (show _ < E 0 2 by omega) (show _ < E 0 1 by omega) (by omega) (by omega)) (R.1 2 (i) (show i < E 0 2 by omega)) rfl hl rfl (Nat.le_of_ble_eq_true rfl) ⟨Nat.le_of_ble_eq_true rfl, Nat.le_of_ble_eq_true rfl⟩ ⟨Nat.le_of_ble_eq_true rfl, Nat.le_of_ble_eq_true rfl⟩ ?_
  rintro _ _ H locs ⟨rfl, rfl⟩ hM
  refine b_bool_eq (tgt := 37) X dX0_addPoints_4 (by decide) (fun c1 => ?_) (fun c1 => ?_)
  · skip
    exact m_vret X hr hlocks hM dX0_addPoints_37 ⟨Nat.le_of_ble_eq_true rfl, Nat.le_of_ble_eq_true rfl⟩ (⟨rfl, by unfold adP adQ; rw [if_neg (fun z => by rw [show goodS F i = false by assumption] at z; cases z), if_neg (fun z => by rw [show goodS F i = false by assumption] at z; cases z)]; exact R⟩)
  · skip
    refine lv_aload_n X.1 X.2.1 dX0_addPoints_7 rfl (lv_at hl 0 rfl) ?_
    refine mg_get X hM (ci := 1) (k := 2) rfl kwX0 (by decide) kf_X0_18 dX0_addPoints_8 (R.1 2 (i) (show i < E 0 2 by omega)) (v := .ref (ad 3 (F 11 (i)))) rfl ?_
    refine lv_aload_n X.1 X.2.1 dX0_addPoints_11 rfl (lv_at hl 0 rfl) ?_
    refine mg_get X hM (ci := 1) (k := 0) rfl kwX0 (by decide) kf_X0_9 dX0_addPoints_12 (R.1 2 (i) (show i < E 0 2 by omega)) (v := .ref (ad 1 (F 7 (i)))) rfl ?_
    refine mg_getN X hM (ci := 2) (k := 0) rfl kwX1 (by decide) kn_X0_36 dX0_addPoints_15 (R.1 1 (F 7 (i)) (show F 7 (i) < E 0 1 by omega)) (v := .int (nI (F 7 (i)))) rfl ?_
    refine lv_iconst (v := nI (3)) X.1 X.2.1 dX0_addPoints_18 (by decide) ?_
    refine m_callVN X hM ckN_X0_39 ki_X4_add ks_X4_add (ci := 5) rfl dX0_addPoints_19 (As := [.int (nI (F 7 (i))), .int (nI (3))]) (c_X4_add l G ad N F B E P Q _ R (F 11 (i)) (F 7 (i)) 3 (show _ < E 0 3 by omega) (by omega)) (R.1 3 (F 11 (i)) (show F 11 (i) < E 0 3 by omega)) rfl hl rfl (Nat.le_of_ble_eq_true rfl) ⟨Nat.le_of_ble_eq_true rfl, Nat.le_of_ble_eq_true rfl⟩ ⟨Nat.le_of_ble_eq_true rfl, Nat.le_of_ble_eq_true rfl⟩ ?_
    rintro _ M H locs ⟨rfl, R⟩ hM
    refine lv_aload_n X.1 X.2.1 dX0_addPoints_22 rfl (lv_at hl 0 rfl) ?_
    refine mg_get X hM (ci := 1) (k := 2) rfl kwX0 (by decide) kf_X0_18 dX0_addPoints_23 (R.1 2 (i) (show i < E 0 2 by omega)) (v := .ref (ad 3 (F 11 (i)))) rfl ?_
    refine lv_aload_n X.1 X.2.1 dX0_addPoints_26 rfl (lv_at hl 0 rfl) ?_
    refine mg_get X hM (ci := 1) (k := 1) rfl kwX0 (by decide) kf_X0_15 dX0_addPoints_27 (R.1 2 (i) (show i < E 0 2 by omega)) (v := .ref (ad 1 (F 8 (i)))) rfl ?_
    refine mg_getN X hM (ci := 2) (k := 0) rfl kwX1 (by decide) kn_X0_36 dX0_addPoints_30 (R.1 1 (F 8 (i)) (show F 8 (i) < E 0 1 by omega)) (v := .int (nI (F 8 (i)))) rfl ?_
    refine lv_iconst (v := nI (1)) X.1 X.2.1 dX0_addPoints_33 (by decide) ?_
    refine m_callVN X hM ckN_X0_39 ki_X4_add ks_X4_add (ci := 5) rfl dX0_addPoints_34 (As := [.int (nI (F 8 (i))), .int (nI (1))]) (c_X4_add l G ad N F B E (set1 P (F 11 (i)) (F 7 (i)) (P (F 11 (i)) (F 7 (i)) + 3)) (set1 Q (F 11 (i)) (F 7 (i)) (Q (F 11 (i)) (F 7 (i)) + 1)) _ R (F 11 (i)) (F 8 (i)) 1 (show _ < E 0 3 by omega) (by omega)) (R.1 3 (F 11 (i)) (show F 11 (i) < E 0 3 by omega)) rfl hl rfl (Nat.le_of_ble_eq_true rfl) ⟨Nat.le_of_ble_eq_true rfl, Nat.le_of_ble_eq_true rfl⟩ ⟨Nat.le_of_ble_eq_true rfl, Nat.le_of_ble_eq_true rfl⟩ ?_
    rintro _ M H locs ⟨rfl, R⟩ hM
    exact m_vret X hr hlocks hM dX0_addPoints_37 ⟨Nat.le_of_ble_eq_true rfl, Nat.le_of_ble_eq_true rfl⟩ (⟨rfl, by unfold adP adQ; rw [if_pos (by assumption), if_pos (by assumption)]; exact R⟩)
set_option maxHeartbeats 4000000 in
set_option maxRecDepth 100000 in
theorem c_X3_isInFaithNow (l : Launch) (G : mG) (ad : Nat → Nat → Nat) (N : Nat → Nat) (F : Nat → Nat → Nat) (B : Nat → Int32) (E P Q : Nat → Nat → Nat) (M : Mem) (R : RC G ad N F B E P Q M) (k : Nat) (j : Nat) (hk : k < E 0 6) (hj : j < E 2 k) (h20 : j < 20) (h1 : F 22 (20 * k + j) < E 0 1) (h2 : F 23 (20 * k + j) < E 0 1) (h3 : F 2 (F 22 (20 * k + j)) < 2 ^ 31) (h4 : F 2 (F 23 (20 * k + j)) < 2 ^ 31) : mMet l yX3_isInFaithNow cX3_isInFaithNow 1 (some FieldType.boolean) ({ frames := 1, cells := 0, slots := 0, locals := 20 } : Room) G [.ref (ad 8 (20 * k + j))] M (fun r M' => r = some (.int (bI (decide (F 2 (F 22 (20 * k + j)) = 0 ∧ F 2 (F 23 (20 * k + j)) = 0)))) ∧ M = M') := by
  refine mMet.of (by decide) (Nat.le_of_ble_eq_true rfl) ?_
  intro p e s m args below meth c A ls X hr hlocks hname hM hl
  have hl : lv_has ls 1 [(0, .ref (ad 8 (20 * k + j)))] := hl
  refine lv_aload_n X.1 X.2.1 dX3_isInFaithNow_0 rfl (lv_at hl 0 rfl) ?_
  refine mg_get X hM (ci := 4) (k := 0) rfl kwX3 (by decide) kf_X3_7 dX3_isInFaithNow_1 (R.1 8 (20 * k + j) (live8 (k := k) (j := j) (show _ < E 0 6 by omega) (show _ < E 2 (k) by omega) (by omega))) (v := .ref (ad 1 (F 22 (20 * k + j)))) rfl ?_
  refine lv_ifnull X.1 X.2.1 dX3_isInFaithNow_4 ?_
  refine lv_aload_n X.1 X.2.1 dX3_isInFaithNow_7 rfl (lv_at hl 0 rfl) ?_
  refine mg_get X hM (ci := 4) (k := 1) rfl kwX3 (by decide) kf_X3_13 dX3_isInFaithNow_8 (R.1 8 (20 * k + j) (live8 (k := k) (j := j) (show _ < E 0 6 by omega) (show _ < E 2 (k) by omega) (by omega))) (v := .ref (ad 1 (F 23 (20 * k + j)))) rfl ?_
  refine lv_ifnull X.1 X.2.1 dX3_isInFaithNow_11 ?_
  refine lv_aload_n X.1 X.2.1 dX3_isInFaithNow_14 rfl (lv_at hl 0 rfl) ?_
  refine mg_get X hM (ci := 4) (k := 0) rfl kwX3 (by decide) kf_X3_7 dX3_isInFaithNow_15 (R.1 8 (20 * k + j) (live8 (k := k) (j := j) (show _ < E 0 6 by omega) (show _ < E 2 (k) by omega) (by omega))) (v := .ref (ad 1 (F 22 (20 * k + j)))) rfl ?_
  refine m_callVN X hM ckN_X3_20 ki_X1_isProven ks_X1_isProven (ci := 2) rfl dX3_isInFaithNow_18 (As := []) (c_X1_isProven l G ad N F B E P Q _ R (F 22 (20 * k + j)) (show _ < E 0 1 by omega) (by omega)) (R.1 1 (F 22 (20 * k + j)) (show F 22 (20 * k + j) < E 0 1 by omega)) rfl hl rfl (Nat.le_of_ble_eq_true rfl) ⟨Nat.le_of_ble_eq_true rfl, Nat.le_of_ble_eq_true rfl⟩ ⟨Nat.le_of_ble_eq_true rfl, Nat.le_of_ble_eq_true rfl⟩ ?_
  rintro _ _ H locs ⟨rfl, rfl⟩ hM
  refine b_bool_ne (tgt := 38) X dX3_isInFaithNow_21 (by decide) (fun c1 => ?_) (fun c1 => ?_)
  · skip
    have c1 := of_decide_eq_true c1
    refine lv_iconst (v := nI (0)) X.1 X.2.1 dX3_isInFaithNow_38 (by decide) ?_
    exact m_zret X hr hlocks hM dX3_isInFaithNow_39 ⟨Nat.le_of_ble_eq_true rfl, Nat.le_of_ble_eq_true rfl⟩ (rfl) (⟨congrArg (fun z => some (Value.int z)) (by first | exact bI_dec (by omega) | exact bI_decN (by omega)), rfl⟩)
  · skip
    have c1 := of_decide_eq_false c1
    refine lv_aload_n X.1 X.2.1 dX3_isInFaithNow_24 rfl (lv_at hl 0 rfl) ?_
    refine mg_get X hM (ci := 4) (k := 1) rfl kwX3 (by decide) kf_X3_13 dX3_isInFaithNow_25 (R.1 8 (20 * k + j) (live8 (k := k) (j := j) (show _ < E 0 6 by omega) (show _ < E 2 (k) by omega) (by omega))) (v := .ref (ad 1 (F 23 (20 * k + j)))) rfl ?_
    refine m_callVN X hM ckN_X3_20 ki_X1_isProven ks_X1_isProven (ci := 2) rfl dX3_isInFaithNow_28 (As := []) (c_X1_isProven l G ad N F B E P Q _ R (F 23 (20 * k + j)) (show _ < E 0 1 by omega) (by omega)) (R.1 1 (F 23 (20 * k + j)) (show F 23 (20 * k + j) < E 0 1 by omega)) rfl hl rfl (Nat.le_of_ble_eq_true rfl) ⟨Nat.le_of_ble_eq_true rfl, Nat.le_of_ble_eq_true rfl⟩ ⟨Nat.le_of_ble_eq_true rfl, Nat.le_of_ble_eq_true rfl⟩ ?_
    rintro _ _ H locs ⟨rfl, rfl⟩ hM
    refine b_bool_ne (tgt := 38) X dX3_isInFaithNow_31 (by decide) (fun c2 => ?_) (fun c2 => ?_)
    · skip
      have c2 := of_decide_eq_true c2
      refine lv_iconst (v := nI (0)) X.1 X.2.1 dX3_isInFaithNow_38 (by decide) ?_
      exact m_zret X hr hlocks hM dX3_isInFaithNow_39 ⟨Nat.le_of_ble_eq_true rfl, Nat.le_of_ble_eq_true rfl⟩ (rfl) (⟨congrArg (fun z => some (Value.int z)) (by first | exact bI_dec (by omega) | exact bI_decN (by omega)), rfl⟩)
    · skip
      have c2 := of_decide_eq_false c2
      refine lv_iconst (v := nI (1)) X.1 X.2.1 dX3_isInFaithNow_34 (by decide) ?_
      refine lv_goto (tgt := 39) X.1 X.2.1 dX3_isInFaithNow_35 (by decide) ?_
      exact m_zret X hr hlocks hM dX3_isInFaithNow_39 ⟨Nat.le_of_ble_eq_true rfl, Nat.le_of_ble_eq_true rfl⟩ (rfl) (⟨congrArg (fun z => some (Value.int z)) (by first | exact bI_dec (by omega) | exact bI_decN (by omega)), rfl⟩)
