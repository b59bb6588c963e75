/-! The law, from its entry -/
theorem fl_st {l : Launch} (h : l.flags = flags0) : l.stackTraces = false := by
  unfold Launch.stackTraces
  rw [h]
  decide +kernel
theorem mJ_nn {M0 M1 : Mem} {q : Nat} (h : mJ M0 M1 q = none) : M0 q = none ∧ M1 q = none := by
  cases h0 : M0 q with
  | none => rw [mJ_n h0] at h; exact ⟨rfl, h⟩
  | some e => rw [mJ_l h0] at h; cases h
theorem mJ_e (M : Mem) : mJ M (fun _ => none) = M := by
  funext q
  cases h : M q with
  | none => rw [mJ_n h]
  | some e => rw [mJ_l h]
/-- the first n arrays, all 0 -/
def AN (G : mG) (n : Nat) (ar : Nat → Nat) (M : Mem) : Prop := (∀ k, k < n → M (ar k) = some (.inl (G.2 0, lenL k, .inl (fun _ => 0)))) ∧ ∀ k k', k < n → k' < n → ar k = ar k' → k = k'
theorem AN.step {G : mG} {n ln q : Nat} {ar : Nat → Nat} {MC ML : Mem} (a : AN G n ar ML) (d : mDj MC ML) (hq : mJ MC ML q = none) (hl : ln = lenL n) : mU (mJ MC ML) q (.inl (G.2 0, ln, .inl (fun _ => 0))) = mJ MC (mU ML q (.inl (G.2 0, ln, .inl (fun _ => 0)))) ∧ mDj MC (mU ML q (.inl (G.2 0, ln, .inl (fun _ => 0)))) ∧ AN G (n + 1) (va_up ar n q) (mU ML q (.inl (G.2 0, ln, .inl (fun _ => 0)))) := by
  subst hl
  obtain ⟨h1, h2⟩ := mJ_nn hq
  have ne : ∀ k, k < n → ar k ≠ q := fun k hk z => by
    have h3 := a.1 k hk
    rw [z, h2] at h3; cases h3
  refine ⟨mJ_put h1, d.put h1, fun k hk => ?_, fun k k' hk hk' he => ?_⟩
  · by_cases hkn : k = n
    · subst hkn
      rw [va_up_at, mU_eq]
    · rw [va_up_off _ _ hkn, mU_ne (ne k (by omega))]
      exact a.1 k (by omega)
  · by_cases hkn : k = n
    · by_cases hkn' : k' = n
      · omega
      · rw [hkn, va_up_at, va_up_off _ _ hkn'] at he
        exact absurd he.symm (ne k' (by omega))
    · by_cases hkn' : k' = n
      · rw [hkn', va_up_at, va_up_off _ _ hkn] at he
        exact absurd he (ne k (by omega))
      · rw [va_up_off _ _ hkn, va_up_off _ _ hkn'] at he
        exact a.2 k k' (by omega) (by omega) he
set_option maxHeartbeats 4000000 in
set_option maxRecDepth 100000 in
theorem whole_start {p : Program} {e : Env} {s : State} {m : MethodId} {below : List Frame} {meth : Method} {c : Code} (l : Launch) (hflags : l.flags = flags0) {b L : Nat} {xs : Nat → Int32} (hL : L ≤ 260) (C0 : lw_At p s m meth c b L xs) : W p l e room_1 s m #[Value.ref b] below meth c s.heap [] 0 0 (lw_Z below #[Value.ref b] s) (entryFrame m ([Value.ref b] : List Value).toArray 23) := by
  have hst : l.stackTraces = false := fl_st hflags
  obtain ⟨hx, hb, hr, hml, hown, hts, hX, hbl, hlocks, hgv⟩ := id C0
  have hKT : KT s := KT.of hts
  obtain ⟨G, hK⟩ := mK_of (hKT.ws (args := #[Value.ref b]))
  have X : Cx p c s m cL_law RL 23 G := ⟨hx, hb, hml, hown, hKT, hK⟩
  have hS := XS_of hts
  have hZ : XZ G (lA s) s s.heap := XZ_of hts hgv (fun a h => Nat.not_le.mpr h)
  have hN := NC_of hgv
  have hM : mW G (lA s) s.heap (fun _ => none) s.heap [] := ⟨fun a e h => (by cases h), fun a e h => (by cases h), va_S.rf, fun q h => h⟩
  have hl := lv_entry ([.ref b]) (n := 23) (Nat.le_of_ble_eq_true rfl)
  rw [lg_entry_eq]
  generalize (lg_sl ([.ref b]) ++ List.replicate (23 - (lg_sl ([.ref b])).length) Slot.unset).toArray = ls at hl ⊢
  have hl : lv_has ls 23 [(0, .ref b)] := hl
  refine mg_new X hM (ci := 7) tyX6 tyX6_ok rfl kwX6 kcl_L_9 kinst_X6 kini_X6 (fs := [.null, .null, .null, .null, .null, .int 0, .int 0, .int 0, .int 0, .null]) (by decide) dL_law_0 (Nat.le_of_ble_eq_true rfl) (Nat.le_of_ble_eq_true rfl) (fun x H hn hM => ?_)
  refine lv_dup X.1 X.2.1 dL_law_3 rfl ?_
  refine m_callI X hM ck_L_107 ki_X6_init rfl dL_law_4 (c_X6_init l G _ x (mU_eq _ _ _)) (As := []) rfl hl rfl (Nat.le_of_ble_eq_true rfl) ⟨Nat.le_of_ble_eq_true rfl, Nat.le_of_ble_eq_true rfl⟩ ⟨Nat.le_of_ble_eq_true rfl, Nat.le_of_ble_eq_true rfl⟩ (fun r MC H locs hp hM => ?_)
  obtain ⟨rfl, hcs⟩ := hp
  refine lv_astore_n (lv' := [(1, .ref x), (0, .ref b)]) X.1 X.2.1 dL_law_7 rfl hl (by decide) rfl (fun ls hl => ?_)
  rw [← mJ_e MC] at hM
  have dj : mDj MC (fun _ => none) := fun _ _ _ => rfl
  have an : AN G 0 (fun _ => 0) (fun _ => none) := ⟨fun k hk => absurd hk (Nat.not_lt_zero k), fun k k' hk => absurd hk (Nat.not_lt_zero k)⟩
  refine lv_bipush (v := nI 48) X.1 X.2.1 dL_law_8 (by decide) ?_
  refine mg_newa (ty := .int) (N' := 48) (a0 := (48, .inl (fun _ => 0))) X hM 0 (fun _ h => h) rfl rfl kac_int (vp_cell_i _ _ _) (by decide) (nI_clamp (by decide)) (by decide) dL_law_10 (Nat.le_of_ble_eq_true rfl) (Nat.le_of_ble_eq_true rfl) (fun q0 H hq hM => ?_)
  obtain ⟨e1, dj, an⟩ := an.step dj hq (ln := 48) rfl
  rw [e1] at hM
  refine lv_astore_n (lv' := [(2, .ref q0), (1, .ref x), (0, .ref b)]) X.1 X.2.1 dL_law_12 rfl hl (by decide) rfl (fun ls hl => ?_)
  refine lv_bipush (v := nI 60) X.1 X.2.1 dL_law_13 (by decide) ?_
  refine mg_newa (ty := .int) (N' := 60) (a0 := (60, .inl (fun _ => 0))) X hM 0 (fun _ h => h) rfl rfl kac_int (vp_cell_i _ _ _) (by decide) (nI_clamp (by decide)) (by decide) dL_law_15 (Nat.le_of_ble_eq_true rfl) (Nat.le_of_ble_eq_true rfl) (fun q1 H hq hM => ?_)
  obtain ⟨e1, dj, an⟩ := an.step dj hq (ln := 60) rfl
  rw [e1] at hM
  refine lv_astore_n (lv' := [(3, .ref q1), (2, .ref q0), (1, .ref x), (0, .ref b)]) X.1 X.2.1 dL_law_17 rfl hl (by decide) rfl (fun ls hl => ?_)
  refine lv_bipush (v := nI 60) X.1 X.2.1 dL_law_18 (by decide) ?_
  refine mg_newa (ty := .int) (N' := 60) (a0 := (60, .inl (fun _ => 0))) X hM 0 (fun _ h => h) rfl rfl kac_int (vp_cell_i _ _ _) (by decide) (nI_clamp (by decide)) (by decide) dL_law_20 (Nat.le_of_ble_eq_true rfl) (Nat.le_of_ble_eq_true rfl) (fun q2 H hq hM => ?_)
  obtain ⟨e1, dj, an⟩ := an.step dj hq (ln := 60) rfl
  rw [e1] at hM
  refine lv_astore (lv' := [(4, .ref q2), (3, .ref q1), (2, .ref q0), (1, .ref x), (0, .ref b)]) X.1 X.2.1 dL_law_22 hl (by decide) rfl (fun ls hl => ?_)
  refine lv_bipush (v := nI 36) X.1 X.2.1 dL_law_24 (by decide) ?_
  refine mg_newa (ty := .int) (N' := 36) (a0 := (36, .inl (fun _ => 0))) X hM 0 (fun _ h => h) rfl rfl kac_int (vp_cell_i _ _ _) (by decide) (nI_clamp (by decide)) (by decide) dL_law_26 (Nat.le_of_ble_eq_true rfl) (Nat.le_of_ble_eq_true rfl) (fun q3 H hq hM => ?_)
  obtain ⟨e1, dj, an⟩ := an.step dj hq (ln := 36) rfl
  rw [e1] at hM
  refine lv_astore (lv' := [(5, .ref q3), (4, .ref q2), (3, .ref q1), (2, .ref q0), (1, .ref x), (0, .ref b)]) X.1 X.2.1 dL_law_28 hl (by decide) rfl (fun ls hl => ?_)
  refine lv_bipush (v := nI 36) X.1 X.2.1 dL_law_30 (by decide) ?_
  refine mg_newa (ty := .int) (N' := 36) (a0 := (36, .inl (fun _ => 0))) X hM 0 (fun _ h => h) rfl rfl kac_int (vp_cell_i _ _ _) (by decide) (nI_clamp (by decide)) (by decide) dL_law_32 (Nat.le_of_ble_eq_true rfl) (Nat.le_of_ble_eq_true rfl) (fun q4 H hq hM => ?_)
  obtain ⟨e1, dj, an⟩ := an.step dj hq (ln := 36) rfl
  rw [e1] at hM
  refine lv_astore (lv' := [(6, .ref q4), (5, .ref q3), (4, .ref q2), (3, .ref q1), (2, .ref q0), (1, .ref x), (0, .ref b)]) X.1 X.2.1 dL_law_34 hl (by decide) rfl (fun ls hl => ?_)
  refine lv_bipush (v := nI 36) X.1 X.2.1 dL_law_36 (by decide) ?_
  refine mg_newa (ty := .int) (N' := 36) (a0 := (36, .inl (fun _ => 0))) X hM 0 (fun _ h => h) rfl rfl kac_int (vp_cell_i _ _ _) (by decide) (nI_clamp (by decide)) (by decide) dL_law_38 (Nat.le_of_ble_eq_true rfl) (Nat.le_of_ble_eq_true rfl) (fun q5 H hq hM => ?_)
  obtain ⟨e1, dj, an⟩ := an.step dj hq (ln := 36) rfl
  rw [e1] at hM
  refine lv_astore (lv' := [(7, .ref q5), (6, .ref q4), (5, .ref q3), (4, .ref q2), (3, .ref q1), (2, .ref q0), (1, .ref x), (0, .ref b)]) X.1 X.2.1 dL_law_40 hl (by decide) rfl (fun ls hl => ?_)
  refine lv_bipush (v := nI 36) X.1 X.2.1 dL_law_42 (by decide) ?_
  refine mg_newa (ty := .int) (N' := 36) (a0 := (36, .inl (fun _ => 0))) X hM 0 (fun _ h => h) rfl rfl kac_int (vp_cell_i _ _ _) (by decide) (nI_clamp (by decide)) (by decide) dL_law_44 (Nat.le_of_ble_eq_true rfl) (Nat.le_of_ble_eq_true rfl) (fun q6 H hq hM => ?_)
  obtain ⟨e1, dj, an⟩ := an.step dj hq (ln := 36) rfl
  rw [e1] at hM
  refine lv_astore (lv' := [(8, .ref q6), (7, .ref q5), (6, .ref q4), (5, .ref q3), (4, .ref q2), (3, .ref q1), (2, .ref q0), (1, .ref x), (0, .ref b)]) X.1 X.2.1 dL_law_46 hl (by decide) rfl (fun ls hl => ?_)
  refine lv_bipush (v := nI 36) X.1 X.2.1 dL_law_48 (by decide) ?_
  refine mg_newa (ty := .int) (N' := 36) (a0 := (36, .inl (fun _ => 0))) X hM 0 (fun _ h => h) rfl rfl kac_int (vp_cell_i _ _ _) (by decide) (nI_clamp (by decide)) (by decide) dL_law_50 (Nat.le_of_ble_eq_true rfl) (Nat.le_of_ble_eq_true rfl) (fun q7 H hq hM => ?_)
  obtain ⟨e1, dj, an⟩ := an.step dj hq (ln := 36) rfl
  rw [e1] at hM
  refine lv_astore (lv' := [(9, .ref q7), (8, .ref q6), (7, .ref q5), (6, .ref q4), (5, .ref q3), (4, .ref q2), (3, .ref q1), (2, .ref q0), (1, .ref x), (0, .ref b)]) X.1 X.2.1 dL_law_52 hl (by decide) rfl (fun ls hl => ?_)
  refine lv_bipush (v := nI 60) X.1 X.2.1 dL_law_54 (by decide) ?_
  refine mg_newa (ty := .int) (N' := 60) (a0 := (60, .inl (fun _ => 0))) X hM 0 (fun _ h => h) rfl rfl kac_int (vp_cell_i _ _ _) (by decide) (nI_clamp (by decide)) (by decide) dL_law_56 (Nat.le_of_ble_eq_true rfl) (Nat.le_of_ble_eq_true rfl) (fun q8 H hq hM => ?_)
  obtain ⟨e1, dj, an⟩ := an.step dj hq (ln := 60) rfl
  rw [e1] at hM
  refine lv_astore (lv' := [(10, .ref q8), (9, .ref q7), (8, .ref q6), (7, .ref q5), (6, .ref q4), (5, .ref q3), (4, .ref q2), (3, .ref q1), (2, .ref q0), (1, .ref x), (0, .ref b)]) X.1 X.2.1 dL_law_58 hl (by decide) rfl (fun ls hl => ?_)
  refine lv_bipush (v := nI 9) X.1 X.2.1 dL_law_60 (by decide) ?_
  refine mg_newa (ty := .int) (N' := 9) (a0 := (9, .inl (fun _ => 0))) X hM 0 (fun _ h => h) rfl rfl kac_int (vp_cell_i _ _ _) (by decide) (nI_clamp (by decide)) (by decide) dL_law_62 (Nat.le_of_ble_eq_true rfl) (Nat.le_of_ble_eq_true rfl) (fun q9 H hq hM => ?_)
  obtain ⟨e1, dj, an⟩ := an.step dj hq (ln := 9) rfl
  rw [e1] at hM
  refine lv_astore (lv' := [(11, .ref q9), (10, .ref q8), (9, .ref q7), (8, .ref q6), (7, .ref q5), (6, .ref q4), (5, .ref q3), (4, .ref q2), (3, .ref q1), (2, .ref q0), (1, .ref x), (0, .ref b)]) X.1 X.2.1 dL_law_64 hl (by decide) rfl (fun ls hl => ?_)
  obtain ⟨ar, ear⟩ : ∃ ar : Nat → Nat, ar = (va_up (va_up (va_up (va_up (va_up (va_up (va_up (va_up (va_up (va_up (fun _ => 0) 0 q0) 1 q1) 2 q2) 3 q3) 4 q4) 5 q5) 6 q6) 7 q7) 8 q8) 9 q9) := ⟨_, rfl⟩
  have f0 : q0 = ar 0 := by rw [ear]; rfl
  have f1 : q1 = ar 1 := by rw [ear]; rfl
  have f2 : q2 = ar 2 := by rw [ear]; rfl
  have f3 : q3 = ar 3 := by rw [ear]; rfl
  have f4 : q4 = ar 4 := by rw [ear]; rfl
  have f5 : q5 = ar 5 := by rw [ear]; rfl
  have f6 : q6 = ar 6 := by rw [ear]; rfl
  have f7 : q7 = ar 7 := by rw [ear]; rfl
  have f8 : q8 = ar 8 := by rw [ear]; rfl
  have f9 : q9 = ar 9 := by rw [ear]; rfl
  rw [← ear] at an
  rw [f0, f1, f2, f3, f4, f5, f6, f7, f8, f9] at hl
  have h : qV G (lA s) s x ar (N0i, F0i, B0i) (fun _ _ => 0) H locs := ⟨MC, _, hM, dj, hcs, an⟩
  have hI : Iv N0i F0i := IvJv0.1
  have hJ : Jv N0i F0i B0i := IvJv0.2
  refine W.widen (k := 23) (n := 638) (Nat.le_of_ble_eq_true rfl) (Nat.le_of_ble_eq_true rfl) ?_
  refine lv_iconst (v := nI (0)) X.1 X.2.1 dL_law_66 (by decide) ?_
  refine lv_istore (lv' := [(12, .int (nI (0))), (11, .ref (ar 9)), (10, .ref (ar 8)), (9, .ref (ar 7)), (8, .ref (ar 6)), (7, .ref (ar 5)), (6, .ref (ar 4)), (5, .ref (ar 3)), (4, .ref (ar 2)), (3, .ref (ar 1)), (2, .ref (ar 0)), (1, .ref x), (0, .ref b)]) X.1 X.2.1 dL_law_67 hl (by decide) rfl (fun ls hl => ?_)
  refine lv_iload X.1 X.2.1 dL_law_69 (lv_at hl 0 rfl) ?_
  refine lv_iconst (v := nI (4)) X.1 X.2.1 dL_law_71 (by decide) ?_
  refine b_icmp_ge (tgt := 90) X dL_law_72 (by decide) (a := ((0 : Nat) : Int)) (b := ((4 : Nat) : Int)) (nI_ti (by omega)) (nI_ti (by omega)) (fun c1 => ?_) (fun c1 => ?_)
  · skip
    exact absurd c1 (by first | decide | omega)
  · skip
    refine lv_aload X.1 X.2.1 dL_law_75 (lv_at hl 1 rfl) ?_
    refine lv_iconst (v := nI (5)) X.1 X.2.1 dL_law_77 (by decide) ?_
    refine lv_iload X.1 X.2.1 dL_law_78 (lv_at hl 0 rfl) ?_
    refine lv_iadd X.1 X.2.1 dL_law_80 ?_
    refine lv_top (y := nI (5 + 0)) (nI_add _ _) ?_
    refine lv_bipush (v := nI (10)) X.1 X.2.1 dL_law_81 (by decide) ?_
    refine v_ast X h 9 (by decide) dL_law_83 (i := 5 + 0) (w := nI (10)) rfl (by show _ < 9; omega) (fun H locs h => ?_)
    refine lv_iinc (v := nI (1)) (lv' := [(12, .int (nI (1))), (11, .ref (ar 9)), (10, .ref (ar 8)), (9, .ref (ar 7)), (8, .ref (ar 6)), (7, .ref (ar 5)), (6, .ref (ar 4)), (5, .ref (ar 3)), (4, .ref (ar 2)), (3, .ref (ar 1)), (2, .ref (ar 0)), (1, .ref x), (0, .ref b)]) X.1 X.2.1 dL_law_84 hl (k := 0) rfl (nI_add 0 1) (by decide) rfl (fun ls hl => ?_)
    refine lv_goto (tgt := 69) X.1 X.2.1 dL_law_87 (by decide) ?_
    refine lv_iload X.1 X.2.1 dL_law_69 (lv_at hl 0 rfl) ?_
    refine lv_iconst (v := nI (4)) X.1 X.2.1 dL_law_71 (by decide) ?_
    refine b_icmp_ge (tgt := 90) X dL_law_72 (by decide) (a := ((1 : Nat) : Int)) (b := ((4 : Nat) : Int)) (nI_ti (by omega)) (nI_ti (by omega)) (fun c2 => ?_) (fun c2 => ?_)
    · skip
      exact absurd c2 (by first | decide | omega)
    · skip
      refine lv_aload X.1 X.2.1 dL_law_75 (lv_at hl 1 rfl) ?_
      refine lv_iconst (v := nI (5)) X.1 X.2.1 dL_law_77 (by decide) ?_
      refine lv_iload X.1 X.2.1 dL_law_78 (lv_at hl 0 rfl) ?_
      refine lv_iadd X.1 X.2.1 dL_law_80 ?_
      refine lv_top (y := nI (5 + 1)) (nI_add _ _) ?_
      refine lv_bipush (v := nI (10)) X.1 X.2.1 dL_law_81 (by decide) ?_
      refine v_ast X h 9 (by decide) dL_law_83 (i := 5 + 1) (w := nI (10)) rfl (by show _ < 9; omega) (fun H locs h => ?_)
      refine lv_iinc (v := nI (2)) (lv' := [(12, .int (nI (2))), (11, .ref (ar 9)), (10, .ref (ar 8)), (9, .ref (ar 7)), (8, .ref (ar 6)), (7, .ref (ar 5)), (6, .ref (ar 4)), (5, .ref (ar 3)), (4, .ref (ar 2)), (3, .ref (ar 1)), (2, .ref (ar 0)), (1, .ref x), (0, .ref b)]) X.1 X.2.1 dL_law_84 hl (k := 0) rfl (nI_add 1 1) (by decide) rfl (fun ls hl => ?_)
      refine lv_goto (tgt := 69) X.1 X.2.1 dL_law_87 (by decide) ?_
      refine lv_iload X.1 X.2.1 dL_law_69 (lv_at hl 0 rfl) ?_
      refine lv_iconst (v := nI (4)) X.1 X.2.1 dL_law_71 (by decide) ?_
      refine b_icmp_ge (tgt := 90) X dL_law_72 (by decide) (a := ((2 : Nat) : Int)) (b := ((4 : Nat) : Int)) (nI_ti (by omega)) (nI_ti (by omega)) (fun c3 => ?_) (fun c3 => ?_)
      · skip
        exact absurd c3 (by first | decide | omega)
      · skip
        refine lv_aload X.1 X.2.1 dL_law_75 (lv_at hl 1 rfl) ?_
        refine lv_iconst (v := nI (5)) X.1 X.2.1 dL_law_77 (by decide) ?_
        refine lv_iload X.1 X.2.1 dL_law_78 (lv_at hl 0 rfl) ?_
        refine lv_iadd X.1 X.2.1 dL_law_80 ?_
        refine lv_top (y := nI (5 + 2)) (nI_add _ _) ?_
        refine lv_bipush (v := nI (10)) X.1 X.2.1 dL_law_81 (by decide) ?_
        refine v_ast X h 9 (by decide) dL_law_83 (i := 5 + 2) (w := nI (10)) rfl (by show _ < 9; omega) (fun H locs h => ?_)
        refine lv_iinc (v := nI (3)) (lv' := [(12, .int (nI (3))), (11, .ref (ar 9)), (10, .ref (ar 8)), (9, .ref (ar 7)), (8, .ref (ar 6)), (7, .ref (ar 5)), (6, .ref (ar 4)), (5, .ref (ar 3)), (4, .ref (ar 2)), (3, .ref (ar 1)), (2, .ref (ar 0)), (1, .ref x), (0, .ref b)]) X.1 X.2.1 dL_law_84 hl (k := 0) rfl (nI_add 2 1) (by decide) rfl (fun ls hl => ?_)
        refine lv_goto (tgt := 69) X.1 X.2.1 dL_law_87 (by decide) ?_
        refine lv_iload X.1 X.2.1 dL_law_69 (lv_at hl 0 rfl) ?_
        refine lv_iconst (v := nI (4)) X.1 X.2.1 dL_law_71 (by decide) ?_
        refine b_icmp_ge (tgt := 90) X dL_law_72 (by decide) (a := ((3 : Nat) : Int)) (b := ((4 : Nat) : Int)) (nI_ti (by omega)) (nI_ti (by omega)) (fun c4 => ?_) (fun c4 => ?_)
        · skip
          exact absurd c4 (by first | decide | omega)
        · skip
          refine lv_aload X.1 X.2.1 dL_law_75 (lv_at hl 1 rfl) ?_
          refine lv_iconst (v := nI (5)) X.1 X.2.1 dL_law_77 (by decide) ?_
          refine lv_iload X.1 X.2.1 dL_law_78 (lv_at hl 0 rfl) ?_
          refine lv_iadd X.1 X.2.1 dL_law_80 ?_
          refine lv_top (y := nI (5 + 3)) (nI_add _ _) ?_
          refine lv_bipush (v := nI (10)) X.1 X.2.1 dL_law_81 (by decide) ?_
          refine v_ast X h 9 (by decide) dL_law_83 (i := 5 + 3) (w := nI (10)) rfl (by show _ < 9; omega) (fun H locs h => ?_)
          refine lv_iinc (v := nI (4)) (lv' := [(12, .int (nI (4))), (11, .ref (ar 9)), (10, .ref (ar 8)), (9, .ref (ar 7)), (8, .ref (ar 6)), (7, .ref (ar 5)), (6, .ref (ar 4)), (5, .ref (ar 3)), (4, .ref (ar 2)), (3, .ref (ar 1)), (2, .ref (ar 0)), (1, .ref x), (0, .ref b)]) X.1 X.2.1 dL_law_84 hl (k := 0) rfl (nI_add 3 1) (by decide) rfl (fun ls hl => ?_)
          refine lv_goto (tgt := 69) X.1 X.2.1 dL_law_87 (by decide) ?_
          refine lv_iload X.1 X.2.1 dL_law_69 (lv_at hl 0 rfl) ?_
          refine lv_iconst (v := nI (4)) X.1 X.2.1 dL_law_71 (by decide) ?_
          refine b_icmp_ge (tgt := 90) X dL_law_72 (by decide) (a := ((4 : Nat) : Int)) (b := ((4 : Nat) : Int)) (nI_ti (by omega)) (nI_ti (by omega)) (fun c5 => ?_) (fun c5 => ?_)
          · skip
            have h := qV.close h (lr0 (V := (vS (vS (vS (vS (fun _ _ => 0) 9 (5 + 0) (nI (10))) 9 (5 + 1) (nI (10))) 9 (5 + 2) (nI (10))) 9 (5 + 3) (nI (10)))) (fun k i hk => by simp [vS, va_up, hk]) (fun i hi => by rw [vS_ne _ _ _ (by omega), vS_ne _ _ _ (by omega), vS_ne _ _ _ (by omega), vS_ne _ _ _ (by omega)]) (fun r hr => by rcases (show r = 0 ∨ r = 1 ∨ r = 2 ∨ r = 3 by omega) with rfl | rfl | rfl | rfl <;> simp [vS, va_up, upd]))
            refine lv_aload_n X.1 X.2.1 dL_law_90 rfl (lv_at hl 11 rfl) ?_
            refine lv_iconst (v := nI (2)) X.1 X.2.1 dL_law_91 (by decide) ?_
            refine lv_iconst (v := nI (0)) X.1 X.2.1 dL_law_92 (by decide) ?_
            refine lv_iconst (v := nI (1)) X.1 X.2.1 dL_law_93 (by decide) ?_
            refine lv_iconst (v := nI (0)) X.1 X.2.1 dL_law_94 (by decide) ?_
            refine q_callL X hS hZ hN h kcw_L_does kini_L (by decide) kar_L_does kml_L_does kst_L_does dL_law_95 (As := [.ref x, .int (nI (2)), .int (nI (0)), .int (nI (1)), .int (nI (0))]) ((c_L_does_match l G x ar N0i F0i B0i (N0i, F0i, B0i) (nI (0)) (nI (1)) (nI (0)) hst hI).k (k := 1) (by decide +kernel) (w := (-3000000)) (rfl) (C2 := (N0i, F0i, B0i)) (rfl)) rfl hl rfl (Nat.le_of_ble_eq_true rfl) ⟨Nat.le_of_ble_eq_true rfl, Nat.le_of_ble_eq_true rfl⟩ ⟨show 23 + 4 ≤ 733361 by omega, show 638 + 24 ≤ 6901384 by omega⟩ ?_
            rintro _ _ _ H locs ⟨rfl, rfl, rfl⟩ h
            refine lv_ldc (own := RL) (index := 64) (v := (-3000000)) X.1 X.2.1 X.2.2.2.1 (X.2.2.2.2.1.use kco_L_64) dL_law_98 ?_
            refine b_icmp_ne (tgt := 190) X dL_law_100 (by decide) (a := (-3000000)) (b := (-3000000)) ((by decide)) ((by decide)) (fun c6 => ?_) (fun c6 => ?_)
            · skip
              exact absurd c6 (by first | decide | omega)
            · skip
              refine lv_aload_n X.1 X.2.1 dL_law_103 rfl (lv_at hl 11 rfl) ?_
              refine lv_iconst (v := nI (1)) X.1 X.2.1 dL_law_104 (by decide) ?_
              refine lv_iconst (v := nI (4)) X.1 X.2.1 dL_law_105 (by decide) ?_
              refine lv_iconst (v := nI (0)) X.1 X.2.1 dL_law_106 (by decide) ?_
              refine lv_iconst (v := nI (0)) X.1 X.2.1 dL_law_107 (by decide) ?_
              refine q_callL X hS hZ hN h kcw_L_does kini_L (by decide) kar_L_does kml_L_does kst_L_does dL_law_108 (As := [.ref x, .int (nI (1)), .int (nI (4)), .int (nI (0)), .int (nI (0))]) ((c_L_does_room l G x ar N0i F0i B0i (N0i, F0i, B0i) (nI (4)) (nI (0)) (nI (0)) hst hI).k (k := 1) (by decide +kernel) (w := (-3000000)) (rfl) (C2 := (N0i, F0i, B0i)) (rfl)) rfl hl rfl (Nat.le_of_ble_eq_true rfl) ⟨Nat.le_of_ble_eq_true rfl, Nat.le_of_ble_eq_true rfl⟩ ⟨show 23 + 4 + 2 ≤ 733361 by omega, show 638 + 24 + 12 ≤ 6901384 by omega⟩ ?_
              rintro _ _ _ H locs ⟨rfl, rfl, rfl⟩ h
              refine lv_ldc (own := RL) (index := 64) (v := (-3000000)) X.1 X.2.1 X.2.2.2.1 (X.2.2.2.2.1.use kco_L_64) dL_law_111 ?_
              refine b_icmp_ne (tgt := 190) X dL_law_113 (by decide) (a := (-3000000)) (b := (-3000000)) ((by decide)) ((by decide)) (fun c7 => ?_) (fun c7 => ?_)
              · skip
                exact absurd c7 (by first | decide | omega)
              · skip
                refine lv_aload_n X.1 X.2.1 dL_law_116 rfl (lv_at hl 11 rfl) ?_
                refine lv_iconst (v := nI (1)) X.1 X.2.1 dL_law_117 (by decide) ?_
                refine lv_iconst (v := nI (0)) X.1 X.2.1 dL_law_118 (by decide) ?_
                refine lv_bipush (v := nI (51)) X.1 X.2.1 dL_law_119 (by decide) ?_
                refine lv_iconst (v := nI (0)) X.1 X.2.1 dL_law_121 (by decide) ?_
                refine q_callL X hS hZ hN h kcw_L_does kini_L (by decide) kar_L_does kml_L_does kst_L_does dL_law_122 (As := [.ref x, .int (nI (1)), .int (nI (0)), .int (nI (51)), .int (nI (0))]) ((c_L_does_room l G x ar N0i F0i B0i (N0i, F0i, B0i) (nI (0)) (nI (51)) (nI (0)) hst hI).k (k := 2) (by decide +kernel) (w := (-2000000)) (rfl) (C2 := (N0i, F0i, B0i)) (rfl)) rfl hl rfl (Nat.le_of_ble_eq_true rfl) ⟨Nat.le_of_ble_eq_true rfl, Nat.le_of_ble_eq_true rfl⟩ ⟨show 23 + 4 + 2 + 2 ≤ 733361 by omega, show 638 + 24 + 12 + 12 ≤ 6901384 by omega⟩ ?_
                rintro _ _ _ H locs ⟨rfl, rfl, rfl⟩ h
                refine lv_ldc (own := RL) (index := 67) (v := (-2000000)) X.1 X.2.1 X.2.2.2.1 (X.2.2.2.2.1.use kco_L_67) dL_law_125 ?_
                refine b_icmp_ne (tgt := 190) X dL_law_127 (by decide) (a := (-2000000)) (b := (-2000000)) ((by decide)) ((by decide)) (fun c8 => ?_) (fun c8 => ?_)
                · skip
                  exact absurd c8 (by first | decide | omega)
                · skip
                  refine lv_aload_n X.1 X.2.1 dL_law_130 rfl (lv_at hl 11 rfl) ?_
                  refine lv_bipush (v := nI (9)) X.1 X.2.1 dL_law_131 (by decide) ?_
                  refine lv_iconst (v := nI (0)) X.1 X.2.1 dL_law_133 (by decide) ?_
                  refine lv_iconst (v := nI (0)) X.1 X.2.1 dL_law_134 (by decide) ?_
                  refine lv_iconst (v := nI (0)) X.1 X.2.1 dL_law_135 (by decide) ?_
                  refine q_callL X hS hZ hN h kcw_L_does kini_L (by decide) kar_L_does kml_L_does kst_L_does dL_law_136 (As := [.ref x, .int (nI (9)), .int (nI (0)), .int (nI (0)), .int (nI (0))]) ((c_L_does_pass l G x ar N0i F0i B0i (N0i, F0i, B0i) (nI (0)) (nI (0)) (nI (0)) hst hI).k (k := 1) (by decide +kernel) (w := (-2000000)) (rfl) (C2 := (N0i, F0i, B0i)) (rfl)) rfl hl rfl (Nat.le_of_ble_eq_true rfl) ⟨Nat.le_of_ble_eq_true rfl, Nat.le_of_ble_eq_true rfl⟩ ⟨show 23 + 4 + 2 + 2 + 1 ≤ 733361 by omega, show 638 + 24 + 12 + 12 + 6 ≤ 6901384 by omega⟩ ?_
                  rintro _ _ _ H locs ⟨rfl, rfl, rfl⟩ h
                  refine lv_ldc (own := RL) (index := 67) (v := (-2000000)) X.1 X.2.1 X.2.2.2.1 (X.2.2.2.2.1.use kco_L_67) dL_law_139 ?_
                  refine b_icmp_ne (tgt := 190) X dL_law_141 (by decide) (a := (-2000000)) (b := (-2000000)) ((by decide)) ((by decide)) (fun c9 => ?_) (fun c9 => ?_)
                  · skip
                    exact absurd c9 (by first | decide | omega)
                  · skip
                    refine lv_aload_n X.1 X.2.1 dL_law_144 rfl (lv_at hl 11 rfl) ?_
                    refine lv_bipush (v := nI (6)) X.1 X.2.1 dL_law_145 (by decide) ?_
                    refine lv_iconst (v := nI (0)) X.1 X.2.1 dL_law_147 (by decide) ?_
                    refine lv_iconst (v := nI (0)) X.1 X.2.1 dL_law_148 (by decide) ?_
                    refine lv_iconst (v := nI (0)) X.1 X.2.1 dL_law_149 (by decide) ?_
                    refine q_callL X hS hZ hN h kcw_L_does kini_L (by decide) kar_L_does kml_L_does kst_L_does dL_law_150 (As := [.ref x, .int (nI (6)), .int (nI (0)), .int (nI (0)), .int (nI (0))]) ((c_L_does_proof l G x ar N0i F0i B0i (N0i, F0i, B0i) (nI (0)) (nI (0)) (nI (0)) hst hI).k (k := 1) (by decide +kernel) (w := (-3000000)) (rfl) (C2 := (N0i, F0i, B0i)) (rfl)) rfl hl rfl (Nat.le_of_ble_eq_true rfl) ⟨Nat.le_of_ble_eq_true rfl, Nat.le_of_ble_eq_true rfl⟩ ⟨show 23 + 4 + 2 + 2 + 1 + 2 ≤ 733361 by omega, show 638 + 24 + 12 + 12 + 6 + 12 ≤ 6901384 by omega⟩ ?_
                    rintro _ _ _ H locs ⟨rfl, rfl, rfl⟩ h
                    refine lv_ldc (own := RL) (index := 64) (v := (-3000000)) X.1 X.2.1 X.2.2.2.1 (X.2.2.2.2.1.use kco_L_64) dL_law_153 ?_
                    refine b_icmp_ne (tgt := 190) X dL_law_155 (by decide) (a := (-3000000)) (b := (-3000000)) ((by decide)) ((by decide)) (fun c10 => ?_) (fun c10 => ?_)
                    · skip
                      exact absurd c10 (by first | decide | omega)
                    · skip
                      refine lv_aload_n X.1 X.2.1 dL_law_158 rfl (lv_at hl 11 rfl) ?_
                      refine lv_bipush (v := nI (14)) X.1 X.2.1 dL_law_159 (by decide) ?_
                      refine lv_iconst (v := nI (0)) X.1 X.2.1 dL_law_161 (by decide) ?_
                      refine lv_iconst (v := nI (0)) X.1 X.2.1 dL_law_162 (by decide) ?_
                      refine lv_iconst (v := nI (0)) X.1 X.2.1 dL_law_163 (by decide) ?_
                      refine q_callL X hS hZ hN h kcw_L_does kini_L (by decide) kar_L_does kml_L_does kst_L_does dL_law_164 (As := [.ref x, .int (nI (14)), .int (nI (0)), .int (nI (0)), .int (nI (0))]) ((c_L_does_label l G x ar N0i F0i B0i (N0i, F0i, B0i) (nI (0)) (nI (0)) (nI (0)) hst hI).k (k := 1) (by decide +kernel) (w := (-3000000)) (rfl) (C2 := (N0i, F0i, B0i)) (rfl)) rfl hl rfl (Nat.le_of_ble_eq_true rfl) ⟨Nat.le_of_ble_eq_true rfl, Nat.le_of_ble_eq_true rfl⟩ ⟨show 23 + 4 + 2 + 2 + 1 + 2 + 3 ≤ 733361 by omega, show 638 + 24 + 12 + 12 + 6 + 12 + 26 ≤ 6901384 by omega⟩ ?_
                      rintro _ _ _ H locs ⟨rfl, rfl, rfl⟩ h
                      refine lv_ldc (own := RL) (index := 64) (v := (-3000000)) X.1 X.2.1 X.2.2.2.1 (X.2.2.2.2.1.use kco_L_64) dL_law_167 ?_
                      refine b_icmp_ne (tgt := 190) X dL_law_169 (by decide) (a := (-3000000)) (b := (-3000000)) ((by decide)) ((by decide)) (fun c11 => ?_) (fun c11 => ?_)
                      · skip
                        exact absurd c11 (by first | decide | omega)
                      · skip
                        refine lv_aload_n X.1 X.2.1 dL_law_172 rfl (lv_at hl 11 rfl) ?_
                        refine lv_bipush (v := nI (11)) X.1 X.2.1 dL_law_173 (by decide) ?_
                        refine lv_iconst (v := nI (1)) X.1 X.2.1 dL_law_175 (by decide) ?_
                        refine lv_iconst (v := nI (0)) X.1 X.2.1 dL_law_176 (by decide) ?_
                        refine lv_iconst (v := nI (0)) X.1 X.2.1 dL_law_177 (by decide) ?_
                        refine q_callL X hS hZ hN h kcw_L_does kini_L (by decide) kar_L_does kml_L_does kst_L_does dL_law_178 (As := [.ref x, .int (nI (11)), .int (nI (1)), .int (nI (0)), .int (nI (0))]) ((c_L_does_ranked l G x ar N0i F0i B0i (N0i, F0i, B0i) (nI (1)) (nI (0)) (nI (0)) hst hI).k (k := 1) (by decide +kernel) (w := (-3000000)) (rfl) (C2 := (N0i, F0i, B0i)) (rfl)) rfl hl rfl (Nat.le_of_ble_eq_true rfl) ⟨Nat.le_of_ble_eq_true rfl, Nat.le_of_ble_eq_true rfl⟩ ⟨show 23 + 4 + 2 + 2 + 1 + 2 + 3 + 3 ≤ 733361 by omega, show 638 + 24 + 12 + 12 + 6 + 12 + 26 + 18 ≤ 6901384 by omega⟩ ?_
                        rintro _ _ _ H locs ⟨rfl, rfl, rfl⟩ h
                        refine lv_ldc (own := RL) (index := 64) (v := (-3000000)) X.1 X.2.1 X.2.2.2.1 (X.2.2.2.2.1.use kco_L_64) dL_law_181 ?_
                        refine b_icmp_ne (tgt := 190) X dL_law_183 (by decide) (a := (-3000000)) (b := (-3000000)) ((by decide)) ((by decide)) (fun c12 => ?_) (fun c12 => ?_)
                        · skip
                          exact absurd c12 (by first | decide | omega)
                        · skip
                          refine lv_iconst (v := nI (1)) X.1 X.2.1 dL_law_186 (by decide) ?_
                          refine lv_goto (tgt := 191) X.1 X.2.1 dL_law_187 (by decide) ?_
                          refine lv_istore (lv' := [(12, .int (nI (1))), (11, .ref (ar 9)), (10, .ref (ar 8)), (9, .ref (ar 7)), (8, .ref (ar 6)), (7, .ref (ar 5)), (6, .ref (ar 4)), (5, .ref (ar 3)), (4, .ref (ar 2)), (3, .ref (ar 1)), (2, .ref (ar 0)), (1, .ref x), (0, .ref b)]) X.1 X.2.1 dL_law_191 hl (by decide) rfl (fun ls hl => ?_)
                          refine lv_iconst (v := nI (0)) X.1 X.2.1 dL_law_193 (by decide) ?_
                          refine lv_istore (lv' := [(13, .int (nI (0))), (12, .int (nI (1))), (11, .ref (ar 9)), (10, .ref (ar 8)), (9, .ref (ar 7)), (8, .ref (ar 6)), (7, .ref (ar 5)), (6, .ref (ar 4)), (5, .ref (ar 3)), (4, .ref (ar 2)), (3, .ref (ar 1)), (2, .ref (ar 0)), (1, .ref x), (0, .ref b)]) X.1 X.2.1 dL_law_194 hl (by decide) rfl (fun ls hl => ?_)
                          refine W.widen (k := 1000 + 1100 * 0) (n := 10000 + 7000 * 0) (show 23 + 4 + 2 + 2 + 1 + 2 + 3 + 3 ≤ 1000 + 1100 * 0 by omega) (show 638 + 24 + 12 + 12 + 6 + 12 + 26 + 18 ≤ 10000 + 7000 * 0 by omega) ?_
                          exact law_loop C0 hL X hS hZ hN hst 65 0 (by omega) (by omega) N0i F0i B0i _ _ _ ⟨IvJv0.1, IvJv0.2, Nat.le_refl 0⟩ h (lv_sub hl [1, 0, 13, 12, 11, 10, 9, 8, 7, 6, 5, 4, 3, 2] rfl)
          · skip
            exact absurd c5 (by first | decide | omega)
