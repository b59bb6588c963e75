theorem mU_nn {M : Mem} {a b : Nat} {e : va_E} (h : M b = none) (hb : M a = some e) : a ≠ b := fun z => by rw [z, h] at hb; cases hb
theorem mU_none {M : Mem} {a b : Nat} {e : va_E} (h : mU M a e b = none) : b ≠ a ∧ M b = none := by
  by_cases hb : b = a
  · subst hb; rw [mU_eq] at h; cases h
  · exact ⟨hb, by rwa [mU_ne hb] at h⟩
section NROWS
variable {p : Program} {l : Launch} {e : Env} {R : Room} {s : State} {m : MethodId} {args : Array Value} {below : List Frame} {meth : Method} {c : Code} {H : Heap} {locs : List Loc} {cells slots : Nat} {Q : State → Prop}
variable {cc : ByteArray} {pc nL : Nat} {ls : Array Slot} {rest : List Value} {G : mG} {A : Nat → Prop} {a : Nat} {M : Mem} {own : String} {H0 : Heap}
theorem mx_newi (X : Cx p c s m cc own nL G) (hM : mW G A H0 M H locs) {n : Nat} (h : n ≤ 1000) (hdg : decode cc pc = .ok (.newarray .int, 2)) (hcells : cells + 1 ≤ R.cells) (hslots : slots + n ≤ R.slots)
    (kk : ∀ (q : Nat) (H1 : Heap), M q = none → mW G A H0 (mU M q (.inl (G.2 0, n, .inl (fun _ => 0)))) H1 locs → W p l e R s m args below meth c H1 locs (cells + 1) (slots + n) Q (F0 m (pc + 2) ls (.ref q :: rest))) : W p l e R s m args below meth c H locs cells slots Q (F0 m pc ls (.int (nI n) :: rest)) :=
  mg_newa (ty := .int) X hM 0 (fun _ h => h) rfl rfl kac_int (vp_cell_i _ _ _) (fun q => (vp_in_nI (show n < n + 1 by omega) (show n + 1 < 2 ^ 31 by omega)) (Or.inl q)) (nI_clamp (by omega)) (by show n * 4 ≤ _; omega) hdg hcells hslots kk
theorem mx_newq (X : Cx p c s m cc own nL G) (hM : mW G A H0 M H locs) (t0 : Nat) {cA : ClassId} {C : String} {index : Nat} (ht : (mTys G)[t0]? = some (cA, .object C)) (hcl : Cond.classLink own index C ∈ KTW) (hov : Cond.arrayOver (.object C) ∈ KTW) {n : Nat} (h : n ≤ 1000) (hdg : decode cc pc = .ok (.anewarray index, 3)) (hcells : cells + 1 ≤ R.cells) (hslots : slots + n ≤ R.slots)
    (kk : ∀ (q : Nat) (H1 : Heap), M q = none → mW G A H0 (mU M q (.inl (cA, n, .inr (.inr (.inr (.inr (fun _ => none))))))) H1 locs → W p l e R s m args below meth c H1 locs (cells + 1) (slots + n) Q (F0 m (pc + 3) ls (.ref q :: rest))) : W p l e R s m args below meth c H locs cells slots Q (F0 m pc ls (.int (nI n) :: rest)) :=
  mg_newq X hM t0 ht hcl hov (fun q => (vp_in_nI (show n < n + 1 by omega) (show n + 1 < 2 ^ 31 by omega)) (Or.inl q)) (nI_clamp (by omega)) (by omega) hdg hcells hslots kk
end NROWS
set_option maxHeartbeats 4000000 in
set_option maxRecDepth 100000 in
theorem c_X1_init (l : Launch) (G : mG) (M : Mem) (q : Nat) (n : Nat) (hq : M q = some (.inr (2, [.int (0), .int (0), .int (0), .int (0)]))) : mMet l yX1_init cX1_init 2 none ({ frames := 1, cells := 0, slots := 0, locals := 12 } : Room) G [.ref q, .int (nI (n))] M (fun r M' => r = none ∧ mU M q (.inr (2, [.int (nI (n)), .int (0), .int (nI (0) - 1), .int (0)])) = M') := by
  refine mMet.of (by decide) (Nat.le_of_ble_eq_true rfl) ?_
  intro p e s m args below meth c A ls X hr hlocks hname hM hl
  have hl : lv_has ls 2 [(0, .ref q), (1, .int (nI (n)))] := hl
  refine lv_aload_n X.1 X.2.1 dX1_init_0 rfl (lv_at hl 0 rfl) ?_
  refine mg_objInit X ko_X1_3 ki_obj kc_obj dX1_init_1 hl (Nat.le_of_ble_eq_true rfl) (Nat.le_of_ble_eq_true rfl) ?_
  refine lv_aload_n X.1 X.2.1 dX1_init_4 rfl (lv_at hl 0 rfl) ?_
  refine lv_iconst (v := nI (0) - 1) X.1 X.2.1 dX1_init_5 (by decide) ?_
  refine mg_put X hM tyX1 tyX1_ok nmX1 (ci := 2) (k := 2) rfl kwX1 (by decide) kf_X1_9 rfl dX1_init_6 hq rfl rfl (Nat.le_of_ble_eq_true rfl) (fun H locs hM => ?_)
  have hM : mW G A s.heap (mU M q (.inr (2, [.int (0), .int (0), .int (nI (0) - 1), .int (0)]))) H locs := hM
  refine lv_aload_n X.1 X.2.1 dX1_init_9 rfl (lv_at hl 0 rfl) ?_
  refine lv_iload_n X.1 X.2.1 dX1_init_10 rfl (lv_at hl 1 rfl) ?_
  refine mg_putF X hM tyX1 tyX1_ok nmX1 (ci := 2) (k := 0) rfl kwX1 (by decide) kf_X1_15 rfl rfl dX1_init_11 hname (mU_eq _ _ _) rfl rfl (Nat.le_of_ble_eq_true rfl) (fun H locs hM => ?_)
  have hM : mW G A s.heap (mU M q (.inr (2, [.int (nI (n)), .int (0), .int (nI (0) - 1), .int (0)]))) H locs := by rw [mU_mU] at hM; exact hM
  exact m_vret X hr hlocks hM dX1_init_14 ⟨Nat.le_of_ble_eq_true rfl, Nat.le_of_ble_eq_true rfl⟩ (⟨rfl, rfl⟩)
set_option maxHeartbeats 4000000 in
set_option maxRecDepth 100000 in
theorem c_X2_init (l : Launch) (G : mG) (M : Mem) (q : Nat) (hq : M q = some (.inr (3, [.int (0), .int (0)]))) : mMet l yX2_init cX2_init 1 none ({ frames := 1, cells := 0, slots := 0, locals := 12 } : Room) G [.ref q] M (fun r M' => r = none ∧ mU M q (.inr (3, [.int (nI (10)), .int (0)])) = M') := by
  refine mMet.of (by decide) (Nat.le_of_ble_eq_true rfl) ?_
  intro p e s m args below meth c A ls X hr hlocks hname hM hl
  have hl : lv_has ls 1 [(0, .ref q)] := hl
  refine lv_aload_n X.1 X.2.1 dX2_init_0 rfl (lv_at hl 0 rfl) ?_
  refine mg_objInit X ko_X2_3 ki_obj kc_obj dX2_init_1 hl (Nat.le_of_ble_eq_true rfl) (Nat.le_of_ble_eq_true rfl) ?_
  refine lv_aload_n X.1 X.2.1 dX2_init_4 rfl (lv_at hl 0 rfl) ?_
  refine lv_bipush (v := nI (10)) X.1 X.2.1 dX2_init_5 (by decide) ?_
  refine mg_put X hM tyX2 tyX2_ok nmX2 (ci := 3) (k := 0) rfl kwX2 (by decide) kf_X2_9 rfl dX2_init_7 hq rfl rfl (Nat.le_of_ble_eq_true rfl) (fun H locs hM => ?_)
  have hM : mW G A s.heap (mU M q (.inr (3, [.int (nI (10)), .int (0)]))) H locs := hM
  exact m_vret X hr hlocks hM dX2_init_10 ⟨Nat.le_of_ble_eq_true rfl, Nat.le_of_ble_eq_true rfl⟩ (⟨rfl, rfl⟩)
set_option maxHeartbeats 4000000 in
set_option maxRecDepth 100000 in
theorem c_X3_init (l : Launch) (G : mG) (M : Mem) (q : Nat) (a : Nat) (b : Nat) (its : Nat) (hq : M q = some (.inr (4, [.null, .null, .int (0)]))) : mMet l yX3_init cX3_init 4 none ({ frames := 1, cells := 0, slots := 0, locals := 12 } : Room) G [.ref q, .ref a, .ref b, .int (nI (its))] M (fun r M' => r = none ∧ mU M q (.inr (4, [.ref a, .ref b, .int (nI (its))])) = M') := by
  refine mMet.of (by decide) (Nat.le_of_ble_eq_true rfl) ?_
  intro p e s m args below meth c A ls X hr hlocks hname hM hl
  have hl : lv_has ls 4 [(0, .ref q), (1, .ref a), (2, .ref b), (3, .int (nI (its)))] := hl
  refine lv_aload_n X.1 X.2.1 dX3_init_0 rfl (lv_at hl 0 rfl) ?_
  refine mg_objInit X ko_X3_1 ki_obj kc_obj dX3_init_1 hl (Nat.le_of_ble_eq_true rfl) (Nat.le_of_ble_eq_true rfl) ?_
  refine lv_aload_n X.1 X.2.1 dX3_init_4 rfl (lv_at hl 0 rfl) ?_
  refine lv_aload_n X.1 X.2.1 dX3_init_5 rfl (lv_at hl 1 rfl) ?_
  refine mg_putF X hM tyX3 tyX3_ok nmX3 (ci := 4) (k := 0) rfl kwX3 (by decide) kf_X3_7 rfl rfl dX3_init_6 hname hq rfl rfl (Nat.le_of_ble_eq_true rfl) (fun H locs hM => ?_)
  have hM : mW G A s.heap (mU M q (.inr (4, [.ref a, .null, .int (0)]))) H locs := hM
  refine lv_aload_n X.1 X.2.1 dX3_init_9 rfl (lv_at hl 0 rfl) ?_
  refine lv_aload_n X.1 X.2.1 dX3_init_10 rfl (lv_at hl 2 rfl) ?_
  refine mg_putF X hM tyX3 tyX3_ok nmX3 (ci := 4) (k := 1) rfl kwX3 (by decide) kf_X3_13 rfl rfl dX3_init_11 hname (mU_eq _ _ _) rfl rfl (Nat.le_of_ble_eq_true rfl) (fun H locs hM => ?_)
  have hM : mW G A s.heap (mU M q (.inr (4, [.ref a, .ref b, .int (0)]))) H locs := by rw [mU_mU] at hM; exact hM
  refine lv_aload_n X.1 X.2.1 dX3_init_14 rfl (lv_at hl 0 rfl) ?_
  refine lv_iload_n X.1 X.2.1 dX3_init_15 rfl (lv_at hl 3 rfl) ?_
  refine mg_putF X hM tyX3 tyX3_ok nmX3 (ci := 4) (k := 2) rfl kwX3 (by decide) kf_X3_16 rfl rfl dX3_init_16 hname (mU_eq _ _ _) rfl rfl (Nat.le_of_ble_eq_true rfl) (fun H locs hM => ?_)
  have hM : mW G A s.heap (mU M q (.inr (4, [.ref a, .ref b, .int (nI (its))]))) H locs := by rw [mU_mU] at hM; exact hM
  exact m_vret X hr hlocks hM dX3_init_19 ⟨Nat.le_of_ble_eq_true rfl, Nat.le_of_ble_eq_true rfl⟩ (⟨rfl, rfl⟩)
set_option maxHeartbeats 4000000 in
set_option maxRecDepth 100000 in
theorem c_X0_init (l : Launch) (G : mG) (M : Mem) (q : Nat) (a : Nat) (b : Nat) (sa : Nat) (d : Nat) (hq : M q = some (.inr (1, [.null, .null, .null, .int (0)]))) : mMet l yX0_init cX0_init 5 none ({ frames := 1, cells := 0, slots := 0, locals := 12 } : Room) G [.ref q, .ref a, .ref b, .ref sa, .int (nI (d))] M (fun r M' => r = none ∧ mU M q (.inr (1, [.ref a, .ref b, .ref sa, .int (nI (d))])) = M') := by
  refine mMet.of (by decide) (Nat.le_of_ble_eq_true rfl) ?_
  intro p e s m args below meth c A ls X hr hlocks hname hM hl
  have hl : lv_has ls 5 [(0, .ref q), (1, .ref a), (2, .ref b), (3, .ref sa), (4, .int (nI (d)))] := hl
  refine lv_aload_n X.1 X.2.1 dX0_init_0 rfl (lv_at hl 0 rfl) ?_
  refine mg_objInit X ko_X0_3 ki_obj kc_obj dX0_init_1 hl (Nat.le_of_ble_eq_true rfl) (Nat.le_of_ble_eq_true rfl) ?_
  refine lv_aload_n X.1 X.2.1 dX0_init_4 rfl (lv_at hl 0 rfl) ?_
  refine lv_aload_n X.1 X.2.1 dX0_init_5 rfl (lv_at hl 1 rfl) ?_
  refine mg_putF X hM tyX0 tyX0_ok nmX0 (ci := 1) (k := 0) rfl kwX0 (by decide) kf_X0_9 rfl rfl dX0_init_6 hname hq rfl rfl (Nat.le_of_ble_eq_true rfl) (fun H locs hM => ?_)
  have hM : mW G A s.heap (mU M q (.inr (1, [.ref a, .null, .null, .int (0)]))) H locs := hM
  refine lv_aload_n X.1 X.2.1 dX0_init_9 rfl (lv_at hl 0 rfl) ?_
  refine lv_aload_n X.1 X.2.1 dX0_init_10 rfl (lv_at hl 2 rfl) ?_
  refine mg_putF X hM tyX0 tyX0_ok nmX0 (ci := 1) (k := 1) rfl kwX0 (by decide) kf_X0_15 rfl rfl dX0_init_11 hname (mU_eq _ _ _) rfl rfl (Nat.le_of_ble_eq_true rfl) (fun H locs hM => ?_)
  have hM : mW G A s.heap (mU M q (.inr (1, [.ref a, .ref b, .null, .int (0)]))) H locs := by rw [mU_mU] at hM; exact hM
  refine lv_aload_n X.1 X.2.1 dX0_init_14 rfl (lv_at hl 0 rfl) ?_
  refine lv_aload_n X.1 X.2.1 dX0_init_15 rfl (lv_at hl 3 rfl) ?_
  refine mg_putF X hM tyX0 tyX0_ok nmX0 (ci := 1) (k := 2) rfl kwX0 (by decide) kf_X0_18 rfl rfl dX0_init_16 hname (mU_eq _ _ _) rfl rfl (Nat.le_of_ble_eq_true rfl) (fun H locs hM => ?_)
  have hM : mW G A s.heap (mU M q (.inr (1, [.ref a, .ref b, .ref sa, .int (0)]))) H locs := by rw [mU_mU] at hM; exact hM
  refine lv_aload_n X.1 X.2.1 dX0_init_19 rfl (lv_at hl 0 rfl) ?_
  refine lv_iload X.1 X.2.1 dX0_init_20 (lv_at hl 4 rfl) ?_
  refine mg_putF X hM tyX0 tyX0_ok nmX0 (ci := 1) (k := 3) rfl kwX0 (by decide) kf_X0_22 rfl rfl dX0_init_22 hname (mU_eq _ _ _) rfl rfl (Nat.le_of_ble_eq_true rfl) (fun H locs hM => ?_)
  have hM : mW G A s.heap (mU M q (.inr (1, [.ref a, .ref b, .ref sa, .int (nI (d))]))) H locs := by rw [mU_mU] at hM; exact hM
  exact m_vret X hr hlocks hM dX0_init_25 ⟨Nat.le_of_ble_eq_true rfl, Nat.le_of_ble_eq_true rfl⟩ (⟨rfl, rfl⟩)
set_option maxHeartbeats 4000000 in
set_option maxRecDepth 100000 in
theorem c_X4_init (l : Launch) (G : mG) (M : Mem) (q : Nat) (n : Nat) (hq : M q = some (.inr (5, [.int (0), .null, .null]))) : mMet l yX4_init cX4_init 2 none ({ frames := 1, cells := 2, slots := 32, locals := 12 } : Room) G [.ref q, .int (nI (n))] M (fun r M' => r = none ∧ ∃ a b, M a = none ∧ M b = none ∧ b ≠ a ∧ mU (mU (mU (mU M a (.inl (G.2 0, 16, .inl (fun _ => 0)))) q (.inr (5, [.int 0, .ref a, .null]))) b (.inl (G.2 0, 16, .inl (fun _ => 0)))) q (.inr (5, [.int (nI n), .ref a, .ref b])) = M') := by
  refine mMet.of (by decide) (Nat.le_of_ble_eq_true rfl) ?_
  intro p e s m args below meth c A ls X hr hlocks hname hM hl
  have hl : lv_has ls 2 [(0, .ref q), (1, .int (nI (n)))] := hl
  refine lv_aload_n X.1 X.2.1 dX4_init_0 rfl (lv_at hl 0 rfl) ?_
  refine mg_objInit X ko_X4_3 ki_obj kc_obj dX4_init_1 hl (Nat.le_of_ble_eq_true rfl) (Nat.le_of_ble_eq_true rfl) ?_
  refine lv_aload_n X.1 X.2.1 dX4_init_4 rfl (lv_at hl 0 rfl) ?_
  refine lv_bipush (v := nI (16)) X.1 X.2.1 dX4_init_5 (by decide) ?_
  refine mx_newi X hM (n := 16) (by decide) dX4_init_7 (Nat.le_of_ble_eq_true rfl) (Nat.le_of_ble_eq_true rfl) (fun a1 H hn2 hM => ?_)
  have ne3 := mU_nn hn2 hq
  refine mg_putF X hM tyX4 tyX4_ok nmX4 (ci := 5) (k := 1) rfl kwX4 (by decide) kf_X4_9 rfl rfl dX4_init_9 hname (mU_at ne3 hq) rfl rfl (Nat.le_of_ble_eq_true rfl) (fun H locs hM => ?_)
  have hM : mW G A s.heap (mU (mU M a1 (.inl (G.2 0, 16, .inl (fun _ => 0)))) q (.inr (5, [.int (0), .ref a1, .null]))) H locs := hM
  refine lv_aload_n X.1 X.2.1 dX4_init_12 rfl (lv_at hl 0 rfl) ?_
  refine lv_bipush (v := nI (16)) X.1 X.2.1 dX4_init_13 (by decide) ?_
  refine mx_newi X hM (n := 16) (by decide) dX4_init_15 (Nat.le_of_ble_eq_true rfl) (Nat.le_of_ble_eq_true rfl) (fun a4 H hn5 hM => ?_)
  have ne6 := mU_nn hn5 (mU_eq _ _ _)
  refine mg_putF X hM tyX4 tyX4_ok nmX4 (ci := 5) (k := 2) rfl kwX4 (by decide) kf_X4_15 rfl rfl dX4_init_17 hname (mU_at ne6 (mU_eq _ _ _)) rfl rfl (Nat.le_of_ble_eq_true rfl) (fun H locs hM => ?_)
  have hM : mW G A s.heap (mU (mU (mU (mU M a1 (.inl (G.2 0, 16, .inl (fun _ => 0)))) q (.inr (5, [.int (0), .ref a1, .null]))) a4 (.inl (G.2 0, 16, .inl (fun _ => 0)))) q (.inr (5, [.int (0), .ref a1, .ref a4]))) H locs := hM
  refine lv_aload_n X.1 X.2.1 dX4_init_20 rfl (lv_at hl 0 rfl) ?_
  refine lv_iload_n X.1 X.2.1 dX4_init_21 rfl (lv_at hl 1 rfl) ?_
  refine mg_putF X hM tyX4 tyX4_ok nmX4 (ci := 5) (k := 0) rfl kwX4 (by decide) kf_X4_18 rfl rfl dX4_init_22 hname (mU_eq _ _ _) rfl rfl (Nat.le_of_ble_eq_true rfl) (fun H locs hM => ?_)
  have hM : mW G A s.heap (mU (mU (mU (mU M a1 (.inl (G.2 0, 16, .inl (fun _ => 0)))) q (.inr (5, [.int (0), .ref a1, .null]))) a4 (.inl (G.2 0, 16, .inl (fun _ => 0)))) q (.inr (5, [.int (nI (n)), .ref a1, .ref a4]))) H locs := by rw [mU_mU] at hM; exact hM
  exact m_vret X hr hlocks hM dX4_init_25 ⟨Nat.le_of_ble_eq_true rfl, Nat.le_of_ble_eq_true rfl⟩ (⟨rfl, a1, a4, hn2, (mU_none (mU_none hn5).2).2, (mU_none (mU_none hn5).2).1, rfl⟩)
set_option maxHeartbeats 4000000 in
set_option maxRecDepth 100000 in
theorem c_X5_init (l : Launch) (G : mG) (M : Mem) (q : Nat) (n : Nat) (sa : Nat) (pl : Nat) (h : Nat) (hq : M q = some (.inr (6, [.int (0), .null, .int (0), .null, .int (0), .null, .null, .null, .null, .int (0)]))) : mMet l yX5_init cX5_init 5 none ({ frames := 1, cells := 1, slots := 20, locals := 12 } : Room) G [.ref q, .int (nI (n)), .ref sa, .int (nI (pl)), .ref h] M (fun r M' => r = none ∧ ∃ a, M a = none ∧ mU (mU M a (.inl (G.2 8, 20, .inr (.inr (.inr (.inr (fun _ => none))))))) q (.inr (6, [.int (nI n), .ref sa, .int (nI pl), .ref a, .int 0, .null, .ref h, .ref h, .null, .int 0])) = M') := by
  refine mMet.of (by decide) (Nat.le_of_ble_eq_true rfl) ?_
  intro p e s m args below meth c A ls X hr hlocks hname hM hl
  have hl : lv_has ls 5 [(0, .ref q), (1, .int (nI (n))), (2, .ref sa), (3, .int (nI (pl))), (4, .ref h)] := hl
  refine lv_aload_n X.1 X.2.1 dX5_init_0 rfl (lv_at hl 0 rfl) ?_
  refine mg_objInit X ko_X5_3 ki_obj kc_obj dX5_init_1 hl (Nat.le_of_ble_eq_true rfl) (Nat.le_of_ble_eq_true rfl) ?_
  refine lv_aload_n X.1 X.2.1 dX5_init_4 rfl (lv_at hl 0 rfl) ?_
  refine lv_bipush (v := nI (20)) X.1 X.2.1 dX5_init_5 (by decide) ?_
  refine mx_newq X hM 8 rfl kcl_X5_9 kao_X3 (n := 20) (by decide) dX5_init_7 (Nat.le_of_ble_eq_true rfl) (Nat.le_of_ble_eq_true rfl) (fun a1 H hn2 hM => ?_)
  have ne3 := mU_nn hn2 hq
  refine mg_putF X hM tyX5 tyX5_ok nmX5 (ci := 6) (k := 3) rfl kwX5 (by decide) kf_X5_11 rfl rfl dX5_init_10 hname (mU_at ne3 hq) rfl rfl (Nat.le_of_ble_eq_true rfl) (fun H locs hM => ?_)
  have hM : mW G A s.heap (mU (mU M a1 (.inl (G.2 8, 20, .inr (.inr (.inr (.inr (fun _ => none))))))) q (.inr (6, [.int (0), .null, .int (0), .ref a1, .int (0), .null, .null, .null, .null, .int (0)]))) H locs := hM
  refine lv_aload_n X.1 X.2.1 dX5_init_13 rfl (lv_at hl 0 rfl) ?_
  refine lv_iload_n X.1 X.2.1 dX5_init_14 rfl (lv_at hl 1 rfl) ?_
  refine mg_putF X hM tyX5 tyX5_ok nmX5 (ci := 6) (k := 0) rfl kwX5 (by decide) kf_X5_17 rfl rfl dX5_init_15 hname (mU_eq _ _ _) rfl rfl (Nat.le_of_ble_eq_true rfl) (fun H locs hM => ?_)
  have hM : mW G A s.heap (mU (mU M a1 (.inl (G.2 8, 20, .inr (.inr (.inr (.inr (fun _ => none))))))) q (.inr (6, [.int (nI (n)), .null, .int (0), .ref a1, .int (0), .null, .null, .null, .null, .int (0)]))) H locs := by rw [mU_mU] at hM; exact hM
  refine lv_aload_n X.1 X.2.1 dX5_init_18 rfl (lv_at hl 0 rfl) ?_
  refine lv_aload_n X.1 X.2.1 dX5_init_19 rfl (lv_at hl 2 rfl) ?_
  refine mg_putF X hM tyX5 tyX5_ok nmX5 (ci := 6) (k := 1) rfl kwX5 (by decide) kf_X5_21 rfl rfl dX5_init_20 hname (mU_eq _ _ _) rfl rfl (Nat.le_of_ble_eq_true rfl) (fun H locs hM => ?_)
  have hM : mW G A s.heap (mU (mU M a1 (.inl (G.2 8, 20, .inr (.inr (.inr (.inr (fun _ => none))))))) q (.inr (6, [.int (nI (n)), .ref sa, .int (0), .ref a1, .int (0), .null, .null, .null, .null, .int (0)]))) H locs := by rw [mU_mU] at hM; exact hM
  refine lv_aload_n X.1 X.2.1 dX5_init_23 rfl (lv_at hl 0 rfl) ?_
  refine lv_iload_n X.1 X.2.1 dX5_init_24 rfl (lv_at hl 3 rfl) ?_
  refine mg_putF X hM tyX5 tyX5_ok nmX5 (ci := 6) (k := 2) rfl kwX5 (by decide) kf_X5_25 rfl rfl dX5_init_25 hname (mU_eq _ _ _) rfl rfl (Nat.le_of_ble_eq_true rfl) (fun H locs hM => ?_)
  have hM : mW G A s.heap (mU (mU M a1 (.inl (G.2 8, 20, .inr (.inr (.inr (.inr (fun _ => none))))))) q (.inr (6, [.int (nI (n)), .ref sa, .int (nI (pl)), .ref a1, .int (0), .null, .null, .null, .null, .int (0)]))) H locs := by rw [mU_mU] at hM; exact hM
  refine lv_aload_n X.1 X.2.1 dX5_init_28 rfl (lv_at hl 0 rfl) ?_
  refine lv_aload X.1 X.2.1 dX5_init_29 (lv_at hl 4 rfl) ?_
  refine mg_put X hM tyX5 tyX5_ok nmX5 (ci := 6) (k := 6) rfl kwX5 (by decide) kf_X5_28 rfl dX5_init_31 (mU_eq _ _ _) rfl rfl (Nat.le_of_ble_eq_true rfl) (fun H locs hM => ?_)
  have hM : mW G A s.heap (mU (mU M a1 (.inl (G.2 8, 20, .inr (.inr (.inr (.inr (fun _ => none))))))) q (.inr (6, [.int (nI (n)), .ref sa, .int (nI (pl)), .ref a1, .int (0), .null, .ref h, .null, .null, .int (0)]))) H locs := by rw [mU_mU] at hM; exact hM
  refine lv_aload_n X.1 X.2.1 dX5_init_34 rfl (lv_at hl 0 rfl) ?_
  refine lv_aload X.1 X.2.1 dX5_init_35 (lv_at hl 4 rfl) ?_
  refine mg_put X hM tyX5 tyX5_ok nmX5 (ci := 6) (k := 7) rfl kwX5 (by decide) kf_X5_32 rfl dX5_init_37 (mU_eq _ _ _) rfl rfl (Nat.le_of_ble_eq_true rfl) (fun H locs hM => ?_)
  have hM : mW G A s.heap (mU (mU M a1 (.inl (G.2 8, 20, .inr (.inr (.inr (.inr (fun _ => none))))))) q (.inr (6, [.int (nI (n)), .ref sa, .int (nI (pl)), .ref a1, .int (0), .null, .ref h, .ref h, .null, .int (0)]))) H locs := by rw [mU_mU] at hM; exact hM
  exact m_vret X hr hlocks hM dX5_init_40 ⟨Nat.le_of_ble_eq_true rfl, Nat.le_of_ble_eq_true rfl⟩ (⟨rfl, a1, hn2, rfl⟩)
