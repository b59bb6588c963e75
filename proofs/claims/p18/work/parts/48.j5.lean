theorem mx_newb {p : Program} {l : Launch} {e : Env} {R : Room} {s : State} {m : MethodId} {args : Array Value} {below : List Frame} {meth : Method} {c : Code} {H : Heap} {locs : List Loc} {cells slots : Nat} {Q : State → Prop} {cc : ByteArray} {pc nL : Nat} {ls : Array Slot} {rest : List Value} {G : mG} {A : Nat → Prop} {M : Mem} {own : String} {H0 : Heap} (X : Cx p c s m cc own nL G) (hM : mW G A H0 M H locs) {n : Nat} (h : n ≤ 1000) (hdg : decode cc pc = .ok (.newarray .byte, 2)) (hcells : cells + 1 ≤ R.cells) (hslots : slots + n ≤ R.slots)
    (kk : ∀ (q : Nat) (H1 : Heap), M q = none → mW G A H0 (mU M q (.inl (G.2 2, n, .inl (fun _ => 0)))) H1 locs → W p l e R s m args below meth c H1 locs (cells + 1) (slots + n) Q (F0 m (pc + 2) ls (.ref q :: rest))) : W p l e R s m args below meth c H locs cells slots Q (F0 m pc ls (.int (nI n) :: rest)) :=
  mg_newa (ty := .byte) X hM 2 (fun _ h => h) rfl rfl kac_byte (vp_cell_i _ _ _) (fun q => (vp_in_nI (show n < n + 1 by omega) (show n + 1 < 2 ^ 31 by omega)) (Or.inl q)) (nI_clamp (by omega)) (by show n * 1 ≤ _; omega) hdg hcells hslots kk
theorem c_J5_init_d00df (l : Launch) (G : mG) (M : Mem) (q : Nat) (hq : M q = some (.inr (0, [.null, .int 0, .int 0, .int 0]))) : jMet l yJ5_init_d00df cJ5_init_d00df 2 none ({ frames := 1, cells := 1, slots := 16, locals := 12 } : Room) G [.ref q, .int (nI (16))] M (fun r M' => r = none ∧ ∃ b, M b = none ∧ mU (mU M b (.inl (G.2 2, 16, .inl (fun _ => 0)))) q (.inr (0, [.ref b, .int (nI 0), .int 0, .int 0])) = M') := by
  refine jMet.of (by decide) (Nat.le_of_ble_eq_true rfl) ?_
  intro p e s m args below meth c A ls X hr hlocks hname hM hl hS hZ
  have hl : lv_has ls 2 [(0, .ref q), (1, .int (nI (16)))] := hl
  refine lv_aload_n X.1 X.2.1 dJ5_init_d00df_0 rfl (lv_at hl 0 rfl) ?_
  refine mg_objInit X ko_J5_3 ki_obj kc_obj dJ5_init_d00df_1 hl (Nat.le_of_ble_eq_true rfl) (Nat.le_of_ble_eq_true rfl) ?_
  refine mj_gets X hM hZ.2.2.1 kfs_J5_18 dJ5_init_d00df_4 ?_
  refine lv_top (y := nI 1) rfl ?_
  refine b_if_eq (tgt := 25) X dJ5_init_d00df_7 (by decide) (a := ((1 : Nat) : Int)) (nI_ti (by omega)) (fun c1 => ?_) (fun c1 => ?_)
  · skip
    exact absurd c1 (by first | decide | omega)
  · skip
    refine lv_aload_n X.1 X.2.1 dJ5_init_d00df_10 rfl (lv_at hl 0 rfl) ?_
    refine lv_iload_n X.1 X.2.1 dJ5_init_d00df_11 rfl (lv_at hl 1 rfl) ?_
    refine mx_newb X hM (n := 16) (by decide) dJ5_init_d00df_12 (Nat.le_of_ble_eq_true rfl) (Nat.le_of_ble_eq_true rfl) (fun b9 H hn9 hM => ?_)
    have nq9 := mU_nn hn9 hq
    refine mg_put X hM tyJ4 tyJ4_ok nmJ4 (ci := 0) (k := 0) rfl kwJ4 (by decide) kf_J5_15 rfl dJ5_init_d00df_14 (mU_at nq9 hq) rfl rfl (Nat.le_of_ble_eq_true rfl) (fun H locs hM => ?_)
    have hM : mW G A s.heap (mU (mU M b9 (.inl (G.2 2, 16, .inl (fun _ => 0)))) q (.inr (0, [.ref b9, .int (0), .int (0), .int (0)]))) H locs := hM
    refine lv_aload_n X.1 X.2.1 dJ5_init_d00df_17 rfl (lv_at hl 0 rfl) ?_
    refine lv_iconst (v := nI (0)) X.1 X.2.1 dJ5_init_d00df_18 (by decide) ?_
    refine mg_put X hM tyJ4 tyJ4_ok nmJ4 (ci := 0) (k := 1) rfl kwJ4 (by decide) kf_J5_22 rfl dJ5_init_d00df_19 (mU_eq _ _ _) rfl rfl (Nat.le_of_ble_eq_true rfl) (fun H locs hM => ?_)
    have hM : mW G A s.heap (mU (mU M b9 (.inl (G.2 2, 16, .inl (fun _ => 0)))) q (.inr (0, [.ref b9, .int (nI (0)), .int (0), .int (0)]))) H locs := by rw [mU_mU] at hM; exact hM
    refine lv_goto (tgt := 38) X.1 X.2.1 dJ5_init_d00df_22 (by decide) ?_
    exact m_vret X hr hlocks hM dJ5_init_d00df_38 ⟨Nat.le_of_ble_eq_true rfl, Nat.le_of_ble_eq_true rfl⟩ (⟨rfl, b9, hn9, rfl⟩)
theorem c_J4_init_da8c8 (l : Launch) (G : mG) (M : Mem) (q : Nat) (hq : M q = some (.inr (0, [.null, .int 0, .int 0, .int 0]))) : jMet l yJ4_init_da8c8 cJ4_init_da8c8 1 none ({ frames := 2, cells := 1, slots := 16, locals := 33 } : Room) G [.ref q] M (fun r M' => r = none ∧ ∃ b, M b = none ∧ mU (mU M b (.inl (G.2 2, 16, .inl (fun _ => 0)))) q (.inr (0, [.ref b, .int (nI 0), .int 0, .int 0])) = M') := by
  refine jMet.of (by decide) (Nat.le_of_ble_eq_true rfl) ?_
  intro p e s m args below meth c A ls X hr hlocks hname hM hl hS hZ
  have hl : lv_has ls 1 [(0, .ref q)] := hl
  refine lv_aload_n X.1 X.2.1 dJ4_init_da8c8_0 rfl (lv_at hl 0 rfl) ?_
  refine lv_bipush (v := nI (16)) X.1 X.2.1 dJ4_init_da8c8_1 (by decide) ?_
  refine jm_callI X hM hS hZ ck_J4_1 ki_J5_init_d00df rfl dJ4_init_da8c8_3 (b := q) (As := [.int (nI (16))]) (c_J5_init_d00df l G _ q hq) rfl hl rfl (Nat.le_of_ble_eq_true rfl) ⟨Nat.le_of_ble_eq_true rfl, Nat.le_of_ble_eq_true rfl⟩ ⟨Nat.le_of_ble_eq_true rfl, Nat.le_of_ble_eq_true rfl⟩ ?_
  rintro _ M H locs ⟨rfl, b9, hn9, rfl⟩ hM
  exact m_vret X hr hlocks hM dJ4_init_da8c8_6 ⟨Nat.le_of_ble_eq_true rfl, Nat.le_of_ble_eq_true rfl⟩ (⟨rfl, b9, hn9, rfl⟩)
