theorem c_J5_append_c97b9 (l : Launch) (G : mG) (M : Mem) (q : Nat) (b : Nat) (n : Nat) (f : Nat → Int32) (v : Nat) (hq : M q = some (.inr (0, [.ref b, .int (nI 0), .int 0, .int (nI n)]))) (hb : M b = some (.inl (G.2 2, 16, .inl f))) (hv : v ≤ 99) (hn : n + (dgs v).length ≤ 16) : jMet l yJ5_append_c97b9 cJ5_append_c97b9 4 (some (FieldType.object "java/lang/AbstractStringBuilder")) ({ frames := 1, cells := 0, slots := 0, locals := 26 } : Room) G [.ref q, .int (nI (v))] M (fun r M' => r = some (.ref q) ∧ mU (mU M b (.inl (G.2 2, 16, .inl (gcF f (n + (dgs v).length) v)))) q (.inr (0, [.ref b, .int (nI 0), .int 0, .int (nI (n + (dgs v).length))])) = M') := by
  refine jMet.of (by decide) (Nat.le_of_ble_eq_true rfl) ?_
  intro p e s m args below meth c A ls X hr hlocks hname hM hl hS hZ
  have hl : lv_has ls 4 [(0, .ref q), (1, .int (nI (v)))] := hl
  have hbq : b ≠ q := mem_ne hq hb (fun z => by cases z)
  have hqb : q ≠ b := fun z => hbq z.symm
  have hdl : (9 < v ∧ (dgs v).length = 2) ∨ (v ≤ 9 ∧ (dgs v).length = 1) := by unfold dgs; by_cases h9 : 9 < v <;> simp [h9] <;> omega
  refine lv_aload_n X.1 X.2.1 dJ5_append_c97b9_0 rfl (lv_at hl 0 rfl) ?_
  refine mg_get X hM (ci := 0) (k := 3) rfl kwJ4 (by decide) kf_J5_79 dJ5_append_c97b9_1 hq (v := .int (nI (n))) rfl ?_
  refine lv_istore_n (lv' := [(2, .int (nI (n))), (0, .ref q), (1, .int (nI (v)))]) X.1 X.2.1 dJ5_append_c97b9_4 rfl hl (by decide) rfl (fun ls hl => ?_)
  refine lv_iload_n X.1 X.2.1 dJ5_append_c97b9_5 rfl (lv_at hl 0 rfl) ?_
  refine lv_iload_n X.1 X.2.1 dJ5_append_c97b9_6 rfl (lv_at hl 2 rfl) ?_
  refine m_callS X hM ck_J5_245 kst_J6_stringSize_0f7a4 dJ5_append_c97b9_7 (As := [.int (nI (v))]) (c_J6_stringSize_0f7a4 l G _ v (by omega)) rfl hl rfl (Nat.le_of_ble_eq_true rfl) ⟨Nat.le_of_ble_eq_true rfl, Nat.le_of_ble_eq_true rfl⟩ ⟨Nat.le_of_ble_eq_true rfl, Nat.le_of_ble_eq_true rfl⟩ ?_
  rintro _ _ H locs ⟨rfl, rfl⟩ hM
  refine lv_iadd X.1 X.2.1 dJ5_append_c97b9_10 ?_
  refine lv_top (y := nI (n + ((dgs v).length))) (nI_add _ _) ?_
  refine lv_istore_n (lv' := [(3, .int (nI (n + ((dgs v).length)))), (2, .int (nI (n))), (0, .ref q), (1, .int (nI (v)))]) X.1 X.2.1 dJ5_append_c97b9_11 rfl hl (by decide) rfl (fun ls hl => ?_)
  refine lv_aload_n X.1 X.2.1 dJ5_append_c97b9_12 rfl (lv_at hl 2 rfl) ?_
  refine lv_iload_n X.1 X.2.1 dJ5_append_c97b9_13 rfl (lv_at hl 0 rfl) ?_
  refine m_callVp X hM ck_J5_100 ki_J5_ensureCapacityInternal_d00df (KT.one (State.WarmedH.refl s) (by decide +kernel) hS.2) (ci := 0) rfl dJ5_append_c97b9_14 (As := [.int (nI (n + ((dgs v).length)))]) (c_J5_ensureCapacityInternal_d00df l G _ q b (n) f (n + ((dgs v).length)) hq hb (by omega)) hq rfl hl rfl (Nat.le_of_ble_eq_true rfl) ⟨Nat.le_of_ble_eq_true rfl, Nat.le_of_ble_eq_true rfl⟩ ⟨Nat.le_of_ble_eq_true rfl, Nat.le_of_ble_eq_true rfl⟩ ?_
  rintro _ _ H locs ⟨rfl, rfl⟩ hM
  refine lv_aload_n X.1 X.2.1 dJ5_append_c97b9_17 rfl (lv_at hl 2 rfl) ?_
  refine jm_callV X hM hS hZ ck_J5_83 ki_J5_isLatin1_aae02 ks_J5_isLatin1_aae02_J4 (ci := 0) rfl dJ5_append_c97b9_18 (As := []) (c_J5_isLatin1_aae02 l G _ q b (n) hq) hq rfl hl rfl (Nat.le_of_ble_eq_true rfl) ⟨Nat.le_of_ble_eq_true rfl, Nat.le_of_ble_eq_true rfl⟩ ⟨Nat.le_of_ble_eq_true rfl, Nat.le_of_ble_eq_true rfl⟩ ?_
  rintro _ _ H locs ⟨rfl, rfl⟩ hM
  refine b_if_eq (tgt := 37) X dJ5_append_c97b9_21 (by decide) (a := ((1 : Nat) : Int)) (nI_ti (by omega)) (fun c1 => ?_) (fun c1 => ?_)
  · skip
    exact absurd c1 (by first | decide | omega)
  · skip
    refine lv_iload_n X.1 X.2.1 dJ5_append_c97b9_24 rfl (lv_at hl 3 rfl) ?_
    refine lv_iload_n X.1 X.2.1 dJ5_append_c97b9_25 rfl (lv_at hl 0 rfl) ?_
    refine lv_aload_n X.1 X.2.1 dJ5_append_c97b9_26 rfl (lv_at hl 2 rfl) ?_
    refine mg_get X hM (ci := 0) (k := 0) rfl kwJ4 (by decide) kf_J5_15 dJ5_append_c97b9_27 hq (v := .ref b) rfl ?_
    refine jm_callS X hM hS hZ ck_J5_248 kst_J6_getChars_ba4f3 dJ5_append_c97b9_30 (As := [.int (nI (v)), .int (nI (n + ((dgs v).length))), .ref b]) (c_J6_getChars_ba4f3 l G _ b f v (n + ((dgs v).length)) hb (by omega) (by omega) (by omega)) rfl hl rfl (Nat.le_of_ble_eq_true rfl) ⟨Nat.le_of_ble_eq_true rfl, Nat.le_of_ble_eq_true rfl⟩ ⟨Nat.le_of_ble_eq_true rfl, Nat.le_of_ble_eq_true rfl⟩ ?_
    rintro _ _ H locs ⟨⟨z9, rfl⟩, rfl⟩ hM
    refine lv_pop X.1 X.2.1 dJ5_append_c97b9_33 rfl ?_
    refine lv_goto (tgt := 48) X.1 X.2.1 dJ5_append_c97b9_34 (by decide) ?_
    refine lv_aload_n X.1 X.2.1 dJ5_append_c97b9_48 rfl (lv_at hl 2 rfl) ?_
    refine lv_iload_n X.1 X.2.1 dJ5_append_c97b9_49 rfl (lv_at hl 0 rfl) ?_
    refine mg_put X hM tyJ4 tyJ4_ok nmJ4 (ci := 0) (k := 3) rfl kwJ4 (by decide) kf_J5_79 rfl dJ5_append_c97b9_50 (mU_at hqb hq) rfl rfl (Nat.le_of_ble_eq_true rfl) (fun H locs hM => ?_)
    have hM : mW G A s.heap (mU (mU M b (.inl (G.2 2, 16, .inl (gcF f (n + ((dgs v).length)) v)))) q (.inr (0, [.ref b, .int (nI (0)), .int (0), .int (nI (n + ((dgs v).length)))]))) H locs := hM
    refine lv_aload_n X.1 X.2.1 dJ5_append_c97b9_53 rfl (lv_at hl 2 rfl) ?_
    exact m_aret (r := some (q)) X hr hlocks hM dJ5_append_c97b9_54 ⟨Nat.le_of_ble_eq_true rfl, Nat.le_of_ble_eq_true rfl⟩ (⟨rfl, rfl⟩)
theorem c_J4_append_bf812 (l : Launch) (G : mG) (M : Mem) (q : Nat) (b : Nat) (n : Nat) (f : Nat → Int32) (v : Nat) (hq : M q = some (.inr (0, [.ref b, .int (nI 0), .int 0, .int (nI n)]))) (hb : M b = some (.inl (G.2 2, 16, .inl f))) (hv : v ≤ 99) (hn : n + (dgs v).length ≤ 16) : jMet l yJ4_append_bf812 cJ4_append_bf812 2 (some (FieldType.object "java/lang/StringBuilder")) ({ frames := 2, cells := 0, slots := 0, locals := 49 } : Room) G [.ref q, .int (nI (v))] M (fun r M' => r = some (.ref q) ∧ mU (mU M b (.inl (G.2 2, 16, .inl (gcF f (n + (dgs v).length) v)))) q (.inr (0, [.ref b, .int (nI 0), .int 0, .int (nI (n + (dgs v).length))])) = M') := by
  refine jMet.of (by decide) (Nat.le_of_ble_eq_true rfl) ?_
  intro p e s m args below meth c A ls X hr hlocks hname hM hl hS hZ
  have hl : lv_has ls 2 [(0, .ref q), (1, .int (nI (v)))] := hl
  refine lv_aload_n X.1 X.2.1 dJ4_append_bf812_0 rfl (lv_at hl 0 rfl) ?_
  refine lv_iload_n X.1 X.2.1 dJ4_append_bf812_1 rfl (lv_at hl 1 rfl) ?_
  refine jm_super X hM hS hZ ck_J4_53 ki_J5_append_c97b9 (by decide) ksm_app_i ksup_J4 (ci := 0) rfl hq dJ4_append_bf812_2 (b := q) (As := [.int (nI (v))]) (c_J5_append_c97b9 l G _ q b n f v hq hb hv hn) rfl hl rfl (Nat.le_of_ble_eq_true rfl) ⟨Nat.le_of_ble_eq_true rfl, Nat.le_of_ble_eq_true rfl⟩ ⟨Nat.le_of_ble_eq_true rfl, Nat.le_of_ble_eq_true rfl⟩ ?_
  rintro _ _ H locs ⟨rfl, rfl⟩ hM
  refine lv_pop X.1 X.2.1 dJ4_append_bf812_5 rfl ?_
  refine lv_aload_n X.1 X.2.1 dJ4_append_bf812_6 rfl (lv_at hl 0 rfl) ?_
  exact m_aret (r := some (q)) X hr hlocks hM dJ4_append_bf812_7 ⟨Nat.le_of_ble_eq_true rfl, Nat.le_of_ble_eq_true rfl⟩ (⟨rfl, rfl⟩)
theorem c_J4_append_cf468 (l : Launch) (G : mG) (M : Mem) (q : Nat) (b : Nat) (n : Nat) (f : Nat → Int32) (k : Nat) (hq : M q = some (.inr (0, [.ref b, .int (nI 0), .int 0, .int (nI n)]))) (hb : M b = some (.inl (G.2 2, 16, .inl f))) (hk : k < 128) (hn : n < 16) : jMet l yJ4_append_cf468 cJ4_append_cf468 2 (some (FieldType.object "java/lang/StringBuilder")) ({ frames := 2, cells := 0, slots := 0, locals := 43 } : Room) G [.ref q, .int (nI (k))] M (fun r M' => r = some (.ref q) ∧ mU (mU M q (.inr (0, [.ref b, .int (nI 0), .int 0, .int (nI (n + 1))]))) b (.inl (G.2 2, 16, .inl (upd f (n) (nI (k))))) = M') := by
  refine jMet.of (by decide) (Nat.le_of_ble_eq_true rfl) ?_
  intro p e s m args below meth c A ls X hr hlocks hname hM hl hS hZ
  have hl : lv_has ls 2 [(0, .ref q), (1, .int (nI (k)))] := hl
  refine lv_aload_n X.1 X.2.1 dJ4_append_cf468_0 rfl (lv_at hl 0 rfl) ?_
  refine lv_iload_n X.1 X.2.1 dJ4_append_cf468_1 rfl (lv_at hl 1 rfl) ?_
  refine jm_super X hM hS hZ ck_J4_50 ki_J5_append_3fe6f (by decide) ksm_app_c ksup_J4 (ci := 0) rfl hq dJ4_append_cf468_2 (b := q) (As := [.int (nI (k))]) (c_J5_append_3fe6f l G _ q b n f k hq hb hk hn) rfl hl rfl (Nat.le_of_ble_eq_true rfl) ⟨Nat.le_of_ble_eq_true rfl, Nat.le_of_ble_eq_true rfl⟩ ⟨Nat.le_of_ble_eq_true rfl, Nat.le_of_ble_eq_true rfl⟩ ?_
  rintro _ _ H locs ⟨rfl, rfl⟩ hM
  refine lv_pop X.1 X.2.1 dJ4_append_cf468_5 rfl ?_
  refine lv_aload_n X.1 X.2.1 dJ4_append_cf468_6 rfl (lv_at hl 0 rfl) ?_
  exact m_aret (r := some (q)) X hr hlocks hM dJ4_append_cf468_7 ⟨Nat.le_of_ble_eq_true rfl, Nat.le_of_ble_eq_true rfl⟩ (⟨rfl, rfl⟩)
theorem c_J4_length_8abf5 (l : Launch) (G : mG) (M : Mem) (q : Nat) (b : Nat) (n : Nat) (hq : M q = some (.inr (0, [.ref b, .int (nI 0), .int 0, .int (nI n)]))) : jMet l yJ4_length_8abf5 cJ4_length_8abf5 1 (some FieldType.int) ({ frames := 1, cells := 0, slots := 0, locals := 20 } : Room) G [.ref q] M (fun r M' => r = some (.int (nI n)) ∧ M = M') := by
  refine jMet.of (by decide) (Nat.le_of_ble_eq_true rfl) ?_
  intro p e s m args below meth c A ls X hr hlocks hname hM hl hS hZ
  have hl : lv_has ls 1 [(0, .ref q)] := hl
  refine lv_aload_n X.1 X.2.1 dJ4_length_8abf5_0 rfl (lv_at hl 0 rfl) ?_
  refine jm_super X hM hS hZ ck_J4_343 ki_J5_length_8abf5 (by decide) ksm_length ksup_J4 (ci := 0) rfl hq dJ4_length_8abf5_1 (b := q) (As := []) (c_J5_length_8abf5 l G _ q b n hq) rfl hl rfl (Nat.le_of_ble_eq_true rfl) ⟨Nat.le_of_ble_eq_true rfl, Nat.le_of_ble_eq_true rfl⟩ ⟨Nat.le_of_ble_eq_true rfl, Nat.le_of_ble_eq_true rfl⟩ ?_
  rintro _ _ H locs ⟨rfl, rfl⟩ hM
  exact m_iret X hr hlocks hM dJ4_length_8abf5_4 ⟨Nat.le_of_ble_eq_true rfl, Nat.le_of_ble_eq_true rfl⟩ (⟨rfl, rfl⟩)
