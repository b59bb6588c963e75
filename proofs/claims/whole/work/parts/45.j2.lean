theorem c_J5_append_3fe6f (l : Launch) (G : mG) (M : Mem) (q : Nat) (b : Nat) (n : Nat) (f : Nat → Int32) (k : Nat) (hq : M q = some (.inr (0, [.ref b, .int (nI 0), .int 0, .int (nI n)]))) (hb : M b = some (.inl (G.2 2, 16, .inl f))) (hk : k < 128) (hn : n < 16) : jMet l yJ5_append_3fe6f cJ5_append_3fe6f 2 (some (FieldType.object "java/lang/AbstractStringBuilder")) ({ frames := 1, cells := 0, slots := 0, locals := 22 } : Room) G [.ref q, .int (nI (k))] M (fun r M' => r = some (.ref q) ∧ mU (mU M q (.inr (0, [.ref b, .int (nI 0), .int 0, .int (nI (n + 1))]))) b (.inl (G.2 2, 16, .inl (upd f (n) (nI (k))))) = M') := by
  refine jMet.of (by decide) (Nat.le_of_ble_eq_true rfl) ?_
  intro p e s m args below meth c A ls X hr hlocks hname hM hl hS hZ
  have hl : lv_has ls 2 [(0, .ref q), (1, .int (nI (k)))] := hl
  have hbq : b ≠ q := mem_ne hq hb (fun z => by cases z)
  refine lv_aload_n X.1 X.2.1 dJ5_append_3fe6f_0 rfl (lv_at hl 0 rfl) ?_
  refine lv_aload_n X.1 X.2.1 dJ5_append_3fe6f_1 rfl (lv_at hl 0 rfl) ?_
  refine mg_get X hM (ci := 0) (k := 3) rfl kwJ4 (by decide) kf_J5_79 dJ5_append_3fe6f_2 hq (v := .int (nI (n))) rfl ?_
  refine lv_iconst (v := nI (1)) X.1 X.2.1 dJ5_append_3fe6f_5 (by decide) ?_
  refine lv_iadd X.1 X.2.1 dJ5_append_3fe6f_6 ?_
  refine lv_top (y := nI (n + 1)) (nI_add _ _) ?_
  refine m_callVp X hM ck_J5_100 ki_J5_ensureCapacityInternal_d00df (KT.one (State.WarmedH.refl s) (by decide +kernel) hS.2) (ci := 0) rfl dJ5_append_3fe6f_7 (As := [.int (nI (n + 1))]) (c_J5_ensureCapacityInternal_d00df l G _ q b (n) f (n + 1) hq hb (by omega)) hq rfl hl rfl (Nat.le_of_ble_eq_true rfl) ⟨Nat.le_of_ble_eq_true rfl, Nat.le_of_ble_eq_true rfl⟩ ⟨Nat.le_of_ble_eq_true rfl, Nat.le_of_ble_eq_true rfl⟩ ?_
  rintro _ _ H locs ⟨rfl, rfl⟩ hM
  refine lv_aload_n X.1 X.2.1 dJ5_append_3fe6f_10 rfl (lv_at hl 0 rfl) ?_
  refine jm_callV X hM hS hZ ck_J5_83 ki_J5_isLatin1_aae02 ks_J5_isLatin1_aae02_J4 (ci := 0) rfl dJ5_append_3fe6f_11 (As := []) (c_J5_isLatin1_aae02 l G _ q b (n) hq) hq rfl hl rfl (Nat.le_of_ble_eq_true rfl) ⟨Nat.le_of_ble_eq_true rfl, Nat.le_of_ble_eq_true rfl⟩ ⟨Nat.le_of_ble_eq_true rfl, Nat.le_of_ble_eq_true rfl⟩ ?_
  rintro _ _ H locs ⟨rfl, rfl⟩ hM
  refine b_if_eq (tgt := 45) X dJ5_append_3fe6f_14 (by decide) (a := ((1 : Nat) : Int)) (nI_ti (by omega)) (fun c1 => ?_) (fun c1 => ?_)
  · skip
    exact absurd c1 (by first | decide | omega)
  · skip
    refine lv_iload_n X.1 X.2.1 dJ5_append_3fe6f_17 rfl (lv_at hl 1 rfl) ?_
    refine m_callS X hM ck_J5_191 kst_J1_canEncode_fc78d dJ5_append_3fe6f_18 (As := [.int (nI (k))]) (c_J1_canEncode_fc78d l G _ (k) (by omega)) rfl hl rfl (Nat.le_of_ble_eq_true rfl) ⟨Nat.le_of_ble_eq_true rfl, Nat.le_of_ble_eq_true rfl⟩ ⟨Nat.le_of_ble_eq_true rfl, Nat.le_of_ble_eq_true rfl⟩ ?_
    rintro _ _ H locs ⟨rfl, rfl⟩ hM
    refine b_if_eq (tgt := 45) X dJ5_append_3fe6f_21 (by decide) (a := ((1 : Nat) : Int)) (nI_ti (by omega)) (fun c2 => ?_) (fun c2 => ?_)
    · skip
      exact absurd c2 (by first | decide | omega)
    · skip
      refine lv_aload_n X.1 X.2.1 dJ5_append_3fe6f_24 rfl (lv_at hl 0 rfl) ?_
      refine mg_get X hM (ci := 0) (k := 0) rfl kwJ4 (by decide) kf_J5_15 dJ5_append_3fe6f_25 hq (v := .ref b) rfl ?_
      refine lv_aload_n X.1 X.2.1 dJ5_append_3fe6f_28 rfl (lv_at hl 0 rfl) ?_
      refine lv_dup X.1 X.2.1 dJ5_append_3fe6f_29 rfl ?_
      refine mg_get X hM (ci := 0) (k := 3) rfl kwJ4 (by decide) kf_J5_79 dJ5_append_3fe6f_30 hq (v := .int (nI (n))) rfl ?_
      refine lv_dup_x1 X.1 X.2.1 dJ5_append_3fe6f_33 rfl rfl ?_
      refine lv_iconst (v := nI (1)) X.1 X.2.1 dJ5_append_3fe6f_34 (by decide) ?_
      refine lv_iadd X.1 X.2.1 dJ5_append_3fe6f_35 ?_
      refine lv_top (y := nI (n + 1)) (nI_add _ _) ?_
      refine mg_put X hM tyJ4 tyJ4_ok nmJ4 (ci := 0) (k := 3) rfl kwJ4 (by decide) kf_J5_79 rfl dJ5_append_3fe6f_36 hq rfl rfl (Nat.le_of_ble_eq_true rfl) (fun H locs hM => ?_)
      have hM : mW G A s.heap (mU M q (.inr (0, [.ref b, .int (nI (0)), .int (0), .int (nI (n + 1))]))) H locs := hM
      refine lv_iload_n X.1 X.2.1 dJ5_append_3fe6f_39 rfl (lv_at hl 1 rfl) ?_
      refine lv_i2b (v := nI (k)) X.1 X.2.1 dJ5_append_3fe6f_40 (i2b_nI (by omega)) ?_
      refine mx_bast X hM (n := 16) (v := k) (by omega) dJ5_append_3fe6f_41 (mU_at hbq hb) (i := n) (rfl) (by omega) (by decide) (fun H locs hM => ?_)
      have hM : mW G A s.heap (mU (mU M q (.inr (0, [.ref b, .int (nI (0)), .int (0), .int (nI (n + 1))]))) b (.inl (G.2 2, 16, .inl (upd f (n) (nI (k)))))) H locs := hM
      refine lv_goto (tgt := 75) X.1 X.2.1 dJ5_append_3fe6f_42 (by decide) ?_
      refine lv_aload_n X.1 X.2.1 dJ5_append_3fe6f_75 rfl (lv_at hl 0 rfl) ?_
      exact m_aret (r := some (q)) X hr hlocks hM dJ5_append_3fe6f_76 ⟨Nat.le_of_ble_eq_true rfl, Nat.le_of_ble_eq_true rfl⟩ (⟨rfl, rfl⟩)
