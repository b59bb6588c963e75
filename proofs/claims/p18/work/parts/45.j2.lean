/-- what Integer.getChars writes -/
def gcF (f : Nat → Int32) (k v : Nat) : Nat → Int32 := if 9 < v then upd (upd f (k - 1) (nI (48 + v % 10))) (k - 1 - 1) (nI (48 + v / 10)) else upd f (k - 1) (nI (48 + v % 10))
theorem c_J5_append_3fe6f (l : Launch) (G : mG) (M : Mem) (q : Nat) (b : Nat) (n : Nat) (f : Nat → Int32) (k : Nat) (hq : M q = some (.inr (0, [.ref b, .int (nI 0), .int 0, .int (nI n)]))) (hb : M b = some (.inl (G.2 2, 16, .inl f))) (hk : k < 128) (hn : n < 16) : jMet l yJ5_append_3fe6f cJ5_append_3fe6f 2 (some (FieldType.object "java/lang/AbstractStringBuilder")) ({ frames := 1, cells := 0, slots := 0, locals := 22 } : Room) G [.ref q, .int (nI (k))] M (fun r M' => r = some (.ref q) ∧ mU (mU M q (.inr (0, [.ref b, .int (nI 0), .int 0, .int (nI (n + 1))]))) b (.inl (G.2 2, 16, .inl (upd f (n) (nI (k))))) = M') := by
  refine jMet.of (by decide) (Nat.le_of_ble_eq_true rfl) ?_
  intro p e s m args below meth c A ls X hr hlocks hname hM hl hS hZ
  have hl : lv_has ls 2 [(0, .ref q), (1, .int (nI (k)))] := hl
  have hbq : b ≠ q := mem_ne hq hb (fun z => by cases z)
  refine lv_aload_n X.1 X.2.1 dJ5_append_3fe6f_0 rfl (lv_at hl 0 rfl) ?_
  refine lv_aload_n X.1 X.2.1 dJ5_append_3fe6f_1 rfl (lv_at hl 0 rfl) ?_
  refine mg_get X hM (ci := 0) (k := 3) rfl kwJ4 (by decide) kf_J5_79 dJ5_append_3fe6f_2 hq (v := .int (nI (n))) rfl ?_
  refine lv_iconst (v := nI (1)) X.1 X.2.1 dJ5_append_3fe6f_5 (by decide) ?_
  refine lv_iadd X.1 X.2.1 dJ5_append_3fe6f_6 ?_
  refine lv_top (y := nI (n + 1)) (nI_add _ _) ?_
  refine m_callVp X hM ck_J5_100 ki_J5_ensureCapacityInternal_d00df (KT.one (State.WarmedH.refl s) (by decide +kernel) hS.2) (ci := 0) rfl dJ5_append_3fe6f_7 (As := [.int (nI (n + 1))]) (c_J5_ensureCapacityInternal_d00df l G _ q b (n) f (n + 1) hq hb (by omega)) hq rfl hl rfl (Nat.le_of_ble_eq_true rfl) ⟨Nat.le_of_ble_eq_true rfl, Nat.le_of_ble_eq_true rfl⟩ ⟨Nat.le_of_ble_eq_true rfl, Nat.le_of_ble_eq_true rfl⟩ ?_
  rintro _ _ H locs ⟨rfl, rfl⟩ hM
  refine lv_aload_n X.1 X.2.1 dJ5_append_3fe6f_10 rfl (lv_at hl 0 rfl) ?_
  refine jm_callV X hM hS hZ ck_J5_83 ki_J5_isLatin1_aae02 ks_J5_isLatin1_aae02_J4 (ci := 0) rfl dJ5_append_3fe6f_11 (As := []) (c_J5_isLatin1_aae02 l G _ q b (n) hq) hq rfl hl rfl (Nat.le_of_ble_eq_true rfl) ⟨Nat.le_of_ble_eq_true rfl, Nat.le_of_ble_eq_true rfl⟩ ⟨Nat.le_of_ble_eq_true rfl, Nat.le_of_ble_eq_true rfl⟩ ?_
  rintro _ _ H locs ⟨rfl, rfl⟩ hM
  refine b_if_eq (tgt := 45) X dJ5_append_3fe6f_14 (by decide) (a := ((1 : Nat) : Int)) (nI_ti (by omega)) (fun c1 => ?_) (fun c1 => ?_)
  · skip
    exact absurd c1 (by first | decide | omega)
  · skip
    refine lv_iload_n X.1 X.2.1 dJ5_append_3fe6f_17 rfl (lv_at hl 1 rfl) ?_
    refine m_callS X hM ck_J5_191 kst_J1_canEncode_fc78d dJ5_append_3fe6f_18 (As := [.int (nI (k))]) (c_J1_canEncode_fc78d l G _ (k) (by omega)) rfl hl rfl (Nat.le_of_ble_eq_true rfl) ⟨Nat.le_of_ble_eq_true rfl, Nat.le_of_ble_eq_true rfl⟩ ⟨Nat.le_of_ble_eq_true rfl, Nat.le_of_ble_eq_true rfl⟩ ?_
    rintro _ _ H locs ⟨rfl, rfl⟩ hM
    refine b_if_eq (tgt := 45) X dJ5_append_3fe6f_21 (by decide) (a := ((1 : Nat) : Int)) (nI_ti (by omega)) (fun c2 => ?_) (fun c2 => ?_)
    · skip
      exact absurd c2 (by first | decide | omega)
    · skip
      refine lv_aload_n X.1 X.2.1 dJ5_append_3fe6f_24 rfl (lv_at hl 0 rfl) ?_
      refine mg_get X hM (ci := 0) (k := 0) rfl kwJ4 (by decide) kf_J5_15 dJ5_append_3fe6f_25 hq (v := .ref b) rfl ?_
      refine lv_aload_n X.1 X.2.1 dJ5_append_3fe6f_28 rfl (lv_at hl 0 rfl) ?_
      refine lv_dup X.1 X.2.1 dJ5_append_3fe6f_29 rfl ?_
      refine mg_get X hM (ci := 0) (k := 3) rfl kwJ4 (by decide) kf_J5_79 dJ5_append_3fe6f_30 hq (v := .int (nI (n))) rfl ?_
      refine lv_dup_x1 X.1 X.2.1 dJ5_append_3fe6f_33 rfl rfl ?_
      refine lv_iconst (v := nI (1)) X.1 X.2.1 dJ5_append_3fe6f_34 (by decide) ?_
      refine lv_iadd X.1 X.2.1 dJ5_append_3fe6f_35 ?_
      refine lv_top (y := nI (n + 1)) (nI_add _ _) ?_
      refine mg_put X hM tyJ4 tyJ4_ok nmJ4 (ci := 0) (k := 3) rfl kwJ4 (by decide) kf_J5_79 rfl dJ5_append_3fe6f_36 hq rfl rfl (Nat.le_of_ble_eq_true rfl) (fun H locs hM => ?_)
      have hM : mW G A s.heap (mU M q (.inr (0, [.ref b, .int (nI (0)), .int (0), .int (nI (n + 1))]))) H locs := hM
      refine lv_iload_n X.1 X.2.1 dJ5_append_3fe6f_39 rfl (lv_at hl 1 rfl) ?_
      refine lv_i2b (v := nI (k)) X.1 X.2.1 dJ5_append_3fe6f_40 (i2b_nI (by omega)) ?_
      refine mx_bast X hM (n := 16) (v := k) (by omega) dJ5_append_3fe6f_41 (mU_at hbq hb) (i := n) (rfl) (by omega) (by decide) (fun H locs hM => ?_)
      have hM : mW G A s.heap (mU (mU M q (.inr (0, [.ref b, .int (nI (0)), .int (0), .int (nI (n + 1))]))) b (.inl (G.2 2, 16, .inl (upd f (n) (nI (k)))))) H locs := hM
      refine lv_goto (tgt := 75) X.1 X.2.1 dJ5_append_3fe6f_42 (by decide) ?_
      refine lv_aload_n X.1 X.2.1 dJ5_append_3fe6f_75 rfl (lv_at hl 0 rfl) ?_
      exact m_aret (r := some (q)) X hr hlocks hM dJ5_append_3fe6f_76 ⟨Nat.le_of_ble_eq_true rfl, Nat.le_of_ble_eq_true rfl⟩ (⟨rfl, rfl⟩)
theorem c_J6_stringSize_0f7a4 (l : Launch) (G : mG) (M : Mem) (v : Nat) (hv : v ≤ 99) : mMet l yJ6_stringSize_0f7a4 cJ6_stringSize_0f7a4 4 (some FieldType.int) ({ frames := 0, cells := 0, slots := 0, locals := 0 } : Room) G [.int (nI (v))] M (fun r M' => r = some (.int (nI (dgs v).length)) ∧ M = M') := by
  refine mMet.of (by decide) (Nat.le_of_ble_eq_true rfl) ?_
  intro p e s m args below meth c A ls X hr hlocks hname hM hl
  have hl : lv_has ls 4 [(0, .int (nI (v)))] := hl
  refine lv_iconst (v := nI (1)) X.1 X.2.1 dJ6_stringSize_0f7a4_0 (by decide) ?_
  refine lv_istore_n (lv' := [(1, .int (nI (1))), (0, .int (nI (v)))]) X.1 X.2.1 dJ6_stringSize_0f7a4_1 rfl hl (by decide) rfl (fun ls hl => ?_)
  refine lv_iload_n X.1 X.2.1 dJ6_stringSize_0f7a4_2 rfl (lv_at hl 1 rfl) ?_
  refine b_if_lt (tgt := 11) X dJ6_stringSize_0f7a4_3 (by decide) (a := ((v : Nat) : Int)) (nI_ti (by omega)) (fun c1 => ?_) (fun c1 => ?_)
  · skip
    exact absurd c1 (by omega)
  · skip
    refine lv_iconst (v := nI (0)) X.1 X.2.1 dJ6_stringSize_0f7a4_6 (by decide) ?_
    refine lv_istore_n (lv' := [(1, .int (nI (0))), (0, .int (nI (v)))]) X.1 X.2.1 dJ6_stringSize_0f7a4_7 rfl hl (by decide) rfl (fun ls hl => ?_)
    refine lv_iload_n X.1 X.2.1 dJ6_stringSize_0f7a4_8 rfl (lv_at hl 1 rfl) ?_
    refine lv_ineg X.1 X.2.1 dJ6_stringSize_0f7a4_9 ?_
    refine lv_istore_n (lv' := [(0, .int (-(nI (v)))), (1, .int (nI (0)))]) X.1 X.2.1 dJ6_stringSize_0f7a4_10 rfl hl (by decide) rfl (fun ls hl => ?_)
    refine lv_bipush (v := -10) X.1 X.2.1 dJ6_stringSize_0f7a4_11 (by decide) ?_
    refine lv_istore_n (lv' := [(2, .int (-10)), (0, .int (-(nI (v)))), (1, .int (nI (0)))]) X.1 X.2.1 dJ6_stringSize_0f7a4_13 rfl hl (by decide) rfl (fun ls hl => ?_)
    refine lv_iconst (v := nI (1)) X.1 X.2.1 dJ6_stringSize_0f7a4_14 (by decide) ?_
    refine lv_istore_n (lv' := [(3, .int (nI (1))), (2, .int (-10)), (0, .int (-(nI (v)))), (1, .int (nI (0)))]) X.1 X.2.1 dJ6_stringSize_0f7a4_15 rfl hl (by decide) rfl (fun ls hl => ?_)
    refine lv_iload_n X.1 X.2.1 dJ6_stringSize_0f7a4_16 rfl (lv_at hl 0 rfl) ?_
    refine lv_bipush (v := nI (10)) X.1 X.2.1 dJ6_stringSize_0f7a4_17 (by decide) ?_
    refine b_icmp_ge (tgt := 42) X dJ6_stringSize_0f7a4_19 (by decide) (a := ((1 : Nat) : Int)) (b := ((10 : Nat) : Int)) (nI_ti (by omega)) (nI_ti (by omega)) (fun c2 => ?_) (fun c2 => ?_)
    · skip
      exact absurd c2 (by first | decide | omega)
    · skip
      refine lv_iload_n X.1 X.2.1 dJ6_stringSize_0f7a4_22 rfl (lv_at hl 2 rfl) ?_
      refine lv_iload_n X.1 X.2.1 dJ6_stringSize_0f7a4_23 rfl (lv_at hl 1 rfl) ?_
      refine b_icmp_le (tgt := 31) X dJ6_stringSize_0f7a4_24 (by decide) (a := -((v : Nat) : Int)) (b := -10) (neg_ti (by omega)) (rfl) (fun c3 => ?_) (fun c3 => ?_)
      · skip
        refine lv_bipush (v := nI (10)) X.1 X.2.1 dJ6_stringSize_0f7a4_31 (by decide) ?_
        refine lv_iload_n X.1 X.2.1 dJ6_stringSize_0f7a4_33 rfl (lv_at hl 1 rfl) ?_
        refine lv_imul X.1 X.2.1 dJ6_stringSize_0f7a4_34 ?_
        refine lv_top (y := -100) (by decide) ?_
        refine lv_istore_n (lv' := [(2, .int (-100)), (3, .int (nI (1))), (0, .int (-(nI (v)))), (1, .int (nI (0)))]) X.1 X.2.1 dJ6_stringSize_0f7a4_35 rfl hl (by decide) rfl (fun ls hl => ?_)
        refine lv_iinc (v := nI (2)) (lv' := [(3, .int (nI (2))), (2, .int (-100)), (0, .int (-(nI (v)))), (1, .int (nI (0)))]) X.1 X.2.1 dJ6_stringSize_0f7a4_36 hl (k := 1) rfl (nI_add (1) 1) (by decide) rfl (fun ls hl => ?_)
        refine lv_goto (tgt := 16) X.1 X.2.1 dJ6_stringSize_0f7a4_39 (by decide) ?_
        refine lv_iload_n X.1 X.2.1 dJ6_stringSize_0f7a4_16 rfl (lv_at hl 0 rfl) ?_
        refine lv_bipush (v := nI (10)) X.1 X.2.1 dJ6_stringSize_0f7a4_17 (by decide) ?_
        refine b_icmp_ge (tgt := 42) X dJ6_stringSize_0f7a4_19 (by decide) (a := ((2 : Nat) : Int)) (b := ((10 : Nat) : Int)) (nI_ti (by omega)) (nI_ti (by omega)) (fun c4 => ?_) (fun c4 => ?_)
        · skip
          exact absurd c4 (by first | decide | omega)
        · skip
          refine lv_iload_n X.1 X.2.1 dJ6_stringSize_0f7a4_22 rfl (lv_at hl 2 rfl) ?_
          refine lv_iload_n X.1 X.2.1 dJ6_stringSize_0f7a4_23 rfl (lv_at hl 1 rfl) ?_
          refine b_icmp_le (tgt := 31) X dJ6_stringSize_0f7a4_24 (by decide) (a := -((v : Nat) : Int)) (b := -100) (neg_ti (by omega)) (rfl) (fun c5 => ?_) (fun c5 => ?_)
          · skip
            exact absurd c5 (by omega)
          · skip
            refine lv_iload_n X.1 X.2.1 dJ6_stringSize_0f7a4_27 rfl (lv_at hl 0 rfl) ?_
            refine lv_iload_n X.1 X.2.1 dJ6_stringSize_0f7a4_28 rfl (lv_at hl 3 rfl) ?_
            refine lv_iadd X.1 X.2.1 dJ6_stringSize_0f7a4_29 ?_
            refine lv_top (y := nI (2 + 0)) (nI_add _ _) ?_
            exact m_iret X hr hlocks hM dJ6_stringSize_0f7a4_30 ⟨Nat.le_of_ble_eq_true rfl, Nat.le_of_ble_eq_true rfl⟩ (⟨congrArg (fun z => some (Value.int (nI z))) (by unfold dgs; first | (rw [if_neg (by omega)]; rfl) | (rw [if_pos (by omega)]; rfl)), rfl⟩)
      · skip
        refine lv_iload_n X.1 X.2.1 dJ6_stringSize_0f7a4_27 rfl (lv_at hl 0 rfl) ?_
        refine lv_iload_n X.1 X.2.1 dJ6_stringSize_0f7a4_28 rfl (lv_at hl 3 rfl) ?_
        refine lv_iadd X.1 X.2.1 dJ6_stringSize_0f7a4_29 ?_
        refine lv_top (y := nI (1 + 0)) (nI_add _ _) ?_
        exact m_iret X hr hlocks hM dJ6_stringSize_0f7a4_30 ⟨Nat.le_of_ble_eq_true rfl, Nat.le_of_ble_eq_true rfl⟩ (⟨congrArg (fun z => some (Value.int (nI z))) (by unfold dgs; first | (rw [if_neg (by omega)]; rfl) | (rw [if_pos (by omega)]; rfl)), rfl⟩)
theorem c_J6_getChars_ba4f3 (l : Launch) (G : mG) (M : Mem) (b : Nat) (f : Nat → Int32) (v : Nat) (k : Nat) (hb : M b = some (.inl (G.2 2, 16, .inl f))) (hv : v ≤ 99) (hk : 2 ≤ k ∨ (v ≤ 9 ∧ 1 ≤ k)) (hk2 : k ≤ 16) : jMet l yJ6_getChars_ba4f3 cJ6_getChars_ba4f3 7 (some FieldType.int) ({ frames := 0, cells := 0, slots := 0, locals := 0 } : Room) G [.int (nI (v)), .int (nI (k)), .ref b] M (fun r M' => (∃ z : Int32, r = some (.int z)) ∧ mU M b (.inl (G.2 2, 16, .inl (gcF f k v))) = M') := by
  refine jMet.of (by decide) (Nat.le_of_ble_eq_true rfl) ?_
  intro p e s m args below meth c A ls X hr hlocks hname hM hl hS hZ
  have hl : lv_has ls 7 [(0, .int (nI (v))), (1, .int (nI (k))), (2, .ref b)] := hl
  obtain ⟨fo, hfO, dO, hO1, hO2, hO3⟩ := hZ.2.2.2.1
  obtain ⟨ft, hfT, dT, hT1, hT2, hT3⟩ := hZ.2.2.2.2.1
  refine lv_iload_n X.1 X.2.1 dJ6_getChars_ba4f3_0 rfl (lv_at hl 1 rfl) ?_
  refine lv_istore (lv' := [(5, .int (nI (k))), (0, .int (nI (v))), (1, .int (nI (k))), (2, .ref b)]) X.1 X.2.1 dJ6_getChars_ba4f3_1 hl (by decide) rfl (fun ls hl => ?_)
  refine lv_iload_n X.1 X.2.1 dJ6_getChars_ba4f3_3 rfl (lv_at hl 1 rfl) ?_
  refine b_if_ge (tgt := 11) X dJ6_getChars_ba4f3_4 (by decide) (a := ((v : Nat) : Int)) (nI_ti (by omega)) (fun c1 => ?_) (fun c1 => ?_)
  · skip
    refine lv_iconst (v := nI (0)) X.1 X.2.1 dJ6_getChars_ba4f3_11 (by decide) ?_
    refine lv_istore (lv' := [(6, .int (nI (0))), (5, .int (nI (k))), (0, .int (nI (v))), (1, .int (nI (k))), (2, .ref b)]) X.1 X.2.1 dJ6_getChars_ba4f3_12 hl (by decide) rfl (fun ls hl => ?_)
    refine lv_iload X.1 X.2.1 dJ6_getChars_ba4f3_14 (lv_at hl 0 rfl) ?_
    refine b_if_ne (tgt := 22) X dJ6_getChars_ba4f3_16 (by decide) (a := ((0 : Nat) : Int)) (nI_ti (by omega)) (fun c2 => ?_) (fun c2 => ?_)
    · skip
      exact absurd c2 (by first | decide | omega)
    · skip
      refine lv_iload_n X.1 X.2.1 dJ6_getChars_ba4f3_19 rfl (lv_at hl 2 rfl) ?_
      refine lv_ineg X.1 X.2.1 dJ6_getChars_ba4f3_20 ?_
      refine lv_istore_n (lv' := [(0, .int (-(nI (v)))), (6, .int (nI (0))), (5, .int (nI (k))), (1, .int (nI (k))), (2, .ref b)]) X.1 X.2.1 dJ6_getChars_ba4f3_21 rfl hl (by decide) rfl (fun ls hl => ?_)
      refine lv_iload_n X.1 X.2.1 dJ6_getChars_ba4f3_22 rfl (lv_at hl 0 rfl) ?_
      refine lv_bipush (v := -100) X.1 X.2.1 dJ6_getChars_ba4f3_23 (by decide) ?_
      refine b_icmp_gt (tgt := 72) X dJ6_getChars_ba4f3_25 (by decide) (a := -((v : Nat) : Int)) (b := -100) (neg_ti (by omega)) (rfl) (fun c3 => ?_) (fun c3 => ?_)
      · skip
        refine lv_aload_n X.1 X.2.1 dJ6_getChars_ba4f3_72 rfl (lv_at hl 4 rfl) ?_
        refine lv_iinc (v := nI (k) - 1) (lv' := [(5, .int (nI (k) - 1)), (0, .int (-(nI (v)))), (6, .int (nI (0))), (1, .int (nI (k))), (2, .ref b)]) X.1 X.2.1 dJ6_getChars_ba4f3_73 hl (k := 2) rfl (dec_sh _) (by decide) rfl (fun ls hl => ?_)
        refine lv_iload X.1 X.2.1 dJ6_getChars_ba4f3_76 (lv_at hl 0 rfl) ?_
        refine mj_gets X hM hO1 kfs_J6_83 dJ6_getChars_ba4f3_78 ?_
        refine lv_iload_n X.1 X.2.1 dJ6_getChars_ba4f3_81 rfl (lv_at hl 1 rfl) ?_
        refine lv_ineg X.1 X.2.1 dJ6_getChars_ba4f3_82 ?_
        refine lv_top (y := nI (v)) (neg_neg_nI _) ?_
        refine mj_bald X hM hO2 hO3 (i := v) (by omega) dJ6_getChars_ba4f3_83 ?_
        refine lv_top (y := nI (48 + v % 10)) (hfO v (by omega)) ?_
        refine mx_bast X hM (n := 16) (v := 48 + v % 10) (by omega) dJ6_getChars_ba4f3_84 hb (i := k - 1) (eI_pos (by omega)) (by omega) (by decide) (fun H locs hM => ?_)
        have hM : mW G A s.heap (mU M b (.inl (G.2 2, 16, .inl (upd f (k - 1) (nI (48 + v % 10)))))) H locs := hM
        refine lv_iload_n X.1 X.2.1 dJ6_getChars_ba4f3_85 rfl (lv_at hl 1 rfl) ?_
        refine lv_bipush (v := -9) X.1 X.2.1 dJ6_getChars_ba4f3_86 (by decide) ?_
        refine b_icmp_ge (tgt := 104) X dJ6_getChars_ba4f3_88 (by decide) (a := -((v : Nat) : Int)) (b := -9) (neg_ti (by omega)) (rfl) (fun c4 => ?_) (fun c4 => ?_)
        · skip
          refine lv_iload X.1 X.2.1 dJ6_getChars_ba4f3_104 (lv_at hl 2 rfl) ?_
          refine b_if_eq (tgt := 118) X dJ6_getChars_ba4f3_106 (by decide) (a := ((0 : Nat) : Int)) (nI_ti (by omega)) (fun c5 => ?_) (fun c5 => ?_)
          · skip
            refine lv_iload X.1 X.2.1 dJ6_getChars_ba4f3_118 (lv_at hl 0 rfl) ?_
            exact m_iret X hr hlocks hM dJ6_getChars_ba4f3_120 ⟨Nat.le_of_ble_eq_true rfl, Nat.le_of_ble_eq_true rfl⟩ (⟨⟨_, rfl⟩, by unfold gcF; first | (rw [if_neg (by omega)]; done) | (rw [if_pos (by omega)]; done)⟩)
          · skip
            exact absurd c5 (by first | decide | omega)
        · skip
          refine lv_aload_n X.1 X.2.1 dJ6_getChars_ba4f3_91 rfl (lv_at hl 4 rfl) ?_
          refine lv_iinc (v := nI (k - 1) - 1) (lv' := [(5, .int (nI (k - 1) - 1)), (0, .int (-(nI (v)))), (6, .int (nI (0))), (1, .int (nI (k))), (2, .ref b)]) X.1 X.2.1 dJ6_getChars_ba4f3_92 hl (k := 0) rfl (by rw [eI_pos (show 0 < k by omega)]; exact dec_sh _) (by decide) rfl (fun ls hl => ?_)
          refine lv_iload X.1 X.2.1 dJ6_getChars_ba4f3_95 (lv_at hl 0 rfl) ?_
          refine mj_gets X hM hT1 kfs_J6_87 dJ6_getChars_ba4f3_97 ?_
          refine lv_iload_n X.1 X.2.1 dJ6_getChars_ba4f3_100 rfl (lv_at hl 1 rfl) ?_
          refine lv_ineg X.1 X.2.1 dJ6_getChars_ba4f3_101 ?_
          refine lv_top (y := nI (v)) (neg_neg_nI _) ?_
          refine mj_bald X hM hT2 hT3 (i := v) (by omega) dJ6_getChars_ba4f3_102 ?_
          refine lv_top (y := nI (48 + v / 10)) (hfT v (by omega)) ?_
          refine mx_bast X hM (n := 16) (v := 48 + v / 10) (by omega) dJ6_getChars_ba4f3_103 (mU_eq _ _ _) (i := k - 1 - 1) (eI_pos (by omega)) (by omega) (by decide) (fun H locs hM => ?_)
          have hM : mW G A s.heap (mU M b (.inl (G.2 2, 16, .inl (upd (upd f (k - 1) (nI (48 + v % 10))) (k - 1 - 1) (nI (48 + v / 10)))))) H locs := by rw [mU_mU] at hM; exact hM
          refine lv_iload X.1 X.2.1 dJ6_getChars_ba4f3_104 (lv_at hl 2 rfl) ?_
          refine b_if_eq (tgt := 118) X dJ6_getChars_ba4f3_106 (by decide) (a := ((0 : Nat) : Int)) (nI_ti (by omega)) (fun c6 => ?_) (fun c6 => ?_)
          · skip
            refine lv_iload X.1 X.2.1 dJ6_getChars_ba4f3_118 (lv_at hl 0 rfl) ?_
            exact m_iret X hr hlocks hM dJ6_getChars_ba4f3_120 ⟨Nat.le_of_ble_eq_true rfl, Nat.le_of_ble_eq_true rfl⟩ (⟨⟨_, rfl⟩, by unfold gcF; first | (rw [if_neg (by omega)]; done) | (rw [if_pos (by omega)]; done)⟩)
          · skip
            exact absurd c6 (by first | decide | omega)
      · skip
        exact absurd c3 (by omega)
  · skip
    exact absurd c1 (by omega)
