/-- a StringBuilder that holds a text -/
def SBp (G : mG) (q b : Nat) (L : List Nat) (M : Mem) : Prop := ∃ f : Nat → Int32, M q = some (.inr (0, [.ref b, .int (nI 0), .int 0, .int (nI L.length)])) ∧ M b = some (.inl (G.2 2, 16, .inl f)) ∧ ∀ j, j < L.length → f j = nI (L.getD j 0)
theorem getD_app (L K : List Nat) (j : Nat) : (L ++ K).getD j 0 = if j < L.length then L.getD j 0 else K.getD (j - L.length) 0 := by
  rw [List.getD_eq_getElem?_getD, List.getElem?_append]
  by_cases h : j < L.length
  · rw [if_pos h, if_pos h, List.getD_eq_getElem?_getD]
  · rw [if_neg h, if_neg h, List.getD_eq_getElem?_getD]
theorem SBp.chr {G : mG} {q b : Nat} {L : List Nat} {M : Mem} {f : Nat → Int32} (hbq : b ≠ q) (hf : ∀ j, j < L.length → f j = nI (L.getD j 0)) (c : Nat) : SBp G q b (L ++ [c]) (mU (mU M q (.inr (0, [.ref b, .int (nI 0), .int 0, .int (nI (L.length + 1))]))) b (.inl (G.2 2, 16, .inl (upd f L.length (nI c))))) := by
  have hl : (L ++ [c]).length = L.length + 1 := by rw [List.length_append]; rfl
  refine ⟨upd f L.length (nI c), by rw [mU_ne (fun z => hbq z.symm), mU_eq, hl], mU_eq _ _ _, fun j hj => ?_⟩
  rw [hl] at hj
  rw [getD_app]
  by_cases h : j < L.length
  · rw [if_pos h]
    have hne : j ≠ L.length := by omega
    simp only [upd, if_neg hne]
    exact hf j h
  · obtain rfl : j = L.length := by omega
    rw [if_neg h, Nat.sub_self]
    simp [upd]
theorem SBp.int {G : mG} {q b : Nat} {L : List Nat} {M : Mem} {f : Nat → Int32} (hbq : b ≠ q) (hf : ∀ j, j < L.length → f j = nI (L.getD j 0)) (v : Nat) : SBp G q b (L ++ dgs v) (mU (mU M b (.inl (G.2 2, 16, .inl (gcF f (L.length + (dgs v).length) v)))) q (.inr (0, [.ref b, .int (nI 0), .int 0, .int (nI (L.length + (dgs v).length))]))) := by
  refine ⟨gcF f (L.length + (dgs v).length) v, by rw [mU_eq, List.length_append], by rw [mU_ne hbq, mU_eq], fun j hj => ?_⟩
  rw [List.length_append] at hj
  rw [getD_app]
  by_cases hv : 9 < v
  · have hd : dgs v = [48 + v / 10, 48 + v % 10] := if_pos hv
    rw [hd] at hj ⊢
    have e2 : ([48 + v / 10, 48 + v % 10] : List Nat).length = 2 := rfl
    rw [e2] at hj ⊢
    unfold gcF
    rw [if_pos hv]
    by_cases h : j < L.length
    · rw [if_pos h]
      simp only [upd, if_neg (show ¬ j = L.length + 2 - 1 - 1 by omega), if_neg (show ¬ j = L.length + 2 - 1 by omega)]
      exact hf j h
    · rw [if_neg h]
      by_cases h2 : j = L.length
      · subst h2
        simp [upd]
      · obtain rfl : j = L.length + 1 := by omega
        simp [upd]
  · have hd : dgs v = [48 + v % 10] := if_neg hv
    rw [hd] at hj ⊢
    have e2 : ([48 + v % 10] : List Nat).length = 1 := rfl
    rw [e2] at hj ⊢
    unfold gcF
    rw [if_neg hv]
    by_cases h : j < L.length
    · rw [if_pos h]
      simp only [upd, if_neg (show ¬ j = L.length + 1 - 1 by omega)]
      exact hf j h
    · obtain rfl : j = L.length := by omega
      rw [if_neg h]
      simp [upd]
set_option maxHeartbeats 4000000 in
set_option maxRecDepth 100000 in
theorem c_X5_writeLabel (l : Launch) (G : mG) (ad : Nat → Nat → Nat) (N : Nat → Nat) (F : Nat → Nat → Nat) (B : Nat → Int32) (E P Q : Nat → Nat → Nat) (M : Mem) (R : RC G ad N F B E P Q M) (k : Nat) (q : Nat) (b : Nat) (hk : k < E 0 6) (hq9 : ∀ k i, liveC E k i → ad k i ≠ q) (hb9 : ∀ k i, liveC E k i → ad k i ≠ b) (hbq : b ≠ q) (hs : SBp G q b [] M) (hk9 : k ≤ 99) (h14 : F 14 k < E 0 3 ∧ F 14 k ≤ 99) (h15 : F 15 k ≤ 99) (h17 : F 17 k ≤ E 0 1 ∧ F 17 k ≤ 99) : jMet l yX5_writeLabel cX5_writeLabel 2 none ({ frames := 3, cells := 0, slots := 0, locals := 70 } : Room) G [.ref (ad 6 (k)), .ref q] M (fun r M' => r = none ∧ RC G ad N F B E P Q M' ∧ SBp G q b (labL F k) M') := by
  refine jMet.of (by decide) (Nat.le_of_ble_eq_true rfl) ?_
  intro p e s m args below meth c A ls X hr hlocks hname hM hl hS hZ
  have hl : lv_has ls 2 [(0, .ref (ad 6 (k))), (1, .ref q)] := hl
  have hn8 : ([] : List Nat).length ≤ 0 := Nat.le_refl 0
  refine lv_aload_n X.1 X.2.1 dX5_writeLabel_0 rfl (lv_at hl 1 rfl) ?_
  refine lv_aload_n X.1 X.2.1 dX5_writeLabel_1 rfl (lv_at hl 0 rfl) ?_
  refine mg_get X hM (ci := 6) (k := 0) rfl kwX5 (by decide) kf_X5_17 dX5_writeLabel_2 (R.1 6 (k) (show k < E 0 6 by omega)) (v := .int (nI (k))) rfl ?_
  obtain ⟨f9, hq8, hb8, hf8⟩ := hs
  have hd8 := dgs_len (k)
  refine jm_callV X hM hS hZ ck_X5_78 ki_J4_append_bf812 ks_J4_append_bf812 (ci := 0) rfl dX5_writeLabel_5 (As := [.int (nI (k))]) (c_J4_append_bf812 l G _ q b ((([] : List Nat)).length) f9 (k) hq8 hb8 (by omega) (by omega)) hq8 rfl hl rfl (Nat.le_of_ble_eq_true rfl) ⟨Nat.le_of_ble_eq_true rfl, Nat.le_of_ble_eq_true rfl⟩ ⟨Nat.le_of_ble_eq_true rfl, Nat.le_of_ble_eq_true rfl⟩ ?_
  rintro _ _ H locs ⟨rfl, rfl⟩ hM
  obtain ⟨M, hM, hs, R⟩ : ∃ M2, mW G A s.heap M2 H locs ∧ SBp G q b (([] : List Nat) ++ dgs (k)) M2 ∧ RC G ad N F B E P Q M2 := ⟨_, hM, SBp.int hbq hf8 _, (R.off hb9 _).off hq9 _⟩
  have hn8 : (([] : List Nat) ++ dgs (k)).length ≤ 2 := by rw [List.length_append]; omega
  refine lv_pop X.1 X.2.1 dX5_writeLabel_8 rfl ?_
  refine lv_aload_n X.1 X.2.1 dX5_writeLabel_9 rfl (lv_at hl 1 rfl) ?_
  refine lv_bipush (v := nI (58)) X.1 X.2.1 dX5_writeLabel_10 (by decide) ?_
  obtain ⟨f9, hq8, hb8, hf8⟩ := hs
  refine jm_callV X hM hS hZ ck_X5_84 ki_J4_append_cf468 ks_J4_append_cf468 (ci := 0) rfl dX5_writeLabel_12 (As := [.int (nI (58))]) (c_J4_append_cf468 l G _ q b (((([] : List Nat) ++ dgs (k))).length) f9 (58) hq8 hb8 (by omega) (by omega)) hq8 rfl hl rfl (Nat.le_of_ble_eq_true rfl) ⟨Nat.le_of_ble_eq_true rfl, Nat.le_of_ble_eq_true rfl⟩ ⟨Nat.le_of_ble_eq_true rfl, Nat.le_of_ble_eq_true rfl⟩ ?_
  rintro _ _ H locs ⟨rfl, rfl⟩ hM
  obtain ⟨M, hM, hs, R⟩ : ∃ M2, mW G A s.heap M2 H locs ∧ SBp G q b ((([] : List Nat) ++ dgs (k)) ++ [58]) M2 ∧ RC G ad N F B E P Q M2 := ⟨_, hM, SBp.chr hbq hf8 _, (R.off hq9 _).off hb9 _⟩
  have hn8 : ((([] : List Nat) ++ dgs (k)) ++ [58]).length ≤ 3 := by rw [List.length_append]; show _ + 1 ≤ _; omega
  refine lv_pop X.1 X.2.1 dX5_writeLabel_15 rfl ?_
  refine lv_aload_n X.1 X.2.1 dX5_writeLabel_16 rfl (lv_at hl 1 rfl) ?_
  refine lv_aload_n X.1 X.2.1 dX5_writeLabel_17 rfl (lv_at hl 0 rfl) ?_
  refine mg_get X hM (ci := 6) (k := 1) rfl kwX5 (by decide) kf_X5_21 dX5_writeLabel_18 (R.1 6 (k) (show k < E 0 6 by omega)) (v := .ref (ad 3 (F 14 (k)))) rfl ?_
  refine mg_getN X hM (ci := 5) (k := 0) rfl kwX4 (by decide) kn_X5_87 dX5_writeLabel_21 (R.1 3 (F 14 (k)) (show F 14 (k) < E 0 3 by omega)) (v := .int (nI (F 14 (k)))) rfl ?_
  obtain ⟨f9, hq8, hb8, hf8⟩ := hs
  have hd8 := dgs_len (F 14 (k))
  refine jm_callV X hM hS hZ ck_X5_78 ki_J4_append_bf812 ks_J4_append_bf812 (ci := 0) rfl dX5_writeLabel_24 (As := [.int (nI (F 14 (k)))]) (c_J4_append_bf812 l G _ q b ((((([] : List Nat) ++ dgs (k)) ++ [58])).length) f9 (F 14 (k)) hq8 hb8 (by omega) (by omega)) hq8 rfl hl rfl (Nat.le_of_ble_eq_true rfl) ⟨Nat.le_of_ble_eq_true rfl, Nat.le_of_ble_eq_true rfl⟩ ⟨Nat.le_of_ble_eq_true rfl, Nat.le_of_ble_eq_true rfl⟩ ?_
  rintro _ _ H locs ⟨rfl, rfl⟩ hM
  obtain ⟨M, hM, hs, R⟩ : ∃ M2, mW G A s.heap M2 H locs ∧ SBp G q b (((([] : List Nat) ++ dgs (k)) ++ [58]) ++ dgs (F 14 (k))) M2 ∧ RC G ad N F B E P Q M2 := ⟨_, hM, SBp.int hbq hf8 _, (R.off hb9 _).off hq9 _⟩
  have hn8 : (((([] : List Nat) ++ dgs (k)) ++ [58]) ++ dgs (F 14 (k))).length ≤ 5 := by rw [List.length_append]; omega
  refine lv_pop X.1 X.2.1 dX5_writeLabel_27 rfl ?_
  refine lv_aload_n X.1 X.2.1 dX5_writeLabel_28 rfl (lv_at hl 1 rfl) ?_
  refine lv_bipush (v := nI (47)) X.1 X.2.1 dX5_writeLabel_29 (by decide) ?_
  obtain ⟨f9, hq8, hb8, hf8⟩ := hs
  refine jm_callV X hM hS hZ ck_X5_84 ki_J4_append_cf468 ks_J4_append_cf468 (ci := 0) rfl dX5_writeLabel_31 (As := [.int (nI (47))]) (c_J4_append_cf468 l G _ q b (((((([] : List Nat) ++ dgs (k)) ++ [58]) ++ dgs (F 14 (k)))).length) f9 (47) hq8 hb8 (by omega) (by omega)) hq8 rfl hl rfl (Nat.le_of_ble_eq_true rfl) ⟨Nat.le_of_ble_eq_true rfl, Nat.le_of_ble_eq_true rfl⟩ ⟨Nat.le_of_ble_eq_true rfl, Nat.le_of_ble_eq_true rfl⟩ ?_
  rintro _ _ H locs ⟨rfl, rfl⟩ hM
  obtain ⟨M, hM, hs, R⟩ : ∃ M2, mW G A s.heap M2 H locs ∧ SBp G q b ((((([] : List Nat) ++ dgs (k)) ++ [58]) ++ dgs (F 14 (k))) ++ [47]) M2 ∧ RC G ad N F B E P Q M2 := ⟨_, hM, SBp.chr hbq hf8 _, (R.off hq9 _).off hb9 _⟩
  have hn8 : ((((([] : List Nat) ++ dgs (k)) ++ [58]) ++ dgs (F 14 (k))) ++ [47]).length ≤ 6 := by rw [List.length_append]; show _ + 1 ≤ _; omega
  refine lv_pop X.1 X.2.1 dX5_writeLabel_34 rfl ?_
  refine lv_aload_n X.1 X.2.1 dX5_writeLabel_35 rfl (lv_at hl 1 rfl) ?_
  refine lv_aload_n X.1 X.2.1 dX5_writeLabel_36 rfl (lv_at hl 0 rfl) ?_
  refine mg_get X hM (ci := 6) (k := 2) rfl kwX5 (by decide) kf_X5_25 dX5_writeLabel_37 (R.1 6 (k) (show k < E 0 6 by omega)) (v := .int (nI (F 15 (k)))) rfl ?_
  obtain ⟨f9, hq8, hb8, hf8⟩ := hs
  have hd8 := dgs_len (F 15 (k))
  refine jm_callV X hM hS hZ ck_X5_78 ki_J4_append_bf812 ks_J4_append_bf812 (ci := 0) rfl dX5_writeLabel_40 (As := [.int (nI (F 15 (k)))]) (c_J4_append_bf812 l G _ q b ((((((([] : List Nat) ++ dgs (k)) ++ [58]) ++ dgs (F 14 (k))) ++ [47])).length) f9 (F 15 (k)) hq8 hb8 (by omega) (by omega)) hq8 rfl hl rfl (Nat.le_of_ble_eq_true rfl) ⟨Nat.le_of_ble_eq_true rfl, Nat.le_of_ble_eq_true rfl⟩ ⟨Nat.le_of_ble_eq_true rfl, Nat.le_of_ble_eq_true rfl⟩ ?_
  rintro _ _ H locs ⟨rfl, rfl⟩ hM
  obtain ⟨M, hM, hs, R⟩ : ∃ M2, mW G A s.heap M2 H locs ∧ SBp G q b (((((([] : List Nat) ++ dgs (k)) ++ [58]) ++ dgs (F 14 (k))) ++ [47]) ++ dgs (F 15 (k))) M2 ∧ RC G ad N F B E P Q M2 := ⟨_, hM, SBp.int hbq hf8 _, (R.off hb9 _).off hq9 _⟩
  have hn8 : (((((([] : List Nat) ++ dgs (k)) ++ [58]) ++ dgs (F 14 (k))) ++ [47]) ++ dgs (F 15 (k))).length ≤ 8 := by rw [List.length_append]; omega
  refine lv_pop X.1 X.2.1 dX5_writeLabel_43 rfl ?_
  refine lv_aload_n X.1 X.2.1 dX5_writeLabel_44 rfl (lv_at hl 0 rfl) ?_
  refine mg_get X hM (ci := 6) (k := 7) rfl kwX5 (by decide) kf_X5_32 dX5_writeLabel_45 (R.1 6 (k) (show k < E 0 6 by omega)) (v := va_rf (opA ad (F 17 (k)))) rfl ?_
  by_cases cz1 : F 17 (k) = 0
  · skip
    refine lv_topv (y := .null) (by unfold opA; rw [if_pos cz1]; rfl) ?_
    refine lv_ifnullN (tgt := 70) X.1 X.2.1 dX5_writeLabel_48 (by decide) ?_
    exact m_vret X hr hlocks hM dX5_writeLabel_70 ⟨Nat.le_of_ble_eq_true rfl, Nat.le_of_ble_eq_true rfl⟩ (⟨rfl, R, by unfold labL; rw [if_pos (by assumption), List.append_nil]; exact hs⟩)
  · skip
    refine lv_topv (y := .ref (ad 1 (F 17 (k) - 1))) (by unfold opA; rw [if_neg cz1]; rfl) ?_
    refine lv_ifnull X.1 X.2.1 dX5_writeLabel_48 ?_
    refine lv_aload_n X.1 X.2.1 dX5_writeLabel_51 rfl (lv_at hl 1 rfl) ?_
    refine lv_bipush (v := nI (64)) X.1 X.2.1 dX5_writeLabel_52 (by decide) ?_
    obtain ⟨f9, hq8, hb8, hf8⟩ := hs
    refine jm_callV X hM hS hZ ck_X5_84 ki_J4_append_cf468 ks_J4_append_cf468 (ci := 0) rfl dX5_writeLabel_54 (As := [.int (nI (64))]) (c_J4_append_cf468 l G _ q b (((((((([] : List Nat) ++ dgs (k)) ++ [58]) ++ dgs (F 14 (k))) ++ [47]) ++ dgs (F 15 (k)))).length) f9 (64) hq8 hb8 (by omega) (by omega)) hq8 rfl hl rfl (Nat.le_of_ble_eq_true rfl) ⟨Nat.le_of_ble_eq_true rfl, Nat.le_of_ble_eq_true rfl⟩ ⟨Nat.le_of_ble_eq_true rfl, Nat.le_of_ble_eq_true rfl⟩ ?_
    rintro _ _ H locs ⟨rfl, rfl⟩ hM
    obtain ⟨M, hM, hs, R⟩ : ∃ M2, mW G A s.heap M2 H locs ∧ SBp G q b ((((((([] : List Nat) ++ dgs (k)) ++ [58]) ++ dgs (F 14 (k))) ++ [47]) ++ dgs (F 15 (k))) ++ [64]) M2 ∧ RC G ad N F B E P Q M2 := ⟨_, hM, SBp.chr hbq hf8 _, (R.off hq9 _).off hb9 _⟩
    have hn8 : ((((((([] : List Nat) ++ dgs (k)) ++ [58]) ++ dgs (F 14 (k))) ++ [47]) ++ dgs (F 15 (k))) ++ [64]).length ≤ 9 := by rw [List.length_append]; show _ + 1 ≤ _; omega
    refine lv_pop X.1 X.2.1 dX5_writeLabel_57 rfl ?_
    refine lv_aload_n X.1 X.2.1 dX5_writeLabel_58 rfl (lv_at hl 1 rfl) ?_
    refine lv_aload_n X.1 X.2.1 dX5_writeLabel_59 rfl (lv_at hl 0 rfl) ?_
    refine mg_get X hM (ci := 6) (k := 7) rfl kwX5 (by decide) kf_X5_32 dX5_writeLabel_60 (R.1 6 (k) (show k < E 0 6 by omega)) (v := va_rf (opA ad (F 17 (k)))) rfl ?_
    refine lv_topv (y := .ref (ad 1 (F 17 (k) - 1))) (by unfold opA; rw [if_neg cz1]; rfl) ?_
    refine mg_getN X hM (ci := 2) (k := 0) rfl kwX1 (by decide) kn_X5_90 dX5_writeLabel_63 (R.1 1 (F 17 (k) - 1) (show F 17 (k) - 1 < E 0 1 by omega)) (v := .int (nI (F 17 (k) - 1))) rfl ?_
    obtain ⟨f9, hq8, hb8, hf8⟩ := hs
    have hd8 := dgs_len (F 17 (k) - 1)
    refine jm_callV X hM hS hZ ck_X5_78 ki_J4_append_bf812 ks_J4_append_bf812 (ci := 0) rfl dX5_writeLabel_66 (As := [.int (nI (F 17 (k) - 1))]) (c_J4_append_bf812 l G _ q b ((((((((([] : List Nat) ++ dgs (k)) ++ [58]) ++ dgs (F 14 (k))) ++ [47]) ++ dgs (F 15 (k))) ++ [64])).length) f9 (F 17 (k) - 1) hq8 hb8 (by omega) (by omega)) hq8 rfl hl rfl (Nat.le_of_ble_eq_true rfl) ⟨Nat.le_of_ble_eq_true rfl, Nat.le_of_ble_eq_true rfl⟩ ⟨Nat.le_of_ble_eq_true rfl, Nat.le_of_ble_eq_true rfl⟩ ?_
    rintro _ _ H locs ⟨rfl, rfl⟩ hM
    obtain ⟨M, hM, hs, R⟩ : ∃ M2, mW G A s.heap M2 H locs ∧ SBp G q b (((((((([] : List Nat) ++ dgs (k)) ++ [58]) ++ dgs (F 14 (k))) ++ [47]) ++ dgs (F 15 (k))) ++ [64]) ++ dgs (F 17 (k) - 1)) M2 ∧ RC G ad N F B E P Q M2 := ⟨_, hM, SBp.int hbq hf8 _, (R.off hb9 _).off hq9 _⟩
    have hn8 : (((((((([] : List Nat) ++ dgs (k)) ++ [58]) ++ dgs (F 14 (k))) ++ [47]) ++ dgs (F 15 (k))) ++ [64]) ++ dgs (F 17 (k) - 1)).length ≤ 11 := by rw [List.length_append]; omega
    refine lv_pop X.1 X.2.1 dX5_writeLabel_69 rfl ?_
    exact m_vret X hr hlocks hM dX5_writeLabel_70 ⟨Nat.le_of_ble_eq_true rfl, Nat.le_of_ble_eq_true rfl⟩ (⟨rfl, R, by unfold labL; rw [if_neg (by assumption), ← List.append_assoc]; exact hs⟩)
