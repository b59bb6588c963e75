theorem set1_set1 (F : Nat → Nat → Nat) (k i v w : Nat) : set1 (set1 F k i v) k i w = set1 F k i w := by
  funext a b
  by_cases ha : a = k
  · subst ha
    by_cases hb : b = i
    · subst hb; rw [set1_at, set1_at]
    · rw [set1_off _ (Or.inr hb), set1_off _ (Or.inr hb), set1_off _ (Or.inr hb)]
  · rw [set1_off _ (Or.inl ha), set1_off _ (Or.inl ha), set1_off _ (Or.inl ha)]
/-- a skin's sales are undone -/
def undE (E : Nat → Nat → Nat) (k : Nat) : Nat → Nat → Nat := set1 (set1 (set1 E 2 k 0) 3 k 0) 4 k 0
theorem RC.eU {G : mG} {ad : Nat → Nat → Nat} {N : Nat → Nat} {F : Nat → Nat → Nat} {B : Nat → Int32} {E P Q : Nat → Nat → Nat} {M : Mem} (k : Nat) (R : RC G ad N F B (set1 (set1 E 3 k 0) 4 k 0) P Q M) : RC G ad N F B (undE E k) P Q M := by
  refine R.fits (fun a i h => ?_) (fun a i h => ?_)
  · by_cases ha : a = 8
    · subst ha
      have h2 : i % 20 < set1 E 2 k 0 2 (i / 20) := h.2
      refine ⟨h.1, ?_⟩
      show i % 20 < E 2 (i / 20)
      by_cases hk : i / 20 = k
      · rw [hk, set1_at] at h2; omega
      · rwa [set1_off E (Or.inr hk)] at h2
    · have e : liveC (undE E k) a i = liveC (set1 (set1 E 3 k 0) 4 k 0) a i := by unfold liveC; split <;> first | rfl | exact absurd rfl ha
      rw [← e]; exact h
  · unfold cellC
    split <;> rfl
theorem RC.rowDropc {G : mG} {ad : Nat → Nat → Nat} {N : Nat → Nat} {F : Nat → Nat → Nat} {B : Nat → Int32} {E P Q : Nat → Nat → Nat} {M : Mem} (R : RC G ad N F B E P Q M) {j n c : Nat} (h : j < E 0 6) (hc : E 3 j = c) (hn : c ≤ n + 1) : RC G ad N F B (set1 E 3 j (min c n)) P Q (mU M (ad 7 j) (.inl (G.2 8, 20, .inr (.inr (.inr (.inr (va_up (rowS ad j (E 3 j)) n none))))))) := by
  subst hc
  exact R.rowDrop h hn
theorem RC.f21 {G : mG} {ad : Nat → Nat → Nat} {N : Nat → Nat} {F : Nat → Nat → Nat} {B : Nat → Int32} {E P Q : Nat → Nat → Nat} {M : Mem} (R : RC G ad N F B E P Q M) (k v : Nat) : RC G ad N (set1 F 21 k v) B E P Q M :=
  R.fits (fun _ _ h => h) (fun a i _ => by unfold cellC; split <;> rfl)
set_option maxHeartbeats 4000000 in
set_option maxRecDepth 100000 in
theorem c_X5_isGood (l : Launch) (G : mG) (ad : Nat → Nat → Nat) (N : Nat → Nat) (F : Nat → Nat → Nat) (B : Nat → Int32) (E P Q : Nat → Nat → Nat) (M : Mem) (R : RC G ad N F B E P Q M) (k : Nat) (hk : k < E 0 6) : mMet l yX5_isGood cX5_isGood 1 (some FieldType.boolean) ({ frames := 0, cells := 0, slots := 0, locals := 0 } : Room) G [.ref (ad 6 (k))] M (fun r M' => r = some (.int (bI (decide (¬ F 20 k = 0)))) ∧ M = M') := by
  refine mMet.of (by decide) (Nat.le_of_ble_eq_true rfl) ?_
  intro p e s m args below meth c A ls X hr hlocks hname hM hl
  have hl : lv_has ls 1 [(0, .ref (ad 6 (k)))] := hl
  refine lv_aload_n X.1 X.2.1 dX5_isGood_0 rfl (lv_at hl 0 rfl) ?_
  refine mg_get X hM (ci := 6) (k := 5) rfl kwX5 (by decide) kf_X5_35 dX5_isGood_1 (R.1 6 (k) (show k < E 0 6 by omega)) (v := va_rf (fiA ad (k) (F 20 (k)))) rfl ?_
  by_cases cz1 : F 20 (k) = 0
  · skip
    refine lv_topv (y := .null) (by unfold fiA; rw [if_pos cz1]; rfl) ?_
    refine lv_ifnullN (tgt := 11) X.1 X.2.1 dX5_isGood_4 (by decide) ?_
    refine lv_iconst (v := nI (0)) X.1 X.2.1 dX5_isGood_11 (by decide) ?_
    exact m_zret X hr hlocks hM dX5_isGood_12 ⟨Nat.le_of_ble_eq_true rfl, Nat.le_of_ble_eq_true rfl⟩ (rfl) (⟨congrArg (fun z => some (Value.int z)) (by first | exact bI_dec (by omega) | exact bI_decN (by omega)), rfl⟩)
  · skip
    refine lv_topv (y := .ref (ad 8 (20 * k + (F 20 (k) - 1)))) (by unfold fiA; rw [if_neg cz1]; rfl) ?_
    refine lv_ifnull X.1 X.2.1 dX5_isGood_4 ?_
    refine lv_iconst (v := nI (1)) X.1 X.2.1 dX5_isGood_7 (by decide) ?_
    refine lv_goto (tgt := 12) X.1 X.2.1 dX5_isGood_8 (by decide) ?_
    exact m_zret X hr hlocks hM dX5_isGood_12 ⟨Nat.le_of_ble_eq_true rfl, Nat.le_of_ble_eq_true rfl⟩ (rfl) (⟨congrArg (fun z => some (Value.int z)) (by first | exact bI_dec (by omega) | exact bI_decN (by omega)), rfl⟩)
set_option maxHeartbeats 4000000 in
set_option maxRecDepth 100000 in
theorem c_X5_isSoldOften (l : Launch) (G : mG) (ad : Nat → Nat → Nat) (N : Nat → Nat) (F : Nat → Nat → Nat) (B : Nat → Int32) (E P Q : Nat → Nat → Nat) (M : Mem) (R : RC G ad N F B E P Q M) (k : Nat) (hk : k < E 0 6) (h1 : E 4 k < 2 ^ 31) : mMet l yX5_isSoldOften cX5_isSoldOften 1 (some FieldType.boolean) ({ frames := 0, cells := 0, slots := 0, locals := 0 } : Room) G [.ref (ad 6 (k))] M (fun r M' => r = some (.int (bI (decide (20 ≤ E 4 k)))) ∧ M = M') := by
  refine mMet.of (by decide) (Nat.le_of_ble_eq_true rfl) ?_
  intro p e s m args below meth c A ls X hr hlocks hname hM hl
  have hl : lv_has ls 1 [(0, .ref (ad 6 (k)))] := hl
  refine lv_aload_n X.1 X.2.1 dX5_isSoldOften_0 rfl (lv_at hl 0 rfl) ?_
  refine mg_get X hM (ci := 6) (k := 4) rfl kwX5 (by decide) kf_X5_39 dX5_isSoldOften_1 (R.1 6 (k) (show k < E 0 6 by omega)) (v := .int (nI (E 4 (k)))) rfl ?_
  refine lv_aload_n X.1 X.2.1 dX5_isSoldOften_4 rfl (lv_at hl 0 rfl) ?_
  refine mg_get X hM (ci := 6) (k := 3) rfl kwX5 (by decide) kf_X5_11 dX5_isSoldOften_5 (R.1 6 (k) (show k < E 0 6 by omega)) (v := .ref (ad 7 (k))) rfl ?_
  refine mg_alen X hM 8 rfl dX5_isSoldOften_8 (R.1 7 (k) (show k < E 0 6 by omega)) ?_
  refine b_icmp_lt (tgt := 16) X dX5_isSoldOften_9 (by decide) (a := ((E 4 (k) : Nat) : Int)) (b := ((20 : Nat) : Int)) (nI_ti (by omega)) (nI_ti (by omega)) (fun c1 => ?_) (fun c1 => ?_)
  · skip
    refine lv_iconst (v := nI (0)) X.1 X.2.1 dX5_isSoldOften_16 (by decide) ?_
    exact m_zret X hr hlocks hM dX5_isSoldOften_17 ⟨Nat.le_of_ble_eq_true rfl, Nat.le_of_ble_eq_true rfl⟩ (rfl) (⟨congrArg (fun z => some (Value.int z)) (by first | exact bI_dec (by omega) | exact bI_decN (by omega)), rfl⟩)
  · skip
    refine lv_iconst (v := nI (1)) X.1 X.2.1 dX5_isSoldOften_12 (by decide) ?_
    refine lv_goto (tgt := 17) X.1 X.2.1 dX5_isSoldOften_13 (by decide) ?_
    exact m_zret X hr hlocks hM dX5_isSoldOften_17 ⟨Nat.le_of_ble_eq_true rfl, Nat.le_of_ble_eq_true rfl⟩ (rfl) (⟨congrArg (fun z => some (Value.int z)) (by first | exact bI_dec (by omega) | exact bI_decN (by omega)), rfl⟩)
set_option maxHeartbeats 4000000 in
set_option maxRecDepth 100000 in
theorem c_X5_userOn (l : Launch) (G : mG) (ad : Nat → Nat → Nat) (N : Nat → Nat) (F : Nat → Nat → Nat) (B : Nat → Int32) (E P Q : Nat → Nat → Nat) (M : Mem) (R : RC G ad N F B E P Q M) (k : Nat) (d : Nat) (hk : k < E 0 6) (hd : d < 2 ^ 31) (h1 : F 19 k < 2 ^ 31) : mMet l yX5_userOn cX5_userOn 2 (some (FieldType.object "SkinLeague$Player")) ({ frames := 0, cells := 0, slots := 0, locals := 0 } : Room) G [.ref (ad 6 (k)), .int (nI (d))] M (fun r M' => r = some (va_rf (opA ad (if ¬ F 18 k = 0 ∧ d ≤ F 19 k then F 18 k else F 17 k))) ∧ M = M') := by
  refine mMet.of (by decide) (Nat.le_of_ble_eq_true rfl) ?_
  intro p e s m args below meth c A ls X hr hlocks hname hM hl
  have hl : lv_has ls 2 [(0, .ref (ad 6 (k))), (1, .int (nI (d)))] := hl
  refine lv_aload_n X.1 X.2.1 dX5_userOn_0 rfl (lv_at hl 0 rfl) ?_
  refine mg_get X hM (ci := 6) (k := 8) rfl kwX5 (by decide) kf_X5_42 dX5_userOn_1 (R.1 6 (k) (show k < E 0 6 by omega)) (v := va_rf (opA ad (F 18 (k)))) rfl ?_
  by_cases cz1 : F 18 (k) = 0
  · skip
    refine lv_topv (y := .null) (by unfold opA; rw [if_pos cz1]; rfl) ?_
    refine lv_ifnullN (tgt := 22) X.1 X.2.1 dX5_userOn_4 (by decide) ?_
    refine lv_aload_n X.1 X.2.1 dX5_userOn_22 rfl (lv_at hl 0 rfl) ?_
    refine mg_get X hM (ci := 6) (k := 7) rfl kwX5 (by decide) kf_X5_32 dX5_userOn_23 (R.1 6 (k) (show k < E 0 6 by omega)) (v := va_rf (opA ad (F 17 (k)))) rfl ?_
    exact m_aret (r := opA ad (F 17 (k))) X hr hlocks hM dX5_userOn_26 ⟨Nat.le_of_ble_eq_true rfl, Nat.le_of_ble_eq_true rfl⟩ (⟨by first | rw [if_pos ⟨by omega, by omega⟩] | rw [if_neg (by omega)], rfl⟩)
  · skip
    refine lv_topv (y := .ref (ad 1 (F 18 (k) - 1))) (by unfold opA; rw [if_neg cz1]; rfl) ?_
    refine lv_ifnull X.1 X.2.1 dX5_userOn_4 ?_
    refine lv_iload_n X.1 X.2.1 dX5_userOn_7 rfl (lv_at hl 1 rfl) ?_
    refine lv_aload_n X.1 X.2.1 dX5_userOn_8 rfl (lv_at hl 0 rfl) ?_
    refine mg_get X hM (ci := 6) (k := 9) rfl kwX5 (by decide) kf_X5_45 dX5_userOn_9 (R.1 6 (k) (show k < E 0 6 by omega)) (v := .int (nI (F 19 (k)))) rfl ?_
    refine b_icmp_gt (tgt := 22) X dX5_userOn_12 (by decide) (a := ((d : Nat) : Int)) (b := ((F 19 (k) : Nat) : Int)) (nI_ti (by omega)) (nI_ti (by omega)) (fun c2 => ?_) (fun c2 => ?_)
    · skip
      refine lv_aload_n X.1 X.2.1 dX5_userOn_22 rfl (lv_at hl 0 rfl) ?_
      refine mg_get X hM (ci := 6) (k := 7) rfl kwX5 (by decide) kf_X5_32 dX5_userOn_23 (R.1 6 (k) (show k < E 0 6 by omega)) (v := va_rf (opA ad (F 17 (k)))) rfl ?_
      exact m_aret (r := opA ad (F 17 (k))) X hr hlocks hM dX5_userOn_26 ⟨Nat.le_of_ble_eq_true rfl, Nat.le_of_ble_eq_true rfl⟩ (⟨by first | rw [if_pos ⟨by omega, by omega⟩] | rw [if_neg (by omega)], rfl⟩)
    · skip
      refine lv_aload_n X.1 X.2.1 dX5_userOn_15 rfl (lv_at hl 0 rfl) ?_
      refine mg_get X hM (ci := 6) (k := 8) rfl kwX5 (by decide) kf_X5_42 dX5_userOn_16 (R.1 6 (k) (show k < E 0 6 by omega)) (v := va_rf (opA ad (F 18 (k)))) rfl ?_
      refine lv_goto (tgt := 26) X.1 X.2.1 dX5_userOn_19 (by decide) ?_
      exact m_aret (r := opA ad (F 18 (k))) X hr hlocks hM dX5_userOn_26 ⟨Nat.le_of_ble_eq_true rfl, Nat.le_of_ble_eq_true rfl⟩ (⟨by first | rw [if_pos ⟨by omega, by omega⟩] | rw [if_neg (by omega)], rfl⟩)
set_option maxHeartbeats 4000000 in
set_option maxRecDepth 100000 in
theorem c_X5_pay (l : Launch) (G : mG) (ad : Nat → Nat → Nat) (N : Nat → Nat) (F : Nat → Nat → Nat) (B : Nat → Int32) (E P Q : Nat → Nat → Nat) (M : Mem) (R : RC G ad N F B E P Q M) (a : Nat) (b : Nat) (amt : Nat) (ha : a ≤ E 0 1) (hb : b ≤ E 0 1) : mMet l yX5_pay cX5_pay 3 none ({ frames := 0, cells := 0, slots := 0, locals := 0 } : Room) G [va_rf (opA ad (a)), va_rf (opA ad (b)), .int (nI (amt))] M (fun r M' => r = none ∧ RC G ad N F (payS B a b amt) E P Q M') := by
  refine mMet.of (by decide) (by generalize opA ad (a) = r0; generalize opA ad (b) = r1; cases r0 <;> cases r1 <;> exact Nat.le_of_ble_eq_true rfl) ?_
  intro p e s m args below meth c A ls X hr hlocks hname hM hl
  have hl : lv_has ls 3 [(0, va_rf (opA ad (a))), (1, va_rf (opA ad (b))), (2, .int (nI (amt)))] := by have h9 := hl; generalize opA ad (a) = r0 at h9 ⊢; generalize opA ad (b) = r1 at h9 ⊢; cases r0 <;> cases r1 <;> exact h9
  refine lw_aload_n X.1 X.2.1 dX5_pay_0 rfl (lv_at hl 0 rfl) ?_
  by_cases cz1 : a = 0
  · skip
    refine lv_topv (y := .null) (by unfold opA; rw [if_pos cz1]; rfl) ?_
    refine lv_ifnullN (tgt := 28) X.1 X.2.1 dX5_pay_1 (by decide) ?_
    exact m_vret X hr hlocks hM dX5_pay_28 ⟨Nat.le_of_ble_eq_true rfl, Nat.le_of_ble_eq_true rfl⟩ (⟨rfl, by unfold payS; first | (rw [if_neg (by omega)]; exact R) | (rw [if_pos (by omega)]; exact R)⟩)
  · skip
    refine lv_topv (y := .ref (ad 1 (a - 1))) (by unfold opA; rw [if_neg cz1]; rfl) ?_
    refine lv_ifnull X.1 X.2.1 dX5_pay_1 ?_
    refine lw_aload_n X.1 X.2.1 dX5_pay_4 rfl (lv_at hl 1 rfl) ?_
    by_cases cz2 : b = 0
    · skip
      refine lv_topv (y := .null) (by unfold opA; rw [if_pos cz2]; rfl) ?_
      refine lv_ifnullN (tgt := 28) X.1 X.2.1 dX5_pay_5 (by decide) ?_
      exact m_vret X hr hlocks hM dX5_pay_28 ⟨Nat.le_of_ble_eq_true rfl, Nat.le_of_ble_eq_true rfl⟩ (⟨rfl, by unfold payS; first | (rw [if_neg (by omega)]; exact R) | (rw [if_pos (by omega)]; exact R)⟩)
    · skip
      refine lv_topv (y := .ref (ad 1 (b - 1))) (by unfold opA; rw [if_neg cz2]; rfl) ?_
      refine lv_ifnull X.1 X.2.1 dX5_pay_5 ?_
      refine lw_aload_n X.1 X.2.1 dX5_pay_8 rfl (lv_at hl 0 rfl) ?_
      refine lv_topv (y := .ref (ad 1 (a - 1))) (by unfold opA; rw [if_neg cz1]; rfl) ?_
      refine lv_dup X.1 X.2.1 dX5_pay_9 rfl ?_
      refine mg_getN X hM (ci := 2) (k := 1) rfl kwX1 (by decide) kn_X5_73 dX5_pay_10 (R.1 1 (a - 1) (show a - 1 < E 0 1 by omega)) (v := .int (B (a - 1))) rfl ?_
      refine lv_iload_n X.1 X.2.1 dX5_pay_13 rfl (lv_at hl 2 rfl) ?_
      refine lv_isub X.1 X.2.1 dX5_pay_14 ?_
      refine mg_putN X hM tyX1 tyX1_ok nmX1 (ci := 2) (k := 1) rfl kwX1 (by decide) kn_X5_73 rfl dX5_pay_15 (R.1 1 (a - 1) (show a - 1 < E 0 1 by omega)) rfl rfl (Nat.le_of_ble_eq_true rfl) (fun H locs hM => ?_)
      obtain ⟨M, hM, R⟩ : ∃ M2, mW G A s.heap M2 H locs ∧ RC G ad N F (upd B (a - 1) ((B (a - 1)) - (nI (amt)))) E P Q M2 := ⟨_, hM, R.bal (show a - 1 < E 0 1 by omega) ((B (a - 1)) - (nI (amt)))⟩
      refine lw_aload_n X.1 X.2.1 dX5_pay_18 rfl (lv_at hl 1 rfl) ?_
      refine lv_topv (y := .ref (ad 1 (b - 1))) (by unfold opA; rw [if_neg cz2]; rfl) ?_
      refine lv_dup X.1 X.2.1 dX5_pay_19 rfl ?_
      refine mg_getN X hM (ci := 2) (k := 1) rfl kwX1 (by decide) kn_X5_73 dX5_pay_20 (R.1 1 (b - 1) (show b - 1 < E 0 1 by omega)) (v := .int (upd B (a - 1) ((B (a - 1)) - (nI (amt))) (b - 1))) rfl ?_
      refine lv_iload_n X.1 X.2.1 dX5_pay_23 rfl (lv_at hl 2 rfl) ?_
      refine lv_iadd X.1 X.2.1 dX5_pay_24 ?_
      refine mg_putN X hM tyX1 tyX1_ok nmX1 (ci := 2) (k := 1) rfl kwX1 (by decide) kn_X5_73 rfl dX5_pay_25 (R.1 1 (b - 1) (show b - 1 < E 0 1 by omega)) rfl rfl (Nat.le_of_ble_eq_true rfl) (fun H locs hM => ?_)
      obtain ⟨M, hM, R⟩ : ∃ M2, mW G A s.heap M2 H locs ∧ RC G ad N F (upd (upd B (a - 1) ((B (a - 1)) - (nI (amt)))) (b - 1) ((upd B (a - 1) ((B (a - 1)) - (nI (amt))) (b - 1)) + (nI (amt)))) E P Q M2 := ⟨_, hM, R.bal (show b - 1 < E 0 1 by omega) ((upd B (a - 1) ((B (a - 1)) - (nI (amt))) (b - 1)) + (nI (amt)))⟩
      exact m_vret X hr hlocks hM dX5_pay_28 ⟨Nat.le_of_ble_eq_true rfl, Nat.le_of_ble_eq_true rfl⟩ (⟨rfl, by unfold payS; first | (rw [if_neg (by omega)]; exact R) | (rw [if_pos (by omega)]; exact R)⟩)
set_option maxHeartbeats 4000000 in
set_option maxRecDepth 100000 in
theorem c_X5_undoSales (l : Launch) (G : mG) (ad : Nat → Nat → Nat) (N : Nat → Nat) (F : Nat → Nat → Nat) (B : Nat → Int32) (E P Q : Nat → Nat → Nat) (M : Mem) (R : RC G ad N F B E P Q M) (k : Nat) (hk : k < E 0 6) (h3 : E 3 k ≤ E 2 k ∧ E 3 k ≤ 20) (hs : ∀ j, j < E 3 k → F 22 (20 * k + j) < E 0 1 ∧ F 23 (20 * k + j) < E 0 1 ∧ F 24 (20 * k + j) ≤ 10000) : mMet l yX5_undoSales cX5_undoSales 3 none ({ frames := 1, cells := 0, slots := 0, locals := 22 } : Room) G [.ref (ad 6 (k))] M (fun r M' => r = none ∧ RC G ad N F (undoS F k B (E 3 k)) (undE E k) P Q M') := by
  refine mMet.of (by decide) (Nat.le_of_ble_eq_true rfl) ?_
  intro p e s m args below meth c A ls X hr hlocks hname hM hl
  have hl : lv_has ls 3 [(0, .ref (ad 6 (k)))] := hl
  refine lv_aload_n X.1 X.2.1 dX5_undoSales_0 rfl (lv_at hl 0 rfl) ?_
  refine mg_get X hM (ci := 6) (k := 3) rfl kwX5 (by decide) kf_X5_11 dX5_undoSales_1 (R.1 6 (k) (show k < E 0 6 by omega)) (v := .ref (ad 7 (k))) rfl ?_
  refine mg_alen X hM 8 rfl dX5_undoSales_4 (R.1 7 (k) (show k < E 0 6 by omega)) ?_
  refine lv_iconst (v := nI (1)) X.1 X.2.1 dX5_undoSales_5 (by decide) ?_
  refine lv_isub X.1 X.2.1 dX5_undoSales_6 ?_
  refine lv_top (y := nI (20) - 1) rfl ?_
  refine lv_istore_n (lv' := [(1, .int (nI (20) - 1)), (0, .ref (ad 6 (k)))]) X.1 X.2.1 dX5_undoSales_7 rfl hl (by decide) rfl (fun ls hl => ?_)
  have loop : ∀ (n9 : Nat) (t : Nat) (M : Mem) (B1 : Nat → Int32), (t < n9) → (t ≤ 20) → (RC G ad N F B1 (set1 E 3 k (min (E 3 k) t)) P Q M) → (undoS F k B1 (min (E 3 k) t) = undoS F k B (E 3 k)) → ∀ (H : Heap) (locs : List Loc) (ls : Array Slot), mW G A s.heap M H locs → lv_has ls 3 [(0, .ref (ad 6 (k))), (1, .int (nI (t) - 1))] → W p l e ({ frames := 1, cells := 0, slots := 0, locals := 22 } : Room) s m args below meth c H locs 0 0 (MQ below (mQ G A (fun r M' => r = none ∧ RC G ad N F (undoS F k B (E 3 k)) (undE E k) P Q M')) args s 0 0 A) (F0 m 8 ls []) := by
    intro n9
    induction n9 with
    | zero => intro t M B1 hm9 ht R hB; exact absurd hm9 (by omega)
    | succ n9 ih_loop =>
      intro t M B1 hm9 ht R hB H locs ls hM hl
      refine lv_iload_n X.1 X.2.1 dX5_undoSales_8 rfl (lv_at hl 1 rfl) ?_
      refine b_if_lt (tgt := 51) X dX5_undoSales_9 (by decide) (a := ((t : Nat) : Int) - 1) (eI_ti (by omega)) (fun c1 => ?_) (fun c1 => ?_)
      · skip
        refine lv_aload_n X.1 X.2.1 dX5_undoSales_51 rfl (lv_at hl 0 rfl) ?_
        refine lv_iconst (v := nI (0)) X.1 X.2.1 dX5_undoSales_52 (by decide) ?_
        refine mg_put X hM tyX5 tyX5_ok nmX5 (ci := 6) (k := 4) rfl kwX5 (by decide) kf_X5_39 rfl dX5_undoSales_53 (R.1 6 (k) (show k < E 0 6 by omega)) rfl rfl (Nat.le_of_ble_eq_true rfl) (fun H locs hM => ?_)
        obtain ⟨M, hM, R⟩ : ∃ M2, mW G A s.heap M2 H locs ∧ RC G ad N F B1 (set1 (set1 E 3 (k) (min (E 3 k) t)) 4 (k) (0)) P Q M2 := ⟨_, hM, R.count (show k < E 0 6 by omega) (0)⟩
        exact m_vret X hr hlocks hM dX5_undoSales_56 ⟨Nat.le_of_ble_eq_true rfl, Nat.le_of_ble_eq_true rfl⟩ (⟨rfl, by obtain rfl : t = 0 := (by omega); rw [Nat.min_zero] at R hB; rw [← hB]; exact R.eU k⟩)
      · skip
        obtain ⟨u, rfl⟩ : ∃ u, t = u + 1 := ⟨t - 1, by omega⟩
        have hl : lv_has ls 3 [(0, .ref (ad 6 (k))), (1, .int (nI (u)))] := by rw [show nI u = nI (u + 1) - 1 from (nI_pred _).symm]; exact hl
        refine lv_aload_n X.1 X.2.1 dX5_undoSales_12 rfl (lv_at hl 0 rfl) ?_
        refine mg_get X hM (ci := 6) (k := 3) rfl kwX5 (by decide) kf_X5_11 dX5_undoSales_13 (R.1 6 (k) (show k < E 0 6 by omega)) (v := .ref (ad 7 (k))) rfl ?_
        refine lv_iload_n X.1 X.2.1 dX5_undoSales_16 rfl (lv_at hl 1 rfl) ?_
        refine mx_aald X hM 8 (C := RX3) rfl dX5_undoSales_17 (R.1 7 (k) (show k < E 0 6 by omega)) (i := u) (by omega) (by decide) (r := rowS ad (k) (min (E 3 k) (u + 1)) (u)) (by first | rfl | simp only [set1_at]) ?_
        refine lw_astore_n (lv' := [(2, va_rf (rowS ad (k) (min (E 3 k) (u + 1)) (u))), (0, .ref (ad 6 (k))), (1, .int (nI (u)))]) X.1 X.2.1 dX5_undoSales_18 rfl hl (by decide) rfl (fun ls hl => ?_)
        refine lw_aload_n X.1 X.2.1 dX5_undoSales_19 rfl (lv_at hl 0 rfl) ?_
        by_cases cz2 : u < min (E 3 k) (u + 1)
        · skip
          refine lv_topv (y := .ref (ad 8 (20 * k + u))) (by unfold rowS; rw [if_pos cz2]; rfl) ?_
          refine lv_ifnull X.1 X.2.1 dX5_undoSales_20 ?_
          refine lw_aload_n X.1 X.2.1 dX5_undoSales_23 rfl (lv_at hl 0 rfl) ?_
          refine lv_topv (y := .ref (ad 8 (20 * k + u))) (by unfold rowS; rw [if_pos cz2]; rfl) ?_
          refine mg_getN X hM (ci := 4) (k := 0) rfl kwX3 (by decide) kn_X5_67 dX5_undoSales_24 (R.1 8 (20 * k + u) (live8 (k := k) (j := u) (show _ < E 0 6 by omega) (show _ < E 2 (k) by omega) (by omega))) (v := .ref (ad 1 (F 22 (20 * k + u)))) rfl ?_
          have b3 := hs u (by omega)
          refine lw_aload_n X.1 X.2.1 dX5_undoSales_27 rfl (lv_at hl 0 rfl) ?_
          refine lv_topv (y := .ref (ad 8 (20 * k + u))) (by unfold rowS; rw [if_pos cz2]; rfl) ?_
          refine mg_getN X hM (ci := 4) (k := 1) rfl kwX3 (by decide) kn_X5_70 dX5_undoSales_28 (R.1 8 (20 * k + u) (live8 (k := k) (j := u) (show _ < E 0 6 by omega) (show _ < E 2 (k) by omega) (by omega))) (v := .ref (ad 1 (F 23 (20 * k + u)))) rfl ?_
          refine lw_aload_n X.1 X.2.1 dX5_undoSales_31 rfl (lv_at hl 0 rfl) ?_
          refine lv_topv (y := .ref (ad 8 (20 * k + u))) (by unfold rowS; rw [if_pos cz2]; rfl) ?_
          refine mg_getN X hM (ci := 4) (k := 2) rfl kwX3 (by decide) kn_X5_61 dX5_undoSales_32 (R.1 8 (20 * k + u) (live8 (k := k) (j := u) (show _ < E 0 6 by omega) (show _ < E 2 (k) by omega) (by omega))) (v := .int (nI (F 24 (20 * k + u)))) rfl ?_
          refine m_callS X hM ck_X5_58 kst_X5_pay dX5_undoSales_35 (As := [va_rf (opA ad (F 22 (20 * k + u) + 1)), va_rf (opA ad (F 23 (20 * k + u) + 1)), .int (nI (F 24 (20 * k + u)))]) (c_X5_pay l G ad N F B1 (set1 E 3 (k) (min (E 3 k) (u + 1))) P Q _ R (F 22 (20 * k + u) + 1) (F 23 (20 * k + u) + 1) (F 24 (20 * k + u)) (show _ ≤ E 0 1 by omega) (show _ ≤ E 0 1 by omega)) rfl hl rfl (Nat.le_of_ble_eq_true rfl) ⟨Nat.le_of_ble_eq_true rfl, Nat.le_of_ble_eq_true rfl⟩ ⟨Nat.le_of_ble_eq_true rfl, Nat.le_of_ble_eq_true rfl⟩ ?_
          rintro _ M H locs ⟨rfl, R⟩ hM
          refine lv_aload_n X.1 X.2.1 dX5_undoSales_38 rfl (lv_at hl 1 rfl) ?_
          refine mg_get X hM (ci := 6) (k := 3) rfl kwX5 (by decide) kf_X5_11 dX5_undoSales_39 (R.1 6 (k) (show k < E 0 6 by omega)) (v := .ref (ad 7 (k))) rfl ?_
          refine lv_iload_n X.1 X.2.1 dX5_undoSales_42 rfl (lv_at hl 2 rfl) ?_
          refine lv_null X.1 X.2.1 dX5_undoSales_43 ?_
          refine mx_aastN X hM 8 (C := RX3) rfl dX5_undoSales_44 (R.1 7 (k) (show k < E 0 6 by omega)) (i := u) (by omega) (by decide) (fun H locs hM => ?_)
          obtain ⟨M, hM, R⟩ : ∃ M2, mW G A s.heap M2 H locs ∧ RC G ad N F (payS B1 (F 22 (20 * k + u) + 1) (F 23 (20 * k + u) + 1) (F 24 (20 * k + u))) (set1 (set1 E 3 (k) (min (E 3 k) (u + 1))) 3 (k) (min (min (E 3 k) (u + 1)) (u))) P Q M2 := ⟨_, hM, R.rowDropc (n := u) (c := min (E 3 k) (u + 1)) (show k < E 0 6 by omega) (by first | rfl | exact set1_at _ _ _ _) (by omega)⟩
          refine lv_iinc (v := nI (u) - 1) (lv' := [(1, .int (nI (u) - 1)), (2, va_rf (rowS ad (k) (min (E 3 k) (u + 1)) (u))), (0, .ref (ad 6 (k)))]) X.1 X.2.1 dX5_undoSales_45 hl (k := 2) rfl (dec_sh _) (by decide) rfl (fun ls hl => ?_)
          refine lv_goto (tgt := 8) X.1 X.2.1 dX5_undoSales_48 (by decide) ?_
          have R : RC G ad N F (payS B1 (F 22 (20 * k + u) + 1) (F 23 (20 * k + u) + 1) (F 24 (20 * k + u))) (set1 E 3 k (min (E 3 k) u)) P Q M := by have R1 := R; rw [set1_set1, show min (min (E 3 k) (u + 1)) u = min (E 3 k) u by omega] at R1; exact R1
          exact ih_loop u _ (payS B1 (F 22 (20 * k + u) + 1) (F 23 (20 * k + u) + 1) (F 24 (20 * k + u))) (by omega) (by omega) R (by rw [← hB, show min (E 3 k) (u + 1) = u + 1 by omega, show min (E 3 k) u = u by omega]; rfl) _ _ _ hM (lv_sub hl [2, 0] rfl)
        · skip
          refine lv_topv (y := .null) (by unfold rowS; rw [if_neg cz2]; rfl) ?_
          refine lv_ifnullN (tgt := 45) X.1 X.2.1 dX5_undoSales_20 (by decide) ?_
          refine lv_iinc (v := nI (u) - 1) (lv' := [(1, .int (nI (u) - 1)), (2, va_rf (rowS ad (k) (min (E 3 k) (u + 1)) (u))), (0, .ref (ad 6 (k)))]) X.1 X.2.1 dX5_undoSales_45 hl (k := 2) rfl (dec_sh _) (by decide) rfl (fun ls hl => ?_)
          refine lv_goto (tgt := 8) X.1 X.2.1 dX5_undoSales_48 (by decide) ?_
          have R : RC G ad N F B1 (set1 E 3 k (min (E 3 k) u)) P Q M := by have R1 := R; rw [show min (E 3 k) (u + 1) = min (E 3 k) u by omega] at R1; exact R1
          exact ih_loop u _ B1 (by omega) (by omega) R (by rw [← hB, show min (E 3 k) (u + 1) = min (E 3 k) u by omega]) _ _ _ hM (lv_sub hl [2, 0] rfl)
  exact loop 21 20 _ B (by omega) (by omega) (by rw [show min (E 3 k) 20 = E 3 k by omega, set1_self]; exact R) (by rw [show min (E 3 k) 20 = E 3 k by omega]) _ _ _ hM (lv_sub hl [1, 0] rfl)
set_option maxHeartbeats 4000000 in
set_option maxRecDepth 100000 in
theorem c_X5_passTo (l : Launch) (G : mG) (ad : Nat → Nat → Nat) (N : Nat → Nat) (F : Nat → Nat → Nat) (B : Nat → Int32) (E P Q : Nat → Nat → Nat) (M : Mem) (R : RC G ad N F B E P Q M) (k : Nat) (h : Nat) (hk : k < E 0 6) (h1 : F 16 k ≤ E 0 1) (h2 : h ≤ E 0 1) (h3 : E 3 k ≤ E 2 k ∧ E 3 k ≤ 20) (h4 : E 3 k = F 21 k) (h5 : F 20 k ≤ F 21 k) (hs : ∀ j, j < E 3 k → F 22 (20 * k + j) < E 0 1 ∧ F 23 (20 * k + j) < E 0 1 ∧ F 24 (20 * k + j) ≤ 10000) : mMet l yX5_passTo cX5_passTo 2 none ({ frames := 2, cells := 0, slots := 0, locals := 44 } : Room) G [.ref (ad 6 (k)), va_rf (opA ad (h))] M (fun r M' => r = none ∧ if h = F 16 k then RC G ad N F B E P Q M' else RC G ad N (inhF F k h) (inhB F B k h) (if F 20 k = 0 then undE E k else E) P Q M') := by
  refine mMet.of (by decide) (by generalize opA ad (h) = r0; cases r0 <;> exact Nat.le_of_ble_eq_true rfl) ?_
  intro p e s m args below meth c A ls X hr hlocks hname hM hl
  have hl : lv_has ls 2 [(0, .ref (ad 6 (k))), (1, va_rf (opA ad (h)))] := by have h9 := hl; generalize opA ad (h) = r0 at h9 ⊢; cases r0 <;> exact h9
  refine lw_aload_n X.1 X.2.1 dX5_passTo_0 rfl (lv_at hl 1 rfl) ?_
  refine lv_aload_n X.1 X.2.1 dX5_passTo_1 rfl (lv_at hl 0 rfl) ?_
  refine mg_get X hM (ci := 6) (k := 6) rfl kwX5 (by decide) kf_X5_28 dX5_passTo_2 (R.1 6 (k) (show k < E 0 6 by omega)) (v := va_rf (opA ad (F 16 (k)))) rfl ?_
  refine lv_acmp_ne (rx := opA ad (h)) (ry := opA ad (F 16 (k))) (tgt := 9) X.1 X.2.1 dX5_passTo_5 (by decide) (fun c1 => ?_) (fun c1 => ?_)
  · skip
    have c1 : ¬ h = F 16 (k) := fun z => c1 (by rw [z])
    refine lv_aload_n X.1 X.2.1 dX5_passTo_9 rfl (lv_at hl 0 rfl) ?_
    refine mg_get X hM (ci := 6) (k := 5) rfl kwX5 (by decide) kf_X5_35 dX5_passTo_10 (R.1 6 (k) (show k < E 0 6 by omega)) (v := va_rf (fiA ad (k) (F 20 (k)))) rfl ?_
    have b2 := hs (F 20 k - 1)
    by_cases cz3 : F 20 (k) = 0
    · skip
      refine lv_topv (y := .null) (by unfold fiA; rw [if_pos cz3]; rfl) ?_
      refine lv_ifnullN (tgt := 34) X.1 X.2.1 dX5_passTo_13 (by decide) ?_
      refine lv_aload_n X.1 X.2.1 dX5_passTo_34 rfl (lv_at hl 0 rfl) ?_
      refine m_callV X hM ck_X5_64 ki_X5_undoSales ks_X5_undoSales (ci := 6) rfl dX5_passTo_35 (As := []) (c_X5_undoSales l G ad N F B E P Q _ R k (show _ < E 0 6 by omega) h3 hs) (R.1 6 (k) (show k < E 0 6 by omega)) rfl hl rfl (Nat.le_of_ble_eq_true rfl) ⟨Nat.le_of_ble_eq_true rfl, Nat.le_of_ble_eq_true rfl⟩ ⟨Nat.le_of_ble_eq_true rfl, Nat.le_of_ble_eq_true rfl⟩ ?_
      rintro _ M H locs ⟨rfl, R⟩ hM
      have R := R.f21 k 0
      refine lv_aload_n X.1 X.2.1 dX5_passTo_38 rfl (lv_at hl 0 rfl) ?_
      refine lw_aload_n X.1 X.2.1 dX5_passTo_39 rfl (lv_at hl 1 rfl) ?_
      refine mg_put X hM tyX5 tyX5_ok nmX5 (ci := 6) (k := 7) rfl kwX5 (by decide) kf_X5_32 rfl dX5_passTo_40 (R.1 6 (k) (show k < E 0 6 by omega)) (nar_rf _ _) (fit_rf _ _) (Nat.le_of_ble_eq_true rfl) (fun H locs hM => ?_)
      obtain ⟨M, hM, R⟩ : ∃ M2, mW G A s.heap M2 H locs ∧ RC G ad N (set1 (set1 F 21 (k) (0)) 17 (k) (h)) (undoS F k B (E 3 k)) (undE E k) P Q M2 := ⟨_, hM, R.holder (show k < E 0 6 by omega) (h)⟩
      refine lv_aload_n X.1 X.2.1 dX5_passTo_43 rfl (lv_at hl 0 rfl) ?_
      refine lv_null X.1 X.2.1 dX5_passTo_44 ?_
      refine lv_topv (y := va_rf (opA ad 0)) rfl ?_
      refine mg_put X hM tyX5 tyX5_ok nmX5 (ci := 6) (k := 8) rfl kwX5 (by decide) kf_X5_42 rfl dX5_passTo_45 (R.1 6 (k) (show k < E 0 6 by omega)) (nar_rf _ _) (fit_rf _ _) (Nat.le_of_ble_eq_true rfl) (fun H locs hM => ?_)
      obtain ⟨M, hM, R⟩ : ∃ M2, mW G A s.heap M2 H locs ∧ RC G ad N (set1 (set1 (set1 F 21 (k) (0)) 17 (k) (h)) 18 (k) (0)) (undoS F k B (E 3 k)) (undE E k) P Q M2 := ⟨_, hM, R.borr (show k < E 0 6 by omega) (0)⟩
      refine lv_aload_n X.1 X.2.1 dX5_passTo_48 rfl (lv_at hl 0 rfl) ?_
      refine lw_aload_n X.1 X.2.1 dX5_passTo_49 rfl (lv_at hl 1 rfl) ?_
      refine mg_put X hM tyX5 tyX5_ok nmX5 (ci := 6) (k := 6) rfl kwX5 (by decide) kf_X5_28 rfl dX5_passTo_50 (R.1 6 (k) (show k < E 0 6 by omega)) (nar_rf _ _) (fit_rf _ _) (Nat.le_of_ble_eq_true rfl) (fun H locs hM => ?_)
      obtain ⟨M, hM, R⟩ : ∃ M2, mW G A s.heap M2 H locs ∧ RC G ad N (set1 (set1 (set1 (set1 F 21 (k) (0)) 17 (k) (h)) 18 (k) (0)) 16 (k) (h)) (undoS F k B (E 3 k)) (undE E k) P Q M2 := ⟨_, hM, R.heir (show k < E 0 6 by omega) (h)⟩
      exact m_vret X hr hlocks hM dX5_passTo_53 ⟨Nat.le_of_ble_eq_true rfl, Nat.le_of_ble_eq_true rfl⟩ (⟨rfl, by rw [if_neg (by omega)]; unfold inhF inhB; rw [if_pos (by omega), if_pos (by omega), if_pos (by omega), ← h4]; exact R⟩)
    · skip
      refine lv_topv (y := .ref (ad 8 (20 * k + (F 20 (k) - 1)))) (by unfold fiA; rw [if_neg cz3]; rfl) ?_
      refine lv_ifnull X.1 X.2.1 dX5_passTo_13 ?_
      refine lv_aload_n X.1 X.2.1 dX5_passTo_16 rfl (lv_at hl 0 rfl) ?_
      refine mg_get X hM (ci := 6) (k := 6) rfl kwX5 (by decide) kf_X5_28 dX5_passTo_17 (R.1 6 (k) (show k < E 0 6 by omega)) (v := va_rf (opA ad (F 16 (k)))) rfl ?_
      refine lw_aload_n X.1 X.2.1 dX5_passTo_20 rfl (lv_at hl 1 rfl) ?_
      refine lv_aload_n X.1 X.2.1 dX5_passTo_21 rfl (lv_at hl 0 rfl) ?_
      refine mg_get X hM (ci := 6) (k := 5) rfl kwX5 (by decide) kf_X5_35 dX5_passTo_22 (R.1 6 (k) (show k < E 0 6 by omega)) (v := va_rf (fiA ad (k) (F 20 (k)))) rfl ?_
      have b4 := hs (F 20 k - 1)
      refine lv_topv (y := .ref (ad 8 (20 * k + (F 20 (k) - 1)))) (by unfold fiA; rw [if_neg cz3]; rfl) ?_
      refine mg_getN X hM (ci := 4) (k := 2) rfl kwX3 (by decide) kn_X5_61 dX5_passTo_25 (R.1 8 (20 * k + (F 20 (k) - 1)) (live8 (k := k) (j := (F 20 (k) - 1)) (show _ < E 0 6 by omega) (show _ < E 2 (k) by omega) (by omega))) (v := .int (nI (F 24 (20 * k + (F 20 (k) - 1))))) rfl ?_
      refine m_callS X hM ck_X5_58 kst_X5_pay dX5_passTo_28 (As := [va_rf (opA ad (F 16 (k))), va_rf (opA ad (h)), .int (nI (F 24 (20 * k + (F 20 (k) - 1))))]) (c_X5_pay l G ad N F B E P Q _ R (F 16 (k)) h (F 24 (20 * k + (F 20 (k) - 1))) (show _ ≤ E 0 1 by omega) (show _ ≤ E 0 1 by omega)) rfl hl rfl (Nat.le_of_ble_eq_true rfl) ⟨Nat.le_of_ble_eq_true rfl, Nat.le_of_ble_eq_true rfl⟩ ⟨Nat.le_of_ble_eq_true rfl, Nat.le_of_ble_eq_true rfl⟩ ?_
      rintro _ M H locs ⟨rfl, R⟩ hM
      refine lv_goto (tgt := 48) X.1 X.2.1 dX5_passTo_31 (by decide) ?_
      refine lv_aload_n X.1 X.2.1 dX5_passTo_48 rfl (lv_at hl 0 rfl) ?_
      refine lw_aload_n X.1 X.2.1 dX5_passTo_49 rfl (lv_at hl 1 rfl) ?_
      refine mg_put X hM tyX5 tyX5_ok nmX5 (ci := 6) (k := 6) rfl kwX5 (by decide) kf_X5_28 rfl dX5_passTo_50 (R.1 6 (k) (show k < E 0 6 by omega)) (nar_rf _ _) (fit_rf _ _) (Nat.le_of_ble_eq_true rfl) (fun H locs hM => ?_)
      obtain ⟨M, hM, R⟩ : ∃ M2, mW G A s.heap M2 H locs ∧ RC G ad N (set1 F 16 (k) (h)) (payS B (F 16 (k)) h (F 24 (20 * k + (F 20 (k) - 1)))) E P Q M2 := ⟨_, hM, R.heir (show k < E 0 6 by omega) (h)⟩
      exact m_vret X hr hlocks hM dX5_passTo_53 ⟨Nat.le_of_ble_eq_true rfl, Nat.le_of_ble_eq_true rfl⟩ (⟨rfl, by rw [if_neg (by omega)]; unfold inhF inhB; rw [if_neg (by omega), if_neg (by omega), if_neg (by omega)]; exact R⟩)
  · skip
    have c1 : h = F 16 (k) := opA_inj R (show _ ≤ E 0 1 by omega) (show _ ≤ E 0 1 by omega) c1
    exact m_vret X hr hlocks hM dX5_passTo_8 ⟨Nat.le_of_ble_eq_true rfl, Nat.le_of_ble_eq_true rfl⟩ (⟨rfl, by rw [if_pos (by omega)]; exact R⟩)
