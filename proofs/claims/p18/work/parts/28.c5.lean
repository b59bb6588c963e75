theorem RC.grow {G : mG} {ad ad' : Nat → Nat → Nat} {N N' : Nat → Nat} {F F' : Nat → Nat → Nat} {B B' : Nat → Int32} {E P Q E' P' Q' : Nat → Nat → Nat} {M M' : Mem} (R : RC G ad N F B E P Q M) (new : Nat → Nat → Prop) (hl : ∀ k i, liveC E' k i → liveC E k i ∨ new k i)
    (ho : ∀ k i, liveC E k i → liveC E' k i → ad' k i = ad k i ∧ cellC G ad' N' F' B' E' P' Q' k i = cellC G ad N F B E P Q k i ∧ M' (ad k i) = M (ad k i))
    (hn : ∀ k i, new k i → M' (ad' k i) = some (cellC G ad' N' F' B' E' P' Q' k i) ∧ ∀ k2 i2, liveC E k2 i2 → ad k2 i2 ≠ ad' k i)
    (hi : ∀ k i k2 i2, new k i → new k2 i2 → ad' k i = ad' k2 i2 → k = k2 ∧ i = i2) : RC G ad' N' F' B' E' P' Q' M' := by
  refine ⟨fun k i h => ?_, fun k i k2 i2 h h2 e => ?_⟩
  · rcases hl k i h with g | g
    · obtain ⟨a1, a2, a3⟩ := ho k i g h
      rw [a1, a2, a3]
      exact R.1 k i g
    · exact (hn k i g).1
  · rcases hl k i h with g | g <;> rcases hl k2 i2 h2 with g2 | g2
    · rw [(ho k i g h).1, (ho k2 i2 g2 h2).1] at e
      exact R.2 k i k2 i2 g g2 e
    · rw [(ho k i g h).1] at e
      exact absurd e ((hn k2 i2 g2).2 k i g)
    · rw [(ho k2 i2 g2 h2).1] at e
      exact absurd e.symm ((hn k i g).2 k2 i2 g2)
    · exact hi k i k2 i2 g g2 e
/-- a skin's sales: there, in the row, counted -/
def sE (E : Nat → Nat → Nat) (k v : Nat) : Nat → Nat → Nat := set1 (set1 (set1 E 2 k v) 3 k v) 4 k v
theorem RC.sale {G : mG} {ad : Nat → Nat → Nat} {N : Nat → Nat} {F : Nat → Nat → Nat} {B : Nat → Int32} {E P Q : Nat → Nat → Nat} {M : Mem} (R : RC G ad N F B E P Q M) {k q a b its n : Nat} (hk : k < E 0 6) (hq : ∀ k i, liveC E k i → ad k i ≠ q) (hM : M q = some (.inr (4, [.ref (ad 1 a), .ref (ad 1 b), .int (nI its)]))) (hn : E 2 k = n) (h20 : n < 20) (h4 : ∀ i, i < E 0 6 → F 20 i ≤ E 2 i ∧ E 3 i ≤ E 2 i ∧ E 2 i ≤ 20) :
    RC G (set1 ad 8 (20 * k + n) q) N (set1 (set1 (set1 F 22 (20 * k + n) a) 23 (20 * k + n) b) 24 (20 * k + n) its) B (set1 E 2 k (n + 1)) P Q M := by
  subst hn
  have h8 : ∀ i, liveC (set1 E 2 k (E 2 k + 1)) 8 i → liveC E 8 i ∨ i = 20 * k + E 2 k := fun i h => by
    have h1 : i / 20 < E 0 6 := h.1
    have h2 : i % 20 < set1 E 2 k (E 2 k + 1) 2 (i / 20) := h.2
    by_cases hi : i / 20 = k
    · rw [hi, set1_at] at h2
      by_cases h3 : i % 20 < E 2 k
      · left; exact ⟨h1, by rw [hi]; exact h3⟩
      · right; omega
    · rw [set1_off E (Or.inr hi)] at h2
      left; exact ⟨h1, h2⟩
  have hnl : ¬ liveC E 8 (20 * k + E 2 k) := fun h => by
    have h2 : (20 * k + E 2 k) % 20 < E 2 ((20 * k + E 2 k) / 20) := h.2
    rw [show (20 * k + E 2 k) / 20 = k by omega] at h2
    omega
  refine R.take 8 (20 * k + E 2 k) q (fun k' i' h => ?_) ?_ (fun k' i' h => ?_) hnl (fun k' i' h _ => ?_)
  · exact hq k' i' h
  · rw [hM]; simp [cellC, set1, va_up]
  · by_cases hk8 : k' = 8
    · subst hk8
      rcases h8 i' h with g | g
      · exact Or.inl g
      · exact Or.inr ⟨rfl, g⟩
    · left
      have e : liveC (set1 E 2 k (E 2 k + 1)) k' i' = liveC E k' i' := by unfold liveC; split <;> first | rfl | exact absurd rfl hk8
      rw [← e]; exact h
  · by_cases hk8 : k' = 8
    · subst hk8
      have hne : i' ≠ 20 * k + E 2 k := fun z => hnl (by rw [← z]; exact h)
      simp [cellC, set1, va_up, hne]
    · by_cases hk7 : k' = 7
      · subst hk7
        have hi : i' < E 0 6 := h
        obtain ⟨_, g3, g2⟩ := h4 i' hi
        have e : rowS (set1 ad 8 (20 * k + E 2 k) q) i' (E 3 i') = rowS ad i' (E 3 i') := by
          funext j
          unfold rowS
          by_cases hj : j < E 3 i'
          · rw [if_pos hj, if_pos hj, set1_off ad (Or.inr (by by_cases hik : i' = k; · subst hik; omega
                                                              · omega))]
          · rw [if_neg hj, if_neg hj]
        simp only [cellC]
        rw [show set1 E 2 k (E 2 k + 1) 3 i' = E 3 i' from rfl, e]
      · by_cases hk6 : k' = 6
        · subst hk6
          have hi : i' < E 0 6 := h
          obtain ⟨g5, _, g2⟩ := h4 i' hi
          have e : fiA (set1 ad 8 (20 * k + E 2 k) q) i' (F 20 i') = fiA ad i' (F 20 i') := by
            unfold fiA
            by_cases hj : F 20 i' = 0
            · rw [if_pos hj, if_pos hj]
            · rw [if_neg hj, if_neg hj, set1_off ad (Or.inr (by by_cases hik : i' = k; · subst hik; omega
                                                                · omega))]
          simp only [cellC]
          rw [show set1 (set1 (set1 F 22 (20 * k + E 2 k) a) 23 (20 * k + E 2 k) b) 24 (20 * k + E 2 k) its 20 i' = F 20 i' from rfl, e]
          rfl
        · unfold cellC
          split <;> first | rfl | exact absurd rfl hk8 | exact absurd rfl hk7 | exact absurd rfl hk6
theorem RC.rowPushc {G : mG} {ad : Nat → Nat → Nat} {N : Nat → Nat} {F : Nat → Nat → Nat} {B : Nat → Int32} {E P Q : Nat → Nat → Nat} {M : Mem} (R : RC G ad N F B E P Q M) {j n : Nat} (h : j < E 0 6) (hn : E 3 j = n) : RC G ad N F B (set1 E 3 j (n + 1)) P Q (mU M (ad 7 j) (.inl (G.2 8, 20, .inr (.inr (.inr (.inr (va_up (rowS ad j (E 3 j)) n (some (ad 8 (20 * j + n)))))))))) := by
  subst hn
  exact R.rowPush h
theorem pay_sell {F : Nat → Nat → Nat} {B : Nat → Int32} {k z its : Nat} (h : ¬ F 17 k = 0) (hne : ¬ F 17 k = z + 1) : payS B (z + 1) (F 17 k - 1 + 1) its = bSell F B k z its := by
  have h1 : ¬ F 17 k - 1 = z := by omega
  have h2 : ¬ z = F 17 k - 1 := fun e => h1 e.symm
  unfold payS bSell
  rw [if_neg (by omega)]
  funext q
  by_cases ha : q = z
  · subst ha; simp [upd, h1, h2]
  · by_cases hb : q = F 17 k - 1
    · subst hb; simp [upd, h1, h2]
    · simp [upd, ha, hb]
set_option maxHeartbeats 4000000 in
set_option maxRecDepth 100000 in
theorem c_X5_sellTo (l : Launch) (G : mG) (ad : Nat → Nat → Nat) (N : Nat → Nat) (F : Nat → Nat → Nat) (B : Nat → Int32) (E P Q : Nat → Nat → Nat) (M : Mem) (R : RC G ad N F B E P Q M) (k : Nat) (z : Nat) (its : Nat) (hk : k < E 0 6) (hz : z < E 0 1) (h17 : ¬ F 17 k = 0) (h17b : F 17 k ≤ E 0 1) (hne : ¬ F 17 k = z + 1) (hE2 : E 2 k = F 21 k) (hE3 : E 3 k = F 21 k) (hE4 : E 4 k = F 21 k) (h20 : F 21 k < 20) (h4 : ∀ i, i < E 0 6 → F 20 i ≤ E 2 i ∧ E 3 i ≤ E 2 i ∧ E 2 i ≤ 20) (h2 : ∀ i, F 2 i < 2 ^ 31) : mMet l yX5_sellTo cX5_sellTo 5 (some FieldType.boolean) ({ frames := 2, cells := 1, slots := 3, locals := 40 } : Room) G [.ref (ad 6 (k)), .ref (ad 1 (z)), .int (nI (its))] M (fun r M' => r = some (.int (bI (faithS F k z))) ∧ ∃ ad', ad' 0 0 = ad 0 0 ∧ RC G ad' N (fSell F k z its) (bSell F B k z its) (sE E k (F 21 k + 1)) P Q M') := by
  refine mMet.of (by decide) (Nat.le_of_ble_eq_true rfl) ?_
  intro p e s m args below meth c A ls X hr hlocks hname hM hl
  have hl : lv_has ls 5 [(0, .ref (ad 6 (k))), (1, .ref (ad 1 (z))), (2, .int (nI (its)))] := hl
  refine lv_aload_n X.1 X.2.1 dX5_sellTo_0 rfl (lv_at hl 0 rfl) ?_
  refine m_callV X hM ck_X5_48 ki_X5_isSoldOften ks_X5_isSoldOften (ci := 6) rfl dX5_sellTo_1 (As := []) (c_X5_isSoldOften l G ad N F B E P Q _ R k (show _ < E 0 6 by omega) (show E 4 k < 2 ^ 31 by omega)) (R.1 6 (k) (show k < E 0 6 by omega)) rfl hl rfl (Nat.le_of_ble_eq_true rfl) ⟨Nat.le_of_ble_eq_true rfl, Nat.le_of_ble_eq_true rfl⟩ ⟨Nat.le_of_ble_eq_true rfl, Nat.le_of_ble_eq_true rfl⟩ ?_
  rintro _ _ H locs ⟨rfl, rfl⟩ hM
  refine b_bool_eq (tgt := 9) X dX5_sellTo_4 (by decide) (fun c1 => ?_) (fun c1 => ?_)
  · skip
    have c1 := of_decide_eq_false c1
    refine mg_new X hM (ci := 4) tyX3 tyX3_ok rfl kwX3 kcl_X5_9 kinst_X3 kini_X3 (fs := [.null, .null, .int (0)]) (by decide) dX5_sellTo_9 (Nat.le_of_ble_eq_true rfl) (Nat.le_of_ble_eq_true rfl) (fun a2 H hn3 hM => ?_)
    have hq4 := R.new hn3
    obtain ⟨M, hc5, hM, R⟩ : ∃ M2, M2 a2 = some (.inr (4, [.null, .null, .int (0)])) ∧ mW G A s.heap M2 H locs ∧ RC G ad N F B E P Q M2 := ⟨_, mU_eq _ _ _, hM, R.off hq4 _⟩
    refine lv_dup X.1 X.2.1 dX5_sellTo_12 rfl ?_
    refine lv_aload_n X.1 X.2.1 dX5_sellTo_13 rfl (lv_at hl 0 rfl) ?_
    refine mg_get X hM (ci := 6) (k := 7) rfl kwX5 (by decide) kf_X5_32 dX5_sellTo_14 (R.1 6 (k) (show k < E 0 6 by omega)) (v := va_rf (opA ad (F 17 (k)))) rfl ?_
    refine lv_topv (y := .ref (ad 1 (F 17 (k) - 1))) (by unfold opA; rw [if_neg h17]; rfl) ?_
    refine lv_aload_n X.1 X.2.1 dX5_sellTo_17 rfl (lv_at hl 1 rfl) ?_
    refine lv_iload_n X.1 X.2.1 dX5_sellTo_18 rfl (lv_at hl 2 rfl) ?_
    refine m_callIN X hM ckN_X5_52 ki_X3_init rfl dX5_sellTo_19 (b := a2) (As := [.ref (ad 1 (F 17 (k) - 1)), .ref (ad 1 (z)), .int (nI (its))]) (c_X3_init l G _ a2 (ad 1 (F 17 (k) - 1)) (ad 1 (z)) its hc5) rfl hl rfl (Nat.le_of_ble_eq_true rfl) ⟨Nat.le_of_ble_eq_true rfl, Nat.le_of_ble_eq_true rfl⟩ ⟨Nat.le_of_ble_eq_true rfl, Nat.le_of_ble_eq_true rfl⟩ ?_
    rintro _ _ H locs ⟨rfl, rfl⟩ hM
    obtain ⟨M, hc5, hM, R⟩ : ∃ M2, M2 a2 = some (.inr (4, [.ref (ad 1 (F 17 (k) - 1)), .ref (ad 1 (z)), .int (nI (its))])) ∧ mW G A s.heap M2 H locs ∧ RC G ad N F B E P Q M2 := ⟨_, mU_eq _ _ _, hM, R.off hq4 _⟩
    refine lv_astore_n (lv' := [(3, .ref a2), (0, .ref (ad 6 (k))), (1, .ref (ad 1 (z))), (2, .int (nI (its)))]) X.1 X.2.1 dX5_sellTo_22 rfl hl (by decide) rfl (fun ls hl => ?_)
    obtain ⟨ad, e0, e6, e1, ea, R⟩ : ∃ ad2 : Nat → Nat → Nat, ad 0 0 = ad2 0 0 ∧ ad 6 k = ad2 6 k ∧ ad 1 z = ad2 1 z ∧ a2 = ad2 8 (20 * k + F 21 k) ∧ RC G ad2 N (set1 (set1 (set1 F 22 (20 * k + F 21 k) (F 17 k - 1)) 23 (20 * k + F 21 k) (z)) 24 (20 * k + F 21 k) (its)) B (set1 E 2 (k) (F 21 k + 1)) P Q M := ⟨set1 ad 8 (20 * k + F 21 k) a2, rfl, rfl, rfl, (set1_at _ _ _ _).symm, R.sale hk hq4 hc5 (show E 2 k = F 21 k by omega) h20 h4⟩
    have hl : lv_has ls 5 [(3, .ref (ad 8 (20 * k + F 21 k))), (0, .ref (ad 6 (k))), (1, .ref (ad 1 (z))), (2, .int (nI (its)))] := by rw [e6, e1, ea] at hl; exact hl
    have f22 : (set1 (set1 (set1 F 22 (20 * k + F 21 k) (F 17 k - 1)) 23 (20 * k + F 21 k) (z)) 24 (20 * k + F 21 k) (its)) 22 (20 * k + F 21 k) = F 17 k - 1 := by simp [set1, va_up]
    have f23 : (set1 (set1 (set1 F 22 (20 * k + F 21 k) (F 17 k - 1)) 23 (20 * k + F 21 k) (z)) 24 (20 * k + F 21 k) (its)) 23 (20 * k + F 21 k) = z := by simp [set1, va_up]
    refine lv_aload_n X.1 X.2.1 dX5_sellTo_23 rfl (lv_at hl 0 rfl) ?_
    refine m_callVN X hM ckN_X5_55 ki_X3_isInFaithNow ks_X3_isInFaithNow (ci := 4) rfl dX5_sellTo_24 (As := []) (c_X3_isInFaithNow l G ad N (set1 (set1 (set1 F 22 (20 * k + F 21 k) (F 17 k - 1)) 23 (20 * k + F 21 k) (z)) 24 (20 * k + F 21 k) (its)) B (set1 E 2 (k) (F 21 k + 1)) P Q _ R k (F 21 k) (show _ < E 0 6 by omega) (by simp [set1, va_up]) (by omega) (by rw [f22]; exact (show F 17 k - 1 < E 0 1 by omega)) (by rw [f23]; exact (show z < E 0 1 by omega)) (by rw [f22]; exact h2 _) (by rw [f23]; exact h2 _)) (R.1 8 (20 * k + F 21 k) (live8 (k := k) (j := F 21 k) (show _ < E 0 6 by omega) (by simp [set1, va_up]) (by omega))) rfl hl rfl (Nat.le_of_ble_eq_true rfl) ⟨Nat.le_of_ble_eq_true rfl, Nat.le_of_ble_eq_true rfl⟩ ⟨Nat.le_of_ble_eq_true rfl, Nat.le_of_ble_eq_true rfl⟩ ?_
    rintro _ _ H locs ⟨rfl, rfl⟩ hM
    refine lv_top (y := bI (faithS F k z)) (by rw [f22, f23]; rfl) ?_
    refine lv_istore (lv' := [(4, .int (bI (faithS F k z))), (3, .ref (ad 8 (20 * k + F 21 k))), (0, .ref (ad 6 (k))), (1, .ref (ad 1 (z))), (2, .int (nI (its)))]) X.1 X.2.1 dX5_sellTo_27 hl (by decide) rfl (fun ls hl => ?_)
    refine lv_iload X.1 X.2.1 dX5_sellTo_29 (lv_at hl 0 rfl) ?_
    refine b_bool_eq (tgt := 46) X dX5_sellTo_31 (by decide) (fun c6 => ?_) (fun c6 => ?_)
    · skip
      have R : RC G ad N (set1 (set1 (set1 (set1 F 22 (20 * k + F 21 k) (F 17 k - 1)) 23 (20 * k + F 21 k) (z)) 24 (20 * k + F 21 k) (its)) 20 (k) (F 20 k)) B (set1 E 2 (k) (F 21 k + 1)) P Q M := by rw [show (set1 (set1 (set1 (set1 F 22 (20 * k + F 21 k) (F 17 k - 1)) 23 (20 * k + F 21 k) (z)) 24 (20 * k + F 21 k) (its)) 20 (k) (F 20 k)) = (set1 (set1 (set1 F 22 (20 * k + F 21 k) (F 17 k - 1)) 23 (20 * k + F 21 k) (z)) 24 (20 * k + F 21 k) (its)) from set1_self _ 20 k]; exact R
      refine lv_aload_n X.1 X.2.1 dX5_sellTo_46 rfl (lv_at hl 2 rfl) ?_
      refine mg_get X hM (ci := 6) (k := 3) rfl kwX5 (by decide) kf_X5_11 dX5_sellTo_47 (R.1 6 (k) (show k < E 0 6 by omega)) (v := .ref (ad 7 (k))) rfl ?_
      refine lv_aload_n X.1 X.2.1 dX5_sellTo_50 rfl (lv_at hl 2 rfl) ?_
      refine mg_get X hM (ci := 6) (k := 4) rfl kwX5 (by decide) kf_X5_39 dX5_sellTo_51 (R.1 6 (k) (show k < E 0 6 by omega)) (v := .int (nI (E 4 (k)))) rfl ?_
      refine lv_top (y := nI (F 21 k)) (by rw [hE4]) ?_
      refine lv_aload_n X.1 X.2.1 dX5_sellTo_54 rfl (lv_at hl 1 rfl) ?_
      refine mx_aast X hM 8 (ci := 4) rfl rfl dX5_sellTo_55 (R.1 7 (k) (show k < E 0 6 by omega)) (R.1 8 (20 * k + F 21 k) (live8 (k := k) (j := F 21 k) (show _ < E 0 6 by omega) (by simp [set1, va_up]) (by omega))) (i := F 21 k) (by omega) (by decide) (fun H locs hM => ?_)
      obtain ⟨M, hM, R⟩ : ∃ M2, mW G A s.heap M2 H locs ∧ RC G ad N (set1 (set1 (set1 (set1 F 22 (20 * k + F 21 k) (F 17 k - 1)) 23 (20 * k + F 21 k) (z)) 24 (20 * k + F 21 k) (its)) 20 (k) (F 20 k)) B (set1 (set1 E 2 (k) (F 21 k + 1)) 3 (k) (F 21 k + 1)) P Q M2 := ⟨_, hM, R.rowPushc (n := F 21 k) (show k < E 0 6 by omega) (by first | assumption | omega)⟩
      refine lv_aload_n X.1 X.2.1 dX5_sellTo_56 rfl (lv_at hl 2 rfl) ?_
      refine lv_dup X.1 X.2.1 dX5_sellTo_57 rfl ?_
      refine mg_get X hM (ci := 6) (k := 4) rfl kwX5 (by decide) kf_X5_39 dX5_sellTo_58 (R.1 6 (k) (show k < E 0 6 by omega)) (v := .int (nI (E 4 (k)))) rfl ?_
      refine lv_top (y := nI (F 21 k)) (by rw [hE4]) ?_
      refine lv_iconst (v := nI (1)) X.1 X.2.1 dX5_sellTo_61 (by decide) ?_
      refine lv_iadd X.1 X.2.1 dX5_sellTo_62 ?_
      refine lv_top (y := nI (F 21 k + 1)) (nI_add _ _) ?_
      refine mg_put X hM tyX5 tyX5_ok nmX5 (ci := 6) (k := 4) rfl kwX5 (by decide) kf_X5_39 rfl dX5_sellTo_63 (R.1 6 (k) (show k < E 0 6 by omega)) rfl rfl (Nat.le_of_ble_eq_true rfl) (fun H locs hM => ?_)
      obtain ⟨M, hM, R⟩ : ∃ M2, mW G A s.heap M2 H locs ∧ RC G ad N (set1 (set1 (set1 (set1 F 22 (20 * k + F 21 k) (F 17 k - 1)) 23 (20 * k + F 21 k) (z)) 24 (20 * k + F 21 k) (its)) 20 (k) (F 20 k)) B (set1 (set1 (set1 E 2 (k) (F 21 k + 1)) 3 (k) (F 21 k + 1)) 4 (k) (F 21 k + 1)) P Q M2 := ⟨_, hM, R.count (show k < E 0 6 by omega) (F 21 k + 1)⟩
      refine lv_aload_n X.1 X.2.1 dX5_sellTo_66 rfl (lv_at hl 3 rfl) ?_
      refine lv_aload_n X.1 X.2.1 dX5_sellTo_67 rfl (lv_at hl 2 rfl) ?_
      refine mg_get X hM (ci := 6) (k := 7) rfl kwX5 (by decide) kf_X5_32 dX5_sellTo_68 (R.1 6 (k) (show k < E 0 6 by omega)) (v := va_rf (opA ad (F 17 (k)))) rfl ?_
      refine lv_topv (y := .ref (ad 1 (F 17 (k) - 1))) (by unfold opA; rw [if_neg h17]; rfl) ?_
      refine lv_iload_n X.1 X.2.1 dX5_sellTo_71 rfl (lv_at hl 4 rfl) ?_
      refine m_callS X hM ck_X5_58 kst_X5_pay dX5_sellTo_72 (As := [va_rf (opA ad (z + 1)), va_rf (opA ad (F 17 (k) - 1 + 1)), .int (nI (its))]) (c_X5_pay l G ad N (set1 (set1 (set1 (set1 F 22 (20 * k + F 21 k) (F 17 k - 1)) 23 (20 * k + F 21 k) (z)) 24 (20 * k + F 21 k) (its)) 20 (k) (F 20 k)) B (set1 (set1 (set1 E 2 (k) (F 21 k + 1)) 3 (k) (F 21 k + 1)) 4 (k) (F 21 k + 1)) P Q _ R (z + 1) (F 17 (k) - 1 + 1) its (show _ ≤ E 0 1 by omega) (show _ ≤ E 0 1 by omega)) rfl hl rfl (Nat.le_of_ble_eq_true rfl) ⟨Nat.le_of_ble_eq_true rfl, Nat.le_of_ble_eq_true rfl⟩ ⟨Nat.le_of_ble_eq_true rfl, Nat.le_of_ble_eq_true rfl⟩ ?_
      rintro _ M H locs ⟨rfl, R⟩ hM
      have R := R.f21 k (F 21 k + 1)
      refine lv_aload_n X.1 X.2.1 dX5_sellTo_75 rfl (lv_at hl 2 rfl) ?_
      refine lv_aload_n X.1 X.2.1 dX5_sellTo_76 rfl (lv_at hl 3 rfl) ?_
      refine lv_topv (y := va_rf (opA ad (z + 1))) (by rw [opA_suc]; rfl) ?_
      refine mg_put X hM tyX5 tyX5_ok nmX5 (ci := 6) (k := 7) rfl kwX5 (by decide) kf_X5_32 rfl dX5_sellTo_77 (R.1 6 (k) (show k < E 0 6 by omega)) (nar_rf _ _) (fit_rf _ _) (Nat.le_of_ble_eq_true rfl) (fun H locs hM => ?_)
      obtain ⟨M, hM, R⟩ : ∃ M2, mW G A s.heap M2 H locs ∧ RC G ad N (set1 (set1 (set1 (set1 (set1 (set1 F 22 (20 * k + F 21 k) (F 17 k - 1)) 23 (20 * k + F 21 k) (z)) 24 (20 * k + F 21 k) (its)) 20 (k) (F 20 k)) 21 (k) (F 21 k + 1)) 17 (k) (z + 1)) (payS B (z + 1) (F 17 (k) - 1 + 1) its) (set1 (set1 (set1 E 2 (k) (F 21 k + 1)) 3 (k) (F 21 k + 1)) 4 (k) (F 21 k + 1)) P Q M2 := ⟨_, hM, R.holder (show k < E 0 6 by omega) (z + 1)⟩
      refine lv_aload_n X.1 X.2.1 dX5_sellTo_80 rfl (lv_at hl 2 rfl) ?_
      refine lv_null X.1 X.2.1 dX5_sellTo_81 ?_
      refine lv_topv (y := va_rf (opA ad 0)) rfl ?_
      refine mg_put X hM tyX5 tyX5_ok nmX5 (ci := 6) (k := 8) rfl kwX5 (by decide) kf_X5_42 rfl dX5_sellTo_82 (R.1 6 (k) (show k < E 0 6 by omega)) (nar_rf _ _) (fit_rf _ _) (Nat.le_of_ble_eq_true rfl) (fun H locs hM => ?_)
      obtain ⟨M, hM, R⟩ : ∃ M2, mW G A s.heap M2 H locs ∧ RC G ad N (set1 (set1 (set1 (set1 (set1 (set1 (set1 F 22 (20 * k + F 21 k) (F 17 k - 1)) 23 (20 * k + F 21 k) (z)) 24 (20 * k + F 21 k) (its)) 20 (k) (F 20 k)) 21 (k) (F 21 k + 1)) 17 (k) (z + 1)) 18 (k) (0)) (payS B (z + 1) (F 17 (k) - 1 + 1) its) (set1 (set1 (set1 E 2 (k) (F 21 k + 1)) 3 (k) (F 21 k + 1)) 4 (k) (F 21 k + 1)) P Q M2 := ⟨_, hM, R.borr (show k < E 0 6 by omega) (0)⟩
      refine lv_iload X.1 X.2.1 dX5_sellTo_85 (lv_at hl 0 rfl) ?_
      exact m_zret X hr hlocks hM dX5_sellTo_87 ⟨Nat.le_of_ble_eq_true rfl, Nat.le_of_ble_eq_true rfl⟩ (bI_nar _) (⟨rfl, ad, e0.symm, by rw [← pay_sell h17 hne]; unfold fSell; first | (rw [if_pos ⟨by assumption, by omega⟩]; exact R) | (rw [if_neg (fun y => by first | (rw [show faithS F k z = false by assumption] at y; cases y.1) | (have := y.2; omega))]; exact R)⟩)
    · skip
      refine lv_aload_n X.1 X.2.1 dX5_sellTo_34 rfl (lv_at hl 2 rfl) ?_
      refine mg_get X hM (ci := 6) (k := 5) rfl kwX5 (by decide) kf_X5_35 dX5_sellTo_35 (R.1 6 (k) (show k < E 0 6 by omega)) (v := va_rf (fiA ad (k) (F 20 (k)))) rfl ?_
      by_cases cz7 : F 20 (k) = 0
      · skip
        refine lv_topv (y := .null) (by unfold fiA; rw [if_pos cz7]; rfl) ?_
        refine lv_ifnonnullN X.1 X.2.1 dX5_sellTo_38 ?_
        refine lv_aload_n X.1 X.2.1 dX5_sellTo_41 rfl (lv_at hl 2 rfl) ?_
        refine lv_aload_n X.1 X.2.1 dX5_sellTo_42 rfl (lv_at hl 1 rfl) ?_
        refine lv_topv (y := va_rf (fiA ad (k) (F 21 k + 1))) (by rw [fiA_suc]; rfl) ?_
        refine mg_put X hM tyX5 tyX5_ok nmX5 (ci := 6) (k := 5) rfl kwX5 (by decide) kf_X5_35 rfl dX5_sellTo_43 (R.1 6 (k) (show k < E 0 6 by omega)) (nar_rf _ _) (fit_rf _ _) (Nat.le_of_ble_eq_true rfl) (fun H locs hM => ?_)
        obtain ⟨M, hM, R⟩ : ∃ M2, mW G A s.heap M2 H locs ∧ RC G ad N (set1 (set1 (set1 (set1 F 22 (20 * k + F 21 k) (F 17 k - 1)) 23 (20 * k + F 21 k) (z)) 24 (20 * k + F 21 k) (its)) 20 (k) (F 21 k + 1)) B (set1 E 2 (k) (F 21 k + 1)) P Q M2 := ⟨_, hM, R.fif (show k < E 0 6 by omega) (F 21 k + 1)⟩
        refine lv_aload_n X.1 X.2.1 dX5_sellTo_46 rfl (lv_at hl 2 rfl) ?_
        refine mg_get X hM (ci := 6) (k := 3) rfl kwX5 (by decide) kf_X5_11 dX5_sellTo_47 (R.1 6 (k) (show k < E 0 6 by omega)) (v := .ref (ad 7 (k))) rfl ?_
        refine lv_aload_n X.1 X.2.1 dX5_sellTo_50 rfl (lv_at hl 2 rfl) ?_
        refine mg_get X hM (ci := 6) (k := 4) rfl kwX5 (by decide) kf_X5_39 dX5_sellTo_51 (R.1 6 (k) (show k < E 0 6 by omega)) (v := .int (nI (E 4 (k)))) rfl ?_
        refine lv_top (y := nI (F 21 k)) (by rw [hE4]) ?_
        refine lv_aload_n X.1 X.2.1 dX5_sellTo_54 rfl (lv_at hl 1 rfl) ?_
        refine mx_aast X hM 8 (ci := 4) rfl rfl dX5_sellTo_55 (R.1 7 (k) (show k < E 0 6 by omega)) (R.1 8 (20 * k + F 21 k) (live8 (k := k) (j := F 21 k) (show _ < E 0 6 by omega) (by simp [set1, va_up]) (by omega))) (i := F 21 k) (by omega) (by decide) (fun H locs hM => ?_)
        obtain ⟨M, hM, R⟩ : ∃ M2, mW G A s.heap M2 H locs ∧ RC G ad N (set1 (set1 (set1 (set1 F 22 (20 * k + F 21 k) (F 17 k - 1)) 23 (20 * k + F 21 k) (z)) 24 (20 * k + F 21 k) (its)) 20 (k) (F 21 k + 1)) B (set1 (set1 E 2 (k) (F 21 k + 1)) 3 (k) (F 21 k + 1)) P Q M2 := ⟨_, hM, R.rowPushc (n := F 21 k) (show k < E 0 6 by omega) (by first | assumption | omega)⟩
        refine lv_aload_n X.1 X.2.1 dX5_sellTo_56 rfl (lv_at hl 2 rfl) ?_
        refine lv_dup X.1 X.2.1 dX5_sellTo_57 rfl ?_
        refine mg_get X hM (ci := 6) (k := 4) rfl kwX5 (by decide) kf_X5_39 dX5_sellTo_58 (R.1 6 (k) (show k < E 0 6 by omega)) (v := .int (nI (E 4 (k)))) rfl ?_
        refine lv_top (y := nI (F 21 k)) (by rw [hE4]) ?_
        refine lv_iconst (v := nI (1)) X.1 X.2.1 dX5_sellTo_61 (by decide) ?_
        refine lv_iadd X.1 X.2.1 dX5_sellTo_62 ?_
        refine lv_top (y := nI (F 21 k + 1)) (nI_add _ _) ?_
        refine mg_put X hM tyX5 tyX5_ok nmX5 (ci := 6) (k := 4) rfl kwX5 (by decide) kf_X5_39 rfl dX5_sellTo_63 (R.1 6 (k) (show k < E 0 6 by omega)) rfl rfl (Nat.le_of_ble_eq_true rfl) (fun H locs hM => ?_)
        obtain ⟨M, hM, R⟩ : ∃ M2, mW G A s.heap M2 H locs ∧ RC G ad N (set1 (set1 (set1 (set1 F 22 (20 * k + F 21 k) (F 17 k - 1)) 23 (20 * k + F 21 k) (z)) 24 (20 * k + F 21 k) (its)) 20 (k) (F 21 k + 1)) B (set1 (set1 (set1 E 2 (k) (F 21 k + 1)) 3 (k) (F 21 k + 1)) 4 (k) (F 21 k + 1)) P Q M2 := ⟨_, hM, R.count (show k < E 0 6 by omega) (F 21 k + 1)⟩
        refine lv_aload_n X.1 X.2.1 dX5_sellTo_66 rfl (lv_at hl 3 rfl) ?_
        refine lv_aload_n X.1 X.2.1 dX5_sellTo_67 rfl (lv_at hl 2 rfl) ?_
        refine mg_get X hM (ci := 6) (k := 7) rfl kwX5 (by decide) kf_X5_32 dX5_sellTo_68 (R.1 6 (k) (show k < E 0 6 by omega)) (v := va_rf (opA ad (F 17 (k)))) rfl ?_
        refine lv_topv (y := .ref (ad 1 (F 17 (k) - 1))) (by unfold opA; rw [if_neg h17]; rfl) ?_
        refine lv_iload_n X.1 X.2.1 dX5_sellTo_71 rfl (lv_at hl 4 rfl) ?_
        refine m_callS X hM ck_X5_58 kst_X5_pay dX5_sellTo_72 (As := [va_rf (opA ad (z + 1)), va_rf (opA ad (F 17 (k) - 1 + 1)), .int (nI (its))]) (c_X5_pay l G ad N (set1 (set1 (set1 (set1 F 22 (20 * k + F 21 k) (F 17 k - 1)) 23 (20 * k + F 21 k) (z)) 24 (20 * k + F 21 k) (its)) 20 (k) (F 21 k + 1)) B (set1 (set1 (set1 E 2 (k) (F 21 k + 1)) 3 (k) (F 21 k + 1)) 4 (k) (F 21 k + 1)) P Q _ R (z + 1) (F 17 (k) - 1 + 1) its (show _ ≤ E 0 1 by omega) (show _ ≤ E 0 1 by omega)) rfl hl rfl (Nat.le_of_ble_eq_true rfl) ⟨Nat.le_of_ble_eq_true rfl, Nat.le_of_ble_eq_true rfl⟩ ⟨Nat.le_of_ble_eq_true rfl, Nat.le_of_ble_eq_true rfl⟩ ?_
        rintro _ M H locs ⟨rfl, R⟩ hM
        have R := R.f21 k (F 21 k + 1)
        refine lv_aload_n X.1 X.2.1 dX5_sellTo_75 rfl (lv_at hl 2 rfl) ?_
        refine lv_aload_n X.1 X.2.1 dX5_sellTo_76 rfl (lv_at hl 3 rfl) ?_
        refine lv_topv (y := va_rf (opA ad (z + 1))) (by rw [opA_suc]; rfl) ?_
        refine mg_put X hM tyX5 tyX5_ok nmX5 (ci := 6) (k := 7) rfl kwX5 (by decide) kf_X5_32 rfl dX5_sellTo_77 (R.1 6 (k) (show k < E 0 6 by omega)) (nar_rf _ _) (fit_rf _ _) (Nat.le_of_ble_eq_true rfl) (fun H locs hM => ?_)
        obtain ⟨M, hM, R⟩ : ∃ M2, mW G A s.heap M2 H locs ∧ RC G ad N (set1 (set1 (set1 (set1 (set1 (set1 F 22 (20 * k + F 21 k) (F 17 k - 1)) 23 (20 * k + F 21 k) (z)) 24 (20 * k + F 21 k) (its)) 20 (k) (F 21 k + 1)) 21 (k) (F 21 k + 1)) 17 (k) (z + 1)) (payS B (z + 1) (F 17 (k) - 1 + 1) its) (set1 (set1 (set1 E 2 (k) (F 21 k + 1)) 3 (k) (F 21 k + 1)) 4 (k) (F 21 k + 1)) P Q M2 := ⟨_, hM, R.holder (show k < E 0 6 by omega) (z + 1)⟩
        refine lv_aload_n X.1 X.2.1 dX5_sellTo_80 rfl (lv_at hl 2 rfl) ?_
        refine lv_null X.1 X.2.1 dX5_sellTo_81 ?_
        refine lv_topv (y := va_rf (opA ad 0)) rfl ?_
        refine mg_put X hM tyX5 tyX5_ok nmX5 (ci := 6) (k := 8) rfl kwX5 (by decide) kf_X5_42 rfl dX5_sellTo_82 (R.1 6 (k) (show k < E 0 6 by omega)) (nar_rf _ _) (fit_rf _ _) (Nat.le_of_ble_eq_true rfl) (fun H locs hM => ?_)
        obtain ⟨M, hM, R⟩ : ∃ M2, mW G A s.heap M2 H locs ∧ RC G ad N (set1 (set1 (set1 (set1 (set1 (set1 (set1 F 22 (20 * k + F 21 k) (F 17 k - 1)) 23 (20 * k + F 21 k) (z)) 24 (20 * k + F 21 k) (its)) 20 (k) (F 21 k + 1)) 21 (k) (F 21 k + 1)) 17 (k) (z + 1)) 18 (k) (0)) (payS B (z + 1) (F 17 (k) - 1 + 1) its) (set1 (set1 (set1 E 2 (k) (F 21 k + 1)) 3 (k) (F 21 k + 1)) 4 (k) (F 21 k + 1)) P Q M2 := ⟨_, hM, R.borr (show k < E 0 6 by omega) (0)⟩
        refine lv_iload X.1 X.2.1 dX5_sellTo_85 (lv_at hl 0 rfl) ?_
        exact m_zret X hr hlocks hM dX5_sellTo_87 ⟨Nat.le_of_ble_eq_true rfl, Nat.le_of_ble_eq_true rfl⟩ (bI_nar _) (⟨rfl, ad, e0.symm, by rw [← pay_sell h17 hne]; unfold fSell; first | (rw [if_pos ⟨by assumption, by omega⟩]; exact R) | (rw [if_neg (fun y => by first | (rw [show faithS F k z = false by assumption] at y; cases y.1) | (have := y.2; omega))]; exact R)⟩)
      · skip
        refine lv_topv (y := .ref (ad 8 (20 * k + (F 20 (k) - 1)))) (by unfold fiA; rw [if_neg cz7]; rfl) ?_
        refine lv_ifnonnull (tgt := 46) X.1 X.2.1 dX5_sellTo_38 (by decide) ?_
        have R : RC G ad N (set1 (set1 (set1 (set1 F 22 (20 * k + F 21 k) (F 17 k - 1)) 23 (20 * k + F 21 k) (z)) 24 (20 * k + F 21 k) (its)) 20 (k) (F 20 k)) B (set1 E 2 (k) (F 21 k + 1)) P Q M := by rw [show (set1 (set1 (set1 (set1 F 22 (20 * k + F 21 k) (F 17 k - 1)) 23 (20 * k + F 21 k) (z)) 24 (20 * k + F 21 k) (its)) 20 (k) (F 20 k)) = (set1 (set1 (set1 F 22 (20 * k + F 21 k) (F 17 k - 1)) 23 (20 * k + F 21 k) (z)) 24 (20 * k + F 21 k) (its)) from set1_self _ 20 k]; exact R
        refine lv_aload_n X.1 X.2.1 dX5_sellTo_46 rfl (lv_at hl 2 rfl) ?_
        refine mg_get X hM (ci := 6) (k := 3) rfl kwX5 (by decide) kf_X5_11 dX5_sellTo_47 (R.1 6 (k) (show k < E 0 6 by omega)) (v := .ref (ad 7 (k))) rfl ?_
        refine lv_aload_n X.1 X.2.1 dX5_sellTo_50 rfl (lv_at hl 2 rfl) ?_
        refine mg_get X hM (ci := 6) (k := 4) rfl kwX5 (by decide) kf_X5_39 dX5_sellTo_51 (R.1 6 (k) (show k < E 0 6 by omega)) (v := .int (nI (E 4 (k)))) rfl ?_
        refine lv_top (y := nI (F 21 k)) (by rw [hE4]) ?_
        refine lv_aload_n X.1 X.2.1 dX5_sellTo_54 rfl (lv_at hl 1 rfl) ?_
        refine mx_aast X hM 8 (ci := 4) rfl rfl dX5_sellTo_55 (R.1 7 (k) (show k < E 0 6 by omega)) (R.1 8 (20 * k + F 21 k) (live8 (k := k) (j := F 21 k) (show _ < E 0 6 by omega) (by simp [set1, va_up]) (by omega))) (i := F 21 k) (by omega) (by decide) (fun H locs hM => ?_)
        obtain ⟨M, hM, R⟩ : ∃ M2, mW G A s.heap M2 H locs ∧ RC G ad N (set1 (set1 (set1 (set1 F 22 (20 * k + F 21 k) (F 17 k - 1)) 23 (20 * k + F 21 k) (z)) 24 (20 * k + F 21 k) (its)) 20 (k) (F 20 k)) B (set1 (set1 E 2 (k) (F 21 k + 1)) 3 (k) (F 21 k + 1)) P Q M2 := ⟨_, hM, R.rowPushc (n := F 21 k) (show k < E 0 6 by omega) (by first | assumption | omega)⟩
        refine lv_aload_n X.1 X.2.1 dX5_sellTo_56 rfl (lv_at hl 2 rfl) ?_
        refine lv_dup X.1 X.2.1 dX5_sellTo_57 rfl ?_
        refine mg_get X hM (ci := 6) (k := 4) rfl kwX5 (by decide) kf_X5_39 dX5_sellTo_58 (R.1 6 (k) (show k < E 0 6 by omega)) (v := .int (nI (E 4 (k)))) rfl ?_
        refine lv_top (y := nI (F 21 k)) (by rw [hE4]) ?_
        refine lv_iconst (v := nI (1)) X.1 X.2.1 dX5_sellTo_61 (by decide) ?_
        refine lv_iadd X.1 X.2.1 dX5_sellTo_62 ?_
        refine lv_top (y := nI (F 21 k + 1)) (nI_add _ _) ?_
        refine mg_put X hM tyX5 tyX5_ok nmX5 (ci := 6) (k := 4) rfl kwX5 (by decide) kf_X5_39 rfl dX5_sellTo_63 (R.1 6 (k) (show k < E 0 6 by omega)) rfl rfl (Nat.le_of_ble_eq_true rfl) (fun H locs hM => ?_)
        obtain ⟨M, hM, R⟩ : ∃ M2, mW G A s.heap M2 H locs ∧ RC G ad N (set1 (set1 (set1 (set1 F 22 (20 * k + F 21 k) (F 17 k - 1)) 23 (20 * k + F 21 k) (z)) 24 (20 * k + F 21 k) (its)) 20 (k) (F 20 k)) B (set1 (set1 (set1 E 2 (k) (F 21 k + 1)) 3 (k) (F 21 k + 1)) 4 (k) (F 21 k + 1)) P Q M2 := ⟨_, hM, R.count (show k < E 0 6 by omega) (F 21 k + 1)⟩
        refine lv_aload_n X.1 X.2.1 dX5_sellTo_66 rfl (lv_at hl 3 rfl) ?_
        refine lv_aload_n X.1 X.2.1 dX5_sellTo_67 rfl (lv_at hl 2 rfl) ?_
        refine mg_get X hM (ci := 6) (k := 7) rfl kwX5 (by decide) kf_X5_32 dX5_sellTo_68 (R.1 6 (k) (show k < E 0 6 by omega)) (v := va_rf (opA ad (F 17 (k)))) rfl ?_
        refine lv_topv (y := .ref (ad 1 (F 17 (k) - 1))) (by unfold opA; rw [if_neg h17]; rfl) ?_
        refine lv_iload_n X.1 X.2.1 dX5_sellTo_71 rfl (lv_at hl 4 rfl) ?_
        refine m_callS X hM ck_X5_58 kst_X5_pay dX5_sellTo_72 (As := [va_rf (opA ad (z + 1)), va_rf (opA ad (F 17 (k) - 1 + 1)), .int (nI (its))]) (c_X5_pay l G ad N (set1 (set1 (set1 (set1 F 22 (20 * k + F 21 k) (F 17 k - 1)) 23 (20 * k + F 21 k) (z)) 24 (20 * k + F 21 k) (its)) 20 (k) (F 20 k)) B (set1 (set1 (set1 E 2 (k) (F 21 k + 1)) 3 (k) (F 21 k + 1)) 4 (k) (F 21 k + 1)) P Q _ R (z + 1) (F 17 (k) - 1 + 1) its (show _ ≤ E 0 1 by omega) (show _ ≤ E 0 1 by omega)) rfl hl rfl (Nat.le_of_ble_eq_true rfl) ⟨Nat.le_of_ble_eq_true rfl, Nat.le_of_ble_eq_true rfl⟩ ⟨Nat.le_of_ble_eq_true rfl, Nat.le_of_ble_eq_true rfl⟩ ?_
        rintro _ M H locs ⟨rfl, R⟩ hM
        have R := R.f21 k (F 21 k + 1)
        refine lv_aload_n X.1 X.2.1 dX5_sellTo_75 rfl (lv_at hl 2 rfl) ?_
        refine lv_aload_n X.1 X.2.1 dX5_sellTo_76 rfl (lv_at hl 3 rfl) ?_
        refine lv_topv (y := va_rf (opA ad (z + 1))) (by rw [opA_suc]; rfl) ?_
        refine mg_put X hM tyX5 tyX5_ok nmX5 (ci := 6) (k := 7) rfl kwX5 (by decide) kf_X5_32 rfl dX5_sellTo_77 (R.1 6 (k) (show k < E 0 6 by omega)) (nar_rf _ _) (fit_rf _ _) (Nat.le_of_ble_eq_true rfl) (fun H locs hM => ?_)
        obtain ⟨M, hM, R⟩ : ∃ M2, mW G A s.heap M2 H locs ∧ RC G ad N (set1 (set1 (set1 (set1 (set1 (set1 F 22 (20 * k + F 21 k) (F 17 k - 1)) 23 (20 * k + F 21 k) (z)) 24 (20 * k + F 21 k) (its)) 20 (k) (F 20 k)) 21 (k) (F 21 k + 1)) 17 (k) (z + 1)) (payS B (z + 1) (F 17 (k) - 1 + 1) its) (set1 (set1 (set1 E 2 (k) (F 21 k + 1)) 3 (k) (F 21 k + 1)) 4 (k) (F 21 k + 1)) P Q M2 := ⟨_, hM, R.holder (show k < E 0 6 by omega) (z + 1)⟩
        refine lv_aload_n X.1 X.2.1 dX5_sellTo_80 rfl (lv_at hl 2 rfl) ?_
        refine lv_null X.1 X.2.1 dX5_sellTo_81 ?_
        refine lv_topv (y := va_rf (opA ad 0)) rfl ?_
        refine mg_put X hM tyX5 tyX5_ok nmX5 (ci := 6) (k := 8) rfl kwX5 (by decide) kf_X5_42 rfl dX5_sellTo_82 (R.1 6 (k) (show k < E 0 6 by omega)) (nar_rf _ _) (fit_rf _ _) (Nat.le_of_ble_eq_true rfl) (fun H locs hM => ?_)
        obtain ⟨M, hM, R⟩ : ∃ M2, mW G A s.heap M2 H locs ∧ RC G ad N (set1 (set1 (set1 (set1 (set1 (set1 (set1 F 22 (20 * k + F 21 k) (F 17 k - 1)) 23 (20 * k + F 21 k) (z)) 24 (20 * k + F 21 k) (its)) 20 (k) (F 20 k)) 21 (k) (F 21 k + 1)) 17 (k) (z + 1)) 18 (k) (0)) (payS B (z + 1) (F 17 (k) - 1 + 1) its) (set1 (set1 (set1 E 2 (k) (F 21 k + 1)) 3 (k) (F 21 k + 1)) 4 (k) (F 21 k + 1)) P Q M2 := ⟨_, hM, R.borr (show k < E 0 6 by omega) (0)⟩
        refine lv_iload X.1 X.2.1 dX5_sellTo_85 (lv_at hl 0 rfl) ?_
        exact m_zret X hr hlocks hM dX5_sellTo_87 ⟨Nat.le_of_ble_eq_true rfl, Nat.le_of_ble_eq_true rfl⟩ (bI_nar _) (⟨rfl, ad, e0.symm, by rw [← pay_sell h17 hne]; unfold fSell; first | (rw [if_pos ⟨by assumption, by omega⟩]; exact R) | (rw [if_neg (fun y => by first | (rw [show faithS F k z = false by assumption] at y; cases y.1) | (have := y.2; omega))]; exact R)⟩)
  · skip
    have c1 := of_decide_eq_true c1
    refine lv_iconst (v := nI (0)) X.1 X.2.1 dX5_sellTo_7 (by decide) ?_
    exact m_zret X hr hlocks hM dX5_sellTo_8 ⟨Nat.le_of_ble_eq_true rfl, Nat.le_of_ble_eq_true rfl⟩ (rfl) (by exfalso; omega)
