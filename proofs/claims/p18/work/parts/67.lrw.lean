/-! What the arrays tell behind a write -/
theorem vS_eq (V : Nat → Nat → Int32) (k i : Nat) (w : Int32) : vS V k i w k i = w := by simp [vS, va_up, upd]
theorem vS_ne (V : Nat → Nat → Int32) (k : Nat) {i j : Nat} (w : Int32) (h : j ≠ i) : vS V k i w k j = V k j := by simp [vS, va_up, upd, h]
theorem set1_at2 (F : Nat → Nat → Nat) (k i v j : Nat) (h : j ≠ i) : set1 F k i v k j = F k j := set1_off F (Or.inr h)
section LRW
variable {N : Nat → Nat} {F : Nat → Nat → Nat} {B : Nat → Int32} {V : Nat → Nat → Int32}
theorem LR.wmon (h : LR N F B V) (hn : N 1 ≤ 16) {i : Nat} (hi : i < 16) (w : Int32) : LR N F (upd B i w) (vS V 0 (32 + i) w) := by
  obtain ⟨⟨a1, a2, a3⟩, b, c, d, e1, g, n⟩ := h
  refine ⟨⟨fun j hj => ?_, fun j hj => ?_, fun j hj => ?_⟩, b, c, d, e1, g, n⟩
  · rw [vS_ne _ _ _ (by omega)]; exact a1 j hj
  · rw [vS_ne _ _ _ (by omega)]; exact a2 j hj
  · by_cases hji : j = i
    · subst hji
      rw [vS_eq]; simp [upd]
    · rw [vS_ne _ _ _ (by omega), a3 j hj]; simp [upd, hji]
theorem LR.wh16 (h : LR N F B V) (hI : Iv N F) {k : Nat} (hk : k < N 13) (v : Nat) : LR N (set1 F 16 k v) B (vS V 4 k (nI (hvS F k / 32 * 32 + v))) := by
  obtain ⟨a, b, ⟨c1, c2, c3⟩, d, e1, g, n⟩ := h
  refine ⟨a, b, ⟨c1, fun j hj => ?_, c3⟩, d, e1, g, n⟩
  by_cases hjk : j = k
  · subst hjk
    have h1 := hv_b hI hj
    rw [vS_eq]
    exact congrArg nI (by
      show _ = set1 F 16 j v 16 j + 32 * F 17 j + 1024 * F 18 j
      rw [set1_at]; omega)
  · rw [vS_ne _ _ _ hjk, c2 j hj]
    exact congrArg nI (by
      show _ = set1 F 16 k v 16 j + 32 * F 17 j + 1024 * F 18 j
      rw [set1_at2 _ _ _ _ _ hjk]; rfl)
theorem LR.wn0 (h : LR N F B V) {k : Nat} (hk : k < N 13) (h36 : k < 36) : LR N (set1 F 21 k 0) B (vS V 7 k (nI 0)) := by
  obtain ⟨a, b, c, ⟨d1, d2⟩, e1, g, n6, n⟩ := h
  refine ⟨a, b, c, ⟨d1, fun j hj => ?_⟩, fun j i hj hi => ?_, g, n6, fun j hj => ?_⟩
  · by_cases hjk : j = k
    · subst hjk
      rw [vS_eq, if_pos hk, set1_at]
    · rw [vS_ne _ _ _ hjk, d2 j hj]
      split
      · rw [set1_at2 _ _ _ _ _ hjk]
      · rfl
  · by_cases hjk : j = k
    · subst hjk
      rw [set1_at] at hi; omega
    · rw [set1_at2 _ _ _ _ _ hjk] at hi
      exact e1 j i hj hi
  · by_cases hjk : j = k
    · subst hjk
      rw [set1_at]; omega
    · rw [set1_at2 _ _ _ _ _ hjk]; exact n j hj
theorem inhF_21 (F : Nat → Nat → Nat) {k v : Nat} (h0 : F 20 k = 0) (a i : Nat) (h : ¬ ((a = 16 ∨ a = 17 ∨ a = 18) ∧ i = k)) : inhF F k v a i = set1 (set1 F 16 k v) 21 k 0 a i := by
  rw [inhF, if_pos h0]
  by_cases hi : i = k
  · subst hi
    have h1 : a ≠ 16 ∧ a ≠ 17 ∧ a ≠ 18 := by omega
    rw [set1_off _ (Or.inl h1.1), set1_off _ (Or.inl h1.2.2), set1_off _ (Or.inl h1.2.1)]
    by_cases ha : a = 21
    · subst ha; rw [set1_at, set1_at]
    · rw [set1_off _ (Or.inl ha), set1_off _ (Or.inl ha), set1_off _ (Or.inl h1.1)]
  · rw [set1_off _ (Or.inr hi), set1_off _ (Or.inr hi), set1_off _ (Or.inr hi), set1_off _ (Or.inr hi), set1_off _ (Or.inr hi), set1_off _ (Or.inr hi)]
/-- the heirs, holders and borrowers of one skin written: all else stays -/
theorem LR.wh {F' : Nat → Nat → Nat} (h : LR N F B V) {k : Nat} {w : Int32} (hF : ∀ a i, ¬ ((a = 16 ∨ a = 17 ∨ a = 18) ∧ i = k) → F' a i = F a i) (hw : w = nI (hvS F' k)) : LR N F' B (vS V 4 k w) := by
  obtain ⟨⟨a1, a2, a3⟩, ⟨b1, b2⟩, ⟨c1, c2, c3⟩, ⟨d1, d2⟩, e1, ⟨g0, g1, g2, g3, g4, g5⟩, n6, n⟩ := h
  have f : ∀ a i, a ≠ 16 → a ≠ 17 → a ≠ 18 → F' a i = F a i := fun a i q1 q2 q3 => hF a i (by omega)
  refine ⟨⟨fun j hj => ?_, fun j hj => ?_, a3⟩, ⟨fun j hj => ?_, fun j hj => ?_⟩, ⟨fun j hj => ?_, fun j hj => ?_, fun j hj => ?_⟩, ⟨fun j hj => ?_, fun j hj => ?_⟩, fun j i hj hi => ?_, ⟨g0, g1, g2, g3, g4, fun r hr => ?_⟩, n6, fun j hj => ?_⟩
  · rw [f 2 j (by decide) (by decide) (by decide)]; exact a1 j hj
  · rw [f 3 j (by decide) (by decide) (by decide)]; exact a2 j hj
  · unfold mvS; rw [f 7 j (by decide) (by decide) (by decide), f 8 j (by decide) (by decide) (by decide), f 9 j (by decide) (by decide) (by decide), f 11 j (by decide) (by decide) (by decide)]; exact b1 j hj
  · rw [f 10 j (by decide) (by decide) (by decide)]; exact b2 j hj
  · unfold kvS; rw [f 14 j (by decide) (by decide) (by decide), f 15 j (by decide) (by decide) (by decide)]; exact c1 j hj
  · by_cases hjk : j = k
    · subst hjk
      rw [vS_eq]; exact hw
    · rw [vS_ne _ _ _ hjk, c2 j hj]
      unfold hvS; rw [hF 16 j (by omega), hF 17 j (by omega), hF 18 j (by omega)]
  · rw [f 19 j (by decide) (by decide) (by decide)]; exact c3 j hj
  · rw [f 20 j (by decide) (by decide) (by decide)]; exact d1 j hj
  · rw [f 21 j (by decide) (by decide) (by decide)]; exact d2 j hj
  · rw [f 21 j (by decide) (by decide) (by decide)] at hi
    unfold svS; rw [f 22 _ (by decide) (by decide) (by decide), f 23 _ (by decide) (by decide) (by decide), f 24 _ (by decide) (by decide) (by decide)]; exact e1 j i hj hi
  · rw [f 5 r (by decide) (by decide) (by decide)]; exact g5 r hr
  · rw [f 21 j (by decide) (by decide) (by decide)]; exact n j hj
theorem LR.whe {k v : Nat} (h : LR N (set1 (set1 F 16 k v) 21 k 0) B V) (h0 : F 20 k = 0) : LR N (inhF F k v) B (vS V 4 k (nI (v + 32 * v))) := by
  refine h.wh (inhF_21 F h0) (congrArg nI ?_)
  unfold hvS inhF
  rw [if_pos h0, set1_at, set1_off _ (Or.inl (by decide)), set1_off _ (Or.inl (by decide)), set1_at, set1_off _ (Or.inl (by decide)), set1_at]
  omega
end LRW
/-! a look's step, said of the state itself -/
theorem lk_h {N : Nat → Nat} {F F1 : Nat → Nat → Nat} {B B1 : Nat → Int32} {k : Nat} (h : lookS N F B k = (F1, B1)) : heirS N F (F 14 k) (F 15 k) = heirS N F1 (F1 14 k) (F1 15 k) := by
  have f : ∀ j, (j ≠ 16 ∧ j ≠ 17 ∧ j ≠ 18 ∧ j ≠ 21) → F1 j = F j := fun j hj => by
    have := lookS_off N F B hj k
    rw [h] at this; exact this
  rw [f 14 (by decide), f 15 (by decide)]
  exact (heirS_congr rfl rfl (f 2 (by decide)) (f 7 (by decide)) (f 8 (by decide)) (f 10 (by decide)) (f 11 (by decide)) _ _).symm
theorem lk_eq {N : Nat → Nat} {F F1 : Nat → Nat → Nat} {B B1 : Nat → Int32} {k v : Nat} (h : lookS N F B k = (F1, B1)) (hv : heirS N F1 (F1 14 k) (F1 15 k) = v) (he : v = F1 16 k) : lookS N F B (k + 1) = (F1, B1) := by
  rw [lookS, lk_h h, hv, h, if_pos he]
theorem lk_ne {N : Nat → Nat} {F F1 : Nat → Nat → Nat} {B B1 : Nat → Int32} {k v : Nat} (h : lookS N F B k = (F1, B1)) (hv : heirS N F1 (F1 14 k) (F1 15 k) = v) (he : ¬ v = F1 16 k) : lookS N F B (k + 1) = (inhF F1 k v, inhB F1 B1 k v) := by
  rw [lookS, lk_h h, hv, h, if_neg he]
theorem inh_g {F : Nat → Nat → Nat} {B : Nat → Int32} {k v : Nat} (h0 : ¬ F 20 k = 0) : (inhF F k v, inhB F B k v) = (set1 F 16 k v, payS B (F 16 k) v (F 24 (20 * k + (F 20 k - 1)))) := by
  rw [inhF, inhB, if_neg h0, if_neg h0]
theorem inh_b {F : Nat → Nat → Nat} {B B2 : Nat → Int32} {k v : Nat} (h0 : F 20 k = 0) (hB : undoS F k B2 0 = undoS F k B (F 21 k)) : (inhF F k v, inhB F B k v) = (inhF F k v, B2) := by
  rw [inhB, if_pos h0, ← hB]; rfl
theorem sh_add2 (a v : Nat) : nI a + (nI v - 1) + nI 1 = nI (a + v) := by
  rw [← nI_add, Int32.sub_eq_add_neg, Int32.add_assoc, Int32.add_assoc]
  rw [show (-1 : Int32) + nI 1 = 0 from rfl, Int32.add_zero]
theorem sh_suc (v : Nat) : nI v - 1 + nI 1 = nI v := by
  rw [Int32.sub_eq_add_neg, Int32.add_assoc]
  rw [show (-1 : Int32) + nI 1 = 0 from rfl, Int32.add_zero]
theorem inB_le2 (W : Nat → Nat) (b : Nat) : ∀ j, (inB W b j).2 ≤ j
  | 0 => Nat.le_refl _
  | j + 1 => by
    have := inB_le2 W b j
    rw [inB]
    split
    · exact Nat.le_refl _
    · omega
theorem ouB_le (W : Nat → Nat) (n : Nat) : ∀ k, (ouB W n k).1 ≤ 1000001
  | 0 => Nat.zero_le _
  | k + 1 => by
    have := (inB_sp W (ouB W n k).1 n).2.1
    show (inB W (ouB W n k).1 n).1 + 1 ≤ _
    omega
theorem ouB_le2 (W : Nat → Nat) (n : Nat) : ∀ k, (ouB W n k).2 ≤ n
  | 0 => Nat.zero_le _
  | k + 1 => inB_le2 W (ouB W n k).1 n
