theorem Iv.sl {N : Nat → Nat} {F : Nat → Nat → Nat} (h : Iv N F) {k p its : Nat} (hk : k < N 13) (hp : p < N 1) (h17 : F 17 k ≠ 0) (hi : its ≤ 10000) (h20 : F 21 k < 20) : Iv N (fSell F k p its) := by
  have kk := h.k (k := k) hk
  have e15 : ∀ x, fSell F k p its 17 x = if x = k then p + 1 else F 17 x := fun x => by simp [fSell, set1, va_up]
  have e18 : ∀ x, fSell F k p its 18 x = if x = k then 0 else F 18 x := fun x => by simp [fSell, set1, va_up]
  have e20 : ∀ x, fSell F k p its 20 x = if x = k then (if faithS F k p = true ∧ F 20 k = 0 then F 21 k + 1 else F 20 k) else F 20 x := fun x => by simp [fSell, set1, va_up]
  have e21 : ∀ x, fSell F k p its 21 x = if x = k then F 21 k + 1 else F 21 x := fun x => by simp [fSell, set1, va_up]
  have e22 : ∀ x, fSell F k p its 22 x = if x = 20 * k + F 21 k then F 17 k - 1 else F 22 x := fun x => by simp [fSell, set1, va_up]
  have e23 : ∀ x, fSell F k p its 23 x = if x = 20 * k + F 21 k then p else F 23 x := fun x => by simp [fSell, set1, va_up]
  have e24 : ∀ x, fSell F k p its 24 x = if x = 20 * k + F 21 k then its else F 24 x := fun x => by simp [fSell, set1, va_up]
  refine ⟨h.1, h.2.1, h.2.2.1, h.2.2.2.1, fun k' hk' => ?_, fun k' j hk' hj => ?_⟩
  · have k9 := h.k (k := k') hk'
    refine ⟨k9.1, k9.2.1, k9.2.2.1, k9.2.2.2.1, ?_, ?_, k9.2.2.2.2.2.2.1, ?_, ?_⟩
    · rw [e15]; split <;> omega
    · rw [e18]; split <;> omega
    · rw [e21]; split <;> omega
    · rw [e20, e21]
      by_cases hkk : k' = k
      · rw [if_pos hkk, if_pos hkk]; split <;> omega
      · rw [if_neg hkk, if_neg hkk]; omega
  · rw [e21] at hj
    unfold IvS
    rw [e22, e23, e24]
    by_cases hx : 20 * k' + j = 20 * k + F 21 k
    · rw [if_pos hx, if_pos hx, if_pos hx]
      omega
    · rw [if_neg hx, if_neg hx, if_neg hx]
      by_cases hkk : k' = k
      · subst hkk
        rw [if_pos rfl] at hj
        exact h.s (k := k') (j := j) hk' (by omega)
      · rw [if_neg hkk] at hj
        exact h.s (k := k') (j := j) hk' hj
theorem Jv.sl {N : Nat → Nat} {F : Nat → Nat → Nat} {B : Nat → Int32} (h : Jv N F B) {k p its : Nat} (hp : p < N 1) (h17 : F 17 k - 1 < N 1) : Jv N (fSell F k p its) (bSell F B k p its) := by
  refine ⟨fun k' hk' h0 => ?_, fun q hq => ⟨?_, (h.2.1 q hq).2⟩, h.2.2⟩
  · have e17 : fSell F k p its 17 k' = if k' = k then p + 1 else F 17 k' := by simp [fSell, set1, va_up]
    have e18 : fSell F k p its 18 k' = if k' = k then 0 else F 18 k' := by simp [fSell, set1, va_up]
    rw [e17] at h0
    rw [e18]
    by_cases hkk : k' = k
    · rw [if_pos hkk]
    · rw [if_neg hkk] at h0 ⊢
      exact h.1 k' hk' h0
  · have a1 : q ≠ p := by omega
    have a2 : q ≠ F 17 k - 1 := by omega
    simp only [bSell, upd, if_neg a1, if_neg a2]
    exact (h.2.1 q hq).1
