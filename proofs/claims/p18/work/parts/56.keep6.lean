theorem aw_iv {N : Nat → Nat} {F : Nat → Nat → Nat} {B : Nat → Int32} (hI : Iv N F) (hJ : Jv N F B) : ∀ n, n ≤ 3 → (∀ k, k < N 13 + (awS N F n).1 → (awS N F n).2 14 k < N 12 + 1 ∧ 1 ≤ (awS N F n).2 15 k ∧ (awS N F n).2 15 k ≤ 3 ∧ (awS N F n).2 16 k ≤ N 1 ∧ (awS N F n).2 17 k ≤ N 1 ∧ (awS N F n).2 18 k ≤ N 1 ∧ (awS N F n).2 21 k ≤ 20 ∧ (awS N F n).2 20 k ≤ (awS N F n).2 21 k ∧ ((awS N F n).2 17 k = 0 → (awS N F n).2 18 k = 0) ∧ ∀ j, j < (awS N F n).2 21 k → F 22 (20 * k + j) < N 1 ∧ F 23 (20 * k + j) < N 1 ∧ F 24 (20 * k + j) ≤ 10000)
  | 0, _ => fun k hk => by
    have k9 := hI.k (k := k) hk
    exact ⟨Nat.lt_succ_of_lt k9.1, k9.2.1, k9.2.2.1, k9.2.2.2.1, k9.2.2.2.2.1, k9.2.2.2.2.2.1, k9.2.2.2.2.2.2.2.1, k9.2.2.2.2.2.2.2.2, hJ.1 k hk, fun j hj => hI.s (k := k) (j := j) hk hj⟩
  | n + 1, hn => fun k hk => by
    have ih := aw_iv hI hJ n (by omega)
    have hh := heirS_le N F (N 12) (n + 1)
    rw [awS] at hk ⊢
    by_cases hz : heirS N F (N 12) (n + 1) = 0
    · rw [if_pos hz] at hk ⊢
      exact ih k hk
    · rw [if_neg hz] at hk ⊢
      have hk9 : k < N 13 + ((awS N F n).1 + 1) := hk
      by_cases hkk : k = N 13 + (awS N F n).1
      · subst hkk
        simp [awF, set1, va_up]
        omega
      · have ih9 := ih k (by omega)
        simp [awF, set1, va_up, hkk]
        exact ih9
