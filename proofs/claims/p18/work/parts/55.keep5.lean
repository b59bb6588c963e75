theorem payS_off {B : Nat → Int32} {f t amt n q : Nat} (hf : f ≤ n) (ht : t ≤ n) (hq : n ≤ q) : payS B f t amt q = B q := by
  unfold payS
  by_cases h : f = 0 ∨ t = 0
  · rw [if_pos h]
  · rw [if_neg h]
    have a1 : q ≠ f - 1 := by omega
    have a2 : q ≠ t - 1 := by omega
    simp only [upd, if_neg a1, if_neg a2]
theorem undoS_off {F : Nat → Nat → Nat} {k n q : Nat} (hq : n ≤ q) : ∀ (m : Nat) (B : Nat → Int32), (∀ j, j < m → F 22 (20 * k + j) < n ∧ F 23 (20 * k + j) < n) → undoS F k B m q = B q
  | 0, _, _ => rfl
  | m + 1, B, h => by
    have h9 := h m (by omega)
    rw [undoS, undoS_off hq m _ (fun j hj => h j (by omega))]
    exact payS_off (n := n) (by omega) (by omega) hq
theorem Jv.inh {N : Nat → Nat} {F : Nat → Nat → Nat} {B : Nat → Int32} (h : Jv N F B) (hI : Iv N F) {k v : Nat} (hk : k < N 13) (hv : v ≤ N 1) : Jv N (inhF F k v) (inhB F B k v) := by
  have k9 := hI.k hk
  refine ⟨fun k' hk' h0 => ?_, fun q hq => ⟨?_, ?_⟩, fun k' hk' => ?_⟩
  · unfold inhF at h0 ⊢
    by_cases hz : F 20 k = 0
    · rw [if_pos hz] at h0 ⊢
      by_cases hkk : k' = k
      · subst hkk; simp [set1, va_up]
      · have e17 : set1 (set1 (set1 (set1 F 21 k 0) 17 k v) 18 k 0) 16 k v 17 k' = F 17 k' := by simp [set1, va_up, hkk]
        have e18 : set1 (set1 (set1 (set1 F 21 k 0) 17 k v) 18 k 0) 16 k v 18 k' = F 18 k' := by simp [set1, va_up, hkk]
        rw [e17] at h0
        rw [e18]
        exact h.1 k' hk' h0
    · rw [if_neg hz] at h0 ⊢
      exact h.1 k' hk' h0
  · unfold inhB
    by_cases hz : F 20 k = 0
    · rw [if_pos hz, undoS_off hq _ _ (fun j hj => by have s9 := hI.s (k := k) (j := j) hk hj; exact ⟨s9.1, s9.2.1⟩)]
      exact (h.2.1 q hq).1
    · rw [if_neg hz, payS_off (n := N 1) k9.2.2.2.1 hv hq]
      exact (h.2.1 q hq).1
  · rw [inhF_off F k v (by decide)]
    exact (h.2.1 q hq).2
  · rw [inhF_off F k v (by decide)]
    exact h.2.2 k' hk'
theorem Jv.look {N : Nat → Nat} {F : Nat → Nat → Nat} {B : Nat → Int32} (h : Jv N F B) (hI : Iv N F) : ∀ k, k ≤ N 13 → Jv N (lookS N F B k).1 (lookS N F B k).2
  | 0, _ => h
  | k + 1, hk => by
    have ih := Jv.look h hI k (by omega)
    have iI := Iv.look hI B k (by omega)
    rw [lookS]
    by_cases hh : heirS N F (F 14 k) (F 15 k) = (lookS N F B k).1 16 k
    · rw [if_pos hh]; exact ih
    · rw [if_neg hh]; exact ih.inh iI (by omega) (heirS_le _ _ _ _)
theorem Jv.s2 {N : Nat → Nat} {F : Nat → Nat → Nat} {B : Nat → Int32} (h : Jv N F B) (p v : Nat) : Jv N (set1 F 2 p v) B := h
theorem Jv.s5 {N : Nat → Nat} {F : Nat → Nat → Nat} {B : Nat → Int32} (h : Jv N F B) (p v : Nat) : Jv N (set1 F 5 p v) B := h
