theorem Iv.pl {N : Nat → Nat} {F : Nat → Nat → Nat} (h : Iv N F) (h16 : N 1 < 16) : Iv (va_up N 1 (N 1 + 1)) (set1 F 2 (N 1) 0) := by
  have hn := h.n
  refine ⟨⟨show N 1 + 1 ≤ 16 by omega, hn.2.1, hn.2.2.1, hn.2.2.2.1, hn.2.2.2.2⟩, fun p => ?_, h.2.2.1, fun m hm => ?_, fun k hk => ?_, fun k j hk hj => ?_⟩
  · exact (h.set2 (N 1) 0 (by omega)).p p
  · have m9 := h.m (m := m) hm
    exact ⟨show F 7 m < N 1 + 1 by omega, show F 8 m < N 1 + 1 by omega, m9.2.2.1, m9.2.2.2.1, m9.2.2.2.2.1, m9.2.2.2.2.2⟩
  · have k9 := h.k (k := k) hk
    exact ⟨k9.1, k9.2.1, k9.2.2.1, show F 16 k ≤ N 1 + 1 by omega, show F 17 k ≤ N 1 + 1 by omega, show F 18 k ≤ N 1 + 1 by omega, k9.2.2.2.2.2.2.1, k9.2.2.2.2.2.2.2.1, k9.2.2.2.2.2.2.2.2⟩
  · have s9 := h.s (k := k) (j := j) hk hj
    exact ⟨show F 22 (20 * k + j) < N 1 + 1 by omega, show F 23 (20 * k + j) < N 1 + 1 by omega, s9.2.2⟩
theorem Iv.bn {N : Nat → Nat} {F : Nat → Nat → Nat} (h : Iv N F) (p v : Nat) (hv : v ≤ 260000) : Iv N (set1 F 3 p v) := by
  refine ⟨h.1, fun q => ?_, h.2.2.1, h.2.2.2.1, h.2.2.2.2.1, h.2.2.2.2.2⟩
  have a := h.p q
  by_cases hq : q = p
  · subst hq
    exact ⟨a.1, by rw [set1_at]; exact hv⟩
  · exact ⟨a.1, by rw [set1_off F (Or.inr hq)]; exact a.2⟩
theorem Iv.ps {N : Nat → Nat} {F : Nat → Nat → Nat} (h : Iv N F) (v : Nat) (h0 : N 0 ≤ v) (hv : v ≤ 250000) : Iv (va_up N 0 v) F := by
  have hn := h.n
  refine ⟨⟨hn.1, hn.2.1, hn.2.2.1, hn.2.2.2.1, hv⟩, h.2.1, h.2.2.1, fun m hm => ?_, h.2.2.2.2.1, h.2.2.2.2.2⟩
  have m9 := h.m (m := m) hm
  exact ⟨m9.1, m9.2.1, m9.2.2.1, m9.2.2.2.1, show F 10 m ≤ v by omega, m9.2.2.2.2.2⟩
theorem Jv.pl {N : Nat → Nat} {F : Nat → Nat → Nat} {B : Nat → Int32} (h : Jv N F B) : Jv (va_up N 1 (N 1 + 1)) (set1 F 2 (N 1) 0) B :=
  ⟨h.1, fun p hp => h.2.1 p (by have h9 : N 1 + 1 ≤ p := hp; omega), h.2.2⟩
theorem Jv.bn {N : Nat → Nat} {F : Nat → Nat → Nat} {B : Nat → Int32} (h : Jv N F B) {p : Nat} (hp : p < N 1) (v : Nat) : Jv N (set1 F 3 p v) B := by
  refine ⟨h.1, fun q hq => ⟨(h.2.1 q hq).1, ?_⟩, h.2.2⟩
  rw [set1_off F (Or.inr (by omega))]
  exact (h.2.1 q hq).2
