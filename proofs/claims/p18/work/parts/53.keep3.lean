theorem Iv.ln {N : Nat → Nat} {F : Nat → Nat → Nat} (h : Iv N F) {k p d : Nat} (hp : p < N 1) (hd : d ≤ 100) : Iv N (fLend N F k p d) := by
  have hn := h.n
  refine ⟨h.1, h.2.1, h.2.2.1, h.2.2.2.1, fun k' hk' => ?_, h.2.2.2.2.2⟩
  have k9 := h.k (k := k') hk'
  have e18 : fLend N F k p d 18 k' = if k' = k then p + 1 else F 18 k' := by simp [fLend, set1, va_up]
  have e19 : fLend N F k p d 19 k' = if k' = k then N 0 + d - 1 else F 19 k' := by simp [fLend, set1, va_up]
  refine ⟨k9.1, k9.2.1, k9.2.2.1, k9.2.2.2.1, k9.2.2.2.2.1, ?_, ?_, k9.2.2.2.2.2.2.2.1, k9.2.2.2.2.2.2.2.2⟩
  · rw [e18]; split <;> omega
  · rw [e19]; split <;> omega
theorem Jv.ln {N : Nat → Nat} {F : Nat → Nat → Nat} {B : Nat → Int32} (h : Jv N F B) {k p d : Nat} (hk : k < N 13) (h17 : F 17 k ≠ 0) : Jv N (fLend N F k p d) B := by
  refine ⟨fun k' hk' h0 => ?_, h.2.1, fun k' hk' => ?_⟩
  · have e18 : fLend N F k p d 18 k' = if k' = k then p + 1 else F 18 k' := by simp [fLend, set1, va_up]
    have h09 : F 17 k' = 0 := h0
    rw [e18, if_neg (fun z => h17 (by rw [← z]; exact h09))]
    exact h.1 k' hk' h09
  · have e19 : fLend N F k p d 19 k' = if k' = k then N 0 + d - 1 else F 19 k' := by simp [fLend, set1, va_up]
    rw [e19, if_neg (by omega)]
    exact h.2.2 k' hk'
theorem Iv.mt {N : Nat → Nat} {F : Nat → Nat → Nat} (h : Iv N F) {a b r : Nat} (h100 : N 6 < 100) (ha : a < N 1) (hb : b < N 1) (hab : a ≠ b) (hr : r < 4) : Iv (va_up N 6 (N 6 + 1)) (set1 (set1 (set1 (set1 (set1 F 7 (N 6) a) 8 (N 6) b) 9 (N 6) r) 10 (N 6) (N 0)) 11 (N 6) (N 12)) := by
  have hn := h.n
  refine ⟨⟨hn.1, show N 6 + 1 ≤ 100 by omega, hn.2.2.1, hn.2.2.2.1, hn.2.2.2.2⟩, h.2.1, h.2.2.1, fun m hm => ?_, h.2.2.2.2.1, h.2.2.2.2.2⟩
  have hm9 : m < N 6 + 1 := hm
  by_cases hmn : m = N 6
  · subst hmn
    unfold IvM
    simp [set1, va_up]
    omega
  · have m9 := h.m (m := m) (by omega)
    unfold IvM
    simp [set1, va_up, hmn]
    omega
