theorem Iv.nd {N : Nat → Nat} {F : Nat → Nat → Nat} {B : Nat → Int32} (hI : Iv N F) (hJ : Jv N F B) (h11 : N 12 < 11) : Iv (nEnd N F) (awS N F 3).2 := by
  have hn := hI.n
  have hw := aw_le N F 3
  have ha := aw_iv hI hJ 3 (Nat.le_refl 3)
  have o := fun j (hj : j ≠ 14 ∧ j ≠ 15 ∧ j ≠ 16 ∧ j ≠ 17 ∧ j ≠ 18 ∧ j ≠ 20 ∧ j ≠ 21) => awS_off N F hj 3
  refine ⟨⟨hn.1, hn.2.1, show N 12 + 1 ≤ 11 by omega, show N 13 + (awS N F 3).1 ≤ 3 * (N 12 + 1) by omega, hn.2.2.2.2⟩, fun p => ?_, fun r => ?_, fun m hm => ?_, fun k hk => ?_, fun k j hk hj => ?_⟩
  · rw [o 2 (by decide), o 3 (by decide)]; exact hI.p p
  · rw [o 5 (by decide)]; exact hI.r r
  · have m9 := hI.m (m := m) hm
    unfold IvM
    rw [o 7 (by decide), o 8 (by decide), o 9 (by decide), o 10 (by decide), o 11 (by decide)]
    exact ⟨m9.1, m9.2.1, m9.2.2.1, m9.2.2.2.1, m9.2.2.2.2.1, show F 11 m ≤ N 12 + 1 by omega⟩
  · have k9 := ha k hk
    have e19 : (awS N F 3).2 19 k ≤ 260000 := by
      rw [o 19 (by decide)]
      by_cases hkn : k < N 13
      · exact (hI.k hkn).2.2.2.2.2.2.1
      · rw [hJ.2.2 k (by omega)]; exact Nat.zero_le _
    exact ⟨k9.1, k9.2.1, k9.2.2.1, k9.2.2.2.1, k9.2.2.2.2.1, k9.2.2.2.2.2.1, e19, k9.2.2.2.2.2.2.1, k9.2.2.2.2.2.2.2.1⟩
  · have k9 := (ha k hk).2.2.2.2.2.2.2.2.2 j hj
    unfold IvS
    rw [o 22 (by decide), o 23 (by decide), o 24 (by decide)]
    exact k9
theorem Jv.nd {N : Nat → Nat} {F : Nat → Nat → Nat} {B : Nat → Int32} (hI : Iv N F) (hJ : Jv N F B) : Jv (nEnd N F) (awS N F 3).2 B := by
  have ha := aw_iv hI hJ 3 (Nat.le_refl 3)
  refine ⟨fun k hk => (ha k hk).2.2.2.2.2.2.2.2.1, fun p hp => ?_, fun k hk => ?_⟩
  · rw [awS_off N F (by decide) 3]; exact hJ.2.1 p hp
  · rw [awS_off N F (by decide) 3]
    have h9 : N 13 + (awS N F 3).1 ≤ k := hk
    exact hJ.2.2 k (by omega)
theorem Jv.mt {N : Nat → Nat} {F : Nat → Nat → Nat} {B : Nat → Int32} (h : Jv N F B) (a b r d s v : Nat) : Jv (va_up N 6 v) (set1 (set1 (set1 (set1 (set1 F 7 (N 6) a) 8 (N 6) b) 9 (N 6) r) 10 (N 6) d) 11 (N 6) s) B := h
theorem Jv.ps {N : Nat → Nat} {F : Nat → Nat → Nat} {B : Nat → Int32} (h : Jv N F B) (v : Nat) : Jv (va_up N 0 v) F B := h
theorem IvJv0 : Iv N0i F0i ∧ Jv N0i F0i B0i := by
  refine ⟨⟨⟨by decide, by decide, by decide, by decide, by decide⟩, fun p => ?_, fun r => ?_, fun m hm => absurd hm (Nat.not_lt_zero m), fun k hk => absurd hk (Nat.not_lt_zero k), fun k j hk _ => absurd hk (Nat.not_lt_zero k)⟩, fun k hk => absurd hk (Nat.not_lt_zero k), fun p _ => ⟨rfl, rfl⟩, fun k _ => rfl⟩
  · exact ⟨show (1 : Nat) ≤ 250001 by decide, show (0 : Nat) ≤ 260000 by decide⟩
  · unfold F0i
    rw [if_neg (by decide)]
    split <;> omega
