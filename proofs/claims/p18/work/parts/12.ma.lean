theorem MA.bad {N : Nat → Nat} {F : Nat → Nat → Nat} {B : Nat → Int32} {k c : Nat} {v w : Int32} {N1 : Nat → Nat} {F1 : Nat → Nat → Nat} {B1 : Nat → Int32} (hk : k = c) (hc : c ≠ 0) : MA (some (.int w)) (va_up N 29 c) F B k v N1 F1 B1 N F B := by
  subst hk
  exact ⟨va_up_at _ _ _, ⟨w, rfl, fun h => absurd h hc⟩, fun h => absurd h hc, fun _ => ⟨(SN.rf N).up (Or.inr rfl), SF.rf F, rfl⟩⟩
theorem MA.ok {N N' : Nat → Nat} {F F' : Nat → Nat → Nat} {B B' : Nat → Int32} {k : Nat} {v w : Int32} {N1 : Nat → Nat} {F1 : Nat → Nat → Nat} {B1 : Nat → Int32} (hk : k = 0) (hv : w = v) (h29 : N' 29 = 0) (hN : SN N1 N') (hF : SF F1 F') (hB : B' = B1) : MA (some (.int w)) N' F' B' k v N1 F1 B1 N F B := by
  subst hk
  exact ⟨h29, ⟨w, rfl, fun _ => hv⟩, fun _ => ⟨hN, hF, hB⟩, fun h => absurd rfl h⟩
theorem in_t {x : Int32} {n : Nat} (l : Nat) (h : ((l : Nat) : Int) ≤ x.toInt ∧ x.toInt ≤ ((n : Nat) : Int)) (hn : n + 1 < 2 ^ 31) : ∃ j : Nat, l ≤ j ∧ j ≤ n ∧ x = nI j := by
  obtain ⟨j, hj, rfl⟩ := vp_in_of (x := x) (n := n + 1) (vp_in_iff.mpr ⟨by omega, by omega⟩) hn
  rw [nI_toInt (by omega)] at h
  exact ⟨j, by omega, by omega, rfl⟩
theorem iR_lt {j n : Nat} (h : j < n) (hn : n < 2 ^ 31) : iR (nI j) n = true := by rw [iR_nI (by omega)]; exact decide_eq_true h
theorem set1_at (F : Nat → Nat → Nat) (k i v : Nat) : set1 F k i v k i = v := by simp [set1, va_up]
theorem set1_off (F : Nat → Nat → Nat) {k i v k' i' : Nat} (h : k' ≠ k ∨ i' ≠ i) : set1 F k i v k' i' = F k' i' := by
  unfold set1
  by_cases hk : k' = k
  · subst hk
    have hi : i' ≠ i := by omega
    simp [va_up, hi]
  · simp [va_up, hk]
theorem SF.set {F F' : Nat → Nat → Nat} (h : SF F F') (k i v : Nat) : SF (set1 F k i v) (set1 F' k i v) := fun j h1 h2 h3 => by
  unfold set1
  by_cases hj : j = k
  · subst hj
    rw [va_up_at, va_up_at, h j h1 h2 h3]
  · rw [va_up_off _ _ hj, va_up_off _ _ hj, h j h1 h2 h3]
theorem Iv.set5 {N : Nat → Nat} {F : Nat → Nat → Nat} (h : Iv N F) (r v : Nat) (hv : v ≤ 50) : Iv N (set1 F 5 r v) := by
  refine ⟨h.1, h.2.1, fun q => ?_, h.2.2.2.1, h.2.2.2.2.1, h.2.2.2.2.2⟩
  by_cases hq : q = r
  · subst hq; rw [set1_at]; exact hv
  · rw [set1_off F (Or.inr hq)]; exact h.r q
