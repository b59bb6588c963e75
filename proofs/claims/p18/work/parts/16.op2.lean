theorem Iv.set2 {N : Nat → Nat} {F : Nat → Nat → Nat} (h : Iv N F) (r v : Nat) (hv : v ≤ 250001) : Iv N (set1 F 2 r v) := by
  refine ⟨h.1, fun q => ?_, h.2.2.1, h.2.2.2.1, h.2.2.2.2.1, h.2.2.2.2.2⟩
  by_cases hq : q = r
  · subst hq; rw [set1_at]; exact ⟨hv, (h.p q).2⟩
  · rw [set1_off F (Or.inr hq)]; exact h.p q
theorem Iv.pf {N : Nat → Nat} {F : Nat → Nat → Nat} (h : Iv N F) (p d : Nat) (hd : d ≤ 250000) : Iv N (fProof F p d) := by
  refine h.set2 p _ ?_
  have := h.p p
  split <;> omega
theorem look_bad {N : Nat → Nat} {F F2 : Nat → Nat → Nat} {B : Nat → Int32} {k : Nat} (h : SF (lookS N F B k).1 F2) : badN F2 = badN F := by
  have f : ∀ j, (j ≠ 16 ∧ j ≠ 17 ∧ j ≠ 18 ∧ j ≠ 21) → (j ≠ 25 ∧ j ≠ 26 ∧ j ≠ 27) → F2 j = F j := fun j h1 h2 => (h j h2.1 h2.2.1 h2.2.2).trans (lookS_off N F B h1 k)
  exact badN_congr (f 2 (by decide) (by decide)) (f 7 (by decide) (by decide)) (f 10 (by decide) (by decide))
theorem SN29 (N : Nat → Nat) (v : Nat) : SN N (va_up N 29 v) := (SN.rf N).up (Or.inr rfl)
