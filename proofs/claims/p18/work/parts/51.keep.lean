/-! One call after another: what the class and the reference keep -/
theorem CS.congr {G : mG} {x : Nat} {N N' : Nat → Nat} {F F' : Nat → Nat → Nat} {B : Nat → Int32} {M : Mem} (h : CS G x N F B M) (hN : SN N N') (hF : SF F F') : CS G x N' F' B M := by
  obtain ⟨ad, E, P, Q, hx, R, hE, hT, hP⟩ := h
  have n0 := hN 0 (by decide) (by decide)
  have n1 := hN 1 (by decide) (by decide)
  have n6 := hN 6 (by decide) (by decide)
  have n12 := hN 12 (by decide) (by decide)
  have n13 := hN 13 (by decide) (by decide)
  have f2 := hF 2 (by decide) (by decide) (by decide)
  have f3 := hF 3 (by decide) (by decide) (by decide)
  have f5 := hF 5 (by decide) (by decide) (by decide)
  have f7 := hF 7 (by decide) (by decide) (by decide)
  have f8 := hF 8 (by decide) (by decide) (by decide)
  have f9 := hF 9 (by decide) (by decide) (by decide)
  have f10 := hF 10 (by decide) (by decide) (by decide)
  have f11 := hF 11 (by decide) (by decide) (by decide)
  have f14 := hF 14 (by decide) (by decide) (by decide)
  have f15 := hF 15 (by decide) (by decide) (by decide)
  have f16 := hF 16 (by decide) (by decide) (by decide)
  have f17 := hF 17 (by decide) (by decide) (by decide)
  have f18 := hF 18 (by decide) (by decide) (by decide)
  have f19 := hF 19 (by decide) (by decide) (by decide)
  have f20 := hF 20 (by decide) (by decide) (by decide)
  have f21 := hF 21 (by decide) (by decide) (by decide)
  have f22 := hF 22 (by decide) (by decide) (by decide)
  have f23 := hF 23 (by decide) (by decide) (by decide)
  have f24 := hF 24 (by decide) (by decide) (by decide)
  refine ⟨ad, E, P, Q, hx, R.fits (fun _ _ h => h) (fun k i _ => ?_), ?_, ?_, ?_⟩
  · unfold cellC
    rw [n0, n1, n6, n12, n13, f2, f3, f5, f7, f8, f10, f11, f14, f15, f16, f17, f18, f19, f20, f22, f23, f24]
  · unfold NrE
    rw [n1, n6, n12, n13, f21]
    exact hE
  · have h9 := NrT.congr f9 f10 hT
    unfold NrT at h9 ⊢
    rw [n0, n6]
    exact h9
  · have h9 := NrP.congr f2 f7 f8 f10 f11 hP
    unfold NrP at h9 ⊢
    rw [n6, n12]
    exact h9
theorem Jv.congr {N N' : Nat → Nat} {F F' : Nat → Nat → Nat} {B : Nat → Int32} (h : Jv N F B) (hN : SN N N') (hF : SF F F') : Jv N' F' B := by
  unfold Jv
  rw [hN 1 (by decide) (by decide), hN 13 (by decide) (by decide), hF 17 (by decide) (by decide) (by decide), hF 18 (by decide) (by decide) (by decide), hF 3 (by decide) (by decide) (by decide), hF 19 (by decide) (by decide) (by decide)]
  exact h
