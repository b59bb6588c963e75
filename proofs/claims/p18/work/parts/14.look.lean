/-! the heirs found anew: what a look keeps -/
theorem dec_sh (n : Nat) : nI n + Int32.ofInt (-1) = nI n - 1 := by
  rw [Int32.sub_eq_add_neg]; rfl
theorem add_sh {a b : Nat} (h : 0 < b) : nI a + (nI b - 1) = nI (a + (b - 1)) := by rw [eI_pos h]; exact nI_add _ _
theorem SF.at {F F' : Nat → Nat → Nat} (h : SF F F') (k i : Nat) (hk : k ≠ 25 ∧ k ≠ 26 ∧ k ≠ 27) : F' k i = F k i := by rw [h k hk.1 hk.2.1 hk.2.2]
theorem SF.trans {F1 F2 F3 : Nat → Nat → Nat} (h : SF F1 F2) (q : SF F2 F3) : SF F1 F3 := fun k h1 h2 h3 => (q k h1 h2 h3).trans (h k h1 h2 h3)
theorem SN.trans {F1 F2 F3 : Nat → Nat} (h : SN F1 F2) (q : SN F2 F3) : SN F1 F3 := fun k h1 h2 => (q k h1 h2).trans (h k h1 h2)
theorem SF.sym {F1 F2 : Nat → Nat → Nat} (h : SF F1 F2) : SF F2 F1 := fun k h1 h2 h3 => (h k h1 h2 h3).symm
theorem SN.sym {F1 F2 : Nat → Nat} (h : SN F1 F2) : SN F2 F1 := fun k h1 h2 => (h k h1 h2).symm
theorem Iv.congr {N N' : Nat → Nat} {F F' : Nat → Nat → Nat} (hI : Iv N F) (hN : SN N N') (hF : SF F F') : Iv N' F' := by
  have n0 := hN 0 (by decide) (by decide)
  have n1 := hN 1 (by decide) (by decide)
  have n6 := hN 6 (by decide) (by decide)
  have n12 := hN 12 (by decide) (by decide)
  have n13 := hN 13 (by decide) (by decide)
  have f : ∀ k, k ≠ 25 ∧ k ≠ 26 ∧ k ≠ 27 → F' k = F k := fun k h => hF k h.1 h.2.1 h.2.2
  unfold Iv IvM IvK IvS
  rw [n0, n1, n6, n12, n13, f 2 (by decide), f 3 (by decide), f 5 (by decide), f 7 (by decide), f 8 (by decide), f 9 (by decide), f 10 (by decide), f 11 (by decide), f 14 (by decide), f 15 (by decide), f 16 (by decide), f 17 (by decide), f 18 (by decide), f 19 (by decide), f 20 (by decide), f 21 (by decide), f 22 (by decide), f 23 (by decide), f 24 (by decide)]
  exact hI
theorem goodS_congr {F F' : Nat → Nat → Nat} (h2 : F' 2 = F 2) (h7 : F' 7 = F 7) (h10 : F' 10 = F 10) : goodS F' = goodS F := by
  funext m
  simp only [goodS, h2, h7, h10]
theorem badN_congr {F F' : Nat → Nat → Nat} (h2 : F' 2 = F 2) (h7 : F' 7 = F 7) (h10 : F' 10 = F 10) : badN F' = badN F := by
  funext n
  simp only [badN, goodS_congr h2 h7 h10]
theorem pts_congr {F F' : Nat → Nat → Nat} (h2 : F' 2 = F 2) (h7 : F' 7 = F 7) (h8 : F' 8 = F 8) (h10 : F' 10 = F 10) (h11 : F' 11 = F 11) (s p : Nat) : ptC F' s p = ptC F s p ∧ gmC F' s p = gmC F s p := by
  constructor
  · funext m
    simp only [ptC, goodS_congr h2 h7 h10, h7, h8, h11]
  · funext m
    simp only [gmC, goodS_congr h2 h7 h10, h7, h8, h11]
theorem heirS_congr {N N' : Nat → Nat} {F F' : Nat → Nat → Nat} (n1 : N' 1 = N 1) (n6 : N' 6 = N 6) (h2 : F' 2 = F 2) (h7 : F' 7 = F 7) (h8 : F' 8 = F 8) (h10 : F' 10 = F 10) (h11 : F' 11 = F 11) (s pl : Nat) : heirS N' F' s pl = heirS N F s pl := by
  have e1 : (fun p => pts F' s p (N' 6)) = fun p => pts F s p (N 6) := by
    funext p; rw [pts, (pts_congr h2 h7 h8 h10 h11 s p).1, n6]; rfl
  have e2 : (fun p => gms F' s p (N' 6)) = fun p => gms F s p (N 6) := by
    funext p; rw [gms, (pts_congr h2 h7 h8 h10 h11 s p).2, n6]; rfl
  rw [heirS, heirS, e1, e2, n1]
theorem undoS_congr {F F' : Nat → Nat → Nat} (h22 : F' 22 = F 22) (h23 : F' 23 = F 23) (h24 : F' 24 = F 24) (k : Nat) : ∀ (n : Nat) (B : Nat → Int32), undoS F' k B n = undoS F k B n
  | 0, _ => rfl
  | n + 1, B => by rw [undoS, undoS, undoS_congr h22 h23 h24 k n, h22, h23, h24]
theorem inhF_SF {F F' : Nat → Nat → Nat} (h : SF F F') (k v : Nat) : SF (inhF F k v) (inhF F' k v) := by
  unfold inhF
  rw [h.at 20 k (by decide)]
  split
  · exact (((h.set 21 k 0).set 17 k v).set 18 k 0).set 16 k v
  · exact h.set 16 k v
theorem inhB_SF {F F' : Nat → Nat → Nat} (h : SF F F') (B : Nat → Int32) (k v : Nat) : inhB F' B k v = inhB F B k v := by
  unfold inhB
  rw [undoS_congr (h 22 (by decide) (by decide) (by decide)) (h 23 (by decide) (by decide) (by decide)) (h 24 (by decide) (by decide) (by decide)), h.at 20 k (by decide), h.at 21 k (by decide), h.at 16 k (by decide), h.at 24 _ (by decide)]
theorem inhF_off (F : Nat → Nat → Nat) (k v : Nat) {j : Nat} (hj : j ≠ 16 ∧ j ≠ 17 ∧ j ≠ 18 ∧ j ≠ 21) : inhF F k v j = F j := by
  unfold inhF
  obtain ⟨h1, h2, h3, h4⟩ := hj
  split
  · funext i
    rw [set1_off _ (Or.inl h1), set1_off _ (Or.inl h3), set1_off _ (Or.inl h2), set1_off _ (Or.inl h4)]
  · funext i
    rw [set1_off _ (Or.inl h1)]
theorem lookS_off (N : Nat → Nat) (F : Nat → Nat → Nat) (B : Nat → Int32) {j : Nat} (hj : j ≠ 16 ∧ j ≠ 17 ∧ j ≠ 18 ∧ j ≠ 21) : ∀ k, (lookS N F B k).1 j = F j
  | 0 => rfl
  | k + 1 => by
    rw [lookS]
    split
    · exact lookS_off N F B hj k
    · show inhF _ _ _ j = F j
      rw [inhF_off _ _ _ hj, lookS_off N F B hj k]
theorem lookS_N {N N' : Nat → Nat} (hN : SN N N') (F : Nat → Nat → Nat) (B : Nat → Int32) : ∀ k, lookS N' F B k = lookS N F B k
  | 0 => rfl
  | k + 1 => by rw [lookS, lookS, lookS_N hN F B k, heirS_congr (hN 1 (by decide) (by decide)) (hN 6 (by decide) (by decide)) rfl rfl rfl rfl rfl]
theorem Iv.inh {N : Nat → Nat} {F : Nat → Nat → Nat} (hI : Iv N F) {k v : Nat} (hk : k < N 13) (hv : v ≤ N 1) : Iv N (inhF F k v) := by
  have e : ∀ j, (j ≠ 16 ∧ j ≠ 17 ∧ j ≠ 18 ∧ j ≠ 21) → inhF F k v j = F j := fun j hj => inhF_off F k v hj
  refine ⟨hI.1, ?_, ?_, ?_, ?_, ?_⟩
  · rw [e 2 (by decide), e 3 (by decide)]; exact hI.2.1
  · rw [e 5 (by decide)]; exact hI.2.2.1
  · unfold IvM
    rw [e 7 (by decide), e 8 (by decide), e 9 (by decide), e 10 (by decide), e 11 (by decide)]; exact hI.2.2.2.1
  · intro k' hk'
    unfold IvK
    rw [e 14 (by decide), e 15 (by decide), e 19 (by decide), e 20 (by decide)]
    obtain ⟨q1, q2, q3, q4, q5, q6, q7, q8, q9⟩ := hI.k hk'
    by_cases hkk : k' = k
    · subst hkk
      unfold inhF
      split
      · rename_i h0
        simp [set1, va_up]
        omega
      · simp [set1, va_up]
        omega
    · have f : ∀ j, inhF F k v j k' = F j k' := by
        intro j
        unfold inhF
        split
        · rw [set1_off _ (Or.inr hkk), set1_off _ (Or.inr hkk), set1_off _ (Or.inr hkk), set1_off _ (Or.inr hkk)]
        · rw [set1_off _ (Or.inr hkk)]
      rw [f 16, f 17, f 18, f 21]
      exact ⟨q1, q2, q3, q4, q5, q6, q7, q8, q9⟩
  · intro k' j hk' hj
    unfold IvS
    rw [e 22 (by decide), e 23 (by decide), e 24 (by decide)]
    refine hI.s hk' ?_
    by_cases hkk : k' = k
    · subst hkk
      unfold inhF at hj
      split at hj
      · simp [set1, va_up] at hj
      · simp [set1, va_up] at hj
        exact hj
    · unfold inhF at hj
      split at hj
      · rw [set1_off _ (Or.inr hkk), set1_off _ (Or.inr hkk), set1_off _ (Or.inr hkk), set1_off _ (Or.inr hkk)] at hj
        exact hj
      · rw [set1_off _ (Or.inr hkk)] at hj
        exact hj
/-- a step of a look, over rows that say the same -/
theorem look_heir {N : Nat → Nat} {F F1 : Nat → Nat → Nat} {B : Nat → Int32} {k : Nat} (h : SF (lookS N F B k).1 F1) (s pl : Nat) : heirS N F1 s pl = heirS N F s pl := by
  have f : ∀ j, (j ≠ 16 ∧ j ≠ 17 ∧ j ≠ 18 ∧ j ≠ 21) → (j ≠ 25 ∧ j ≠ 26 ∧ j ≠ 27) → F1 j = F j := fun j h1 h2 => (h j h2.1 h2.2.1 h2.2.2).trans (lookS_off N F B h1 k)
  exact heirS_congr rfl rfl (f 2 (by decide) (by decide)) (f 7 (by decide) (by decide)) (f 8 (by decide) (by decide)) (f 10 (by decide) (by decide)) (f 11 (by decide) (by decide)) s pl
theorem look_t {N : Nat → Nat} {F F1 : Nat → Nat → Nat} {B B1 : Nat → Int32} {k v : Nat} (h : SF (lookS N F B k).1 F1) (hB : (lookS N F B k).2 = B1) (hv : heirS N F1 (F1 14 k) (F1 15 k) = v) (hne : ¬ v = F1 16 k) : SF (lookS N F B (k + 1)).1 (inhF F1 k v) ∧ (lookS N F B (k + 1)).2 = inhB F1 B1 k v := by
  have e14 : F1 14 k = F 14 k := by rw [h.at 14 k (by decide), lookS_off N F B (by decide)]
  have e15 : F1 15 k = F 15 k := by rw [h.at 15 k (by decide), lookS_off N F B (by decide)]
  rw [look_heir h, e14, e15] at hv
  rw [lookS, hv, if_neg (by rw [← h.at 16 k (by decide)]; exact hne)]
  exact ⟨inhF_SF h k v, by rw [← hB]; exact (inhB_SF h _ k v).symm⟩
theorem look_f {N : Nat → Nat} {F F1 : Nat → Nat → Nat} {B B1 : Nat → Int32} {k v : Nat} (h : SF (lookS N F B k).1 F1) (hB : (lookS N F B k).2 = B1) (hv : heirS N F1 (F1 14 k) (F1 15 k) = v) (hne : v = F1 16 k) : SF (lookS N F B (k + 1)).1 F1 ∧ (lookS N F B (k + 1)).2 = B1 := by
  have e14 : F1 14 k = F 14 k := by rw [h.at 14 k (by decide), lookS_off N F B (by decide)]
  have e15 : F1 15 k = F 15 k := by rw [h.at 15 k (by decide), lookS_off N F B (by decide)]
  rw [look_heir h, e14, e15] at hv
  rw [lookS, hv, if_pos (by rw [← h.at 16 k (by decide)]; exact hne)]
  exact ⟨h, hB⟩
theorem sc2_SF (F : Nat → Nat → Nat) (g q : Nat → Nat) : SF F (sc2 F g q) := (SF.rf F).sc g q
