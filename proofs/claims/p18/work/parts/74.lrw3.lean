theorem cMatch_t {N : Nat → Nat} {F : Nat → Nat → Nat} {a b r : Nat} (h : cMatch N F a b r = true) : N 6 < 100 ∧ F 3 a ≤ N 0 ∧ F 3 b ≤ N 0 ∧ tdy F (N 0) r (N 6) < F 5 r := of_decide_eq_true h
theorem cMatch_m {N : Nat → Nat} {F : Nat → Nat → Nat} {a b r : Nat} (h : N 6 < 100 ∧ F 3 a ≤ N 0 ∧ F 3 b ≤ N 0 ∧ tdy F (N 0) r (N 6) < F 5 r) : cMatch N F a b r = true := decide_eq_true h
theorem cDeal_t {N : Nat → Nat} {F : Nat → Nat → Nat} {k p : Nat} (h : cDeal N F k p = true) : F 17 k ≠ 0 ∧ F 17 k ≠ p + 1 ∧ F 3 (F 17 k - 1) ≤ N 0 ∧ F 3 p ≤ N 0 := of_decide_eq_true h
theorem cDeal_m {N : Nat → Nat} {F : Nat → Nat → Nat} {k p : Nat} (h : F 17 k ≠ 0 ∧ F 17 k ≠ p + 1 ∧ F 3 (F 17 k - 1) ≤ N 0 ∧ F 3 p ≤ N 0) : cDeal N F k p = true := decide_eq_true h
theorem fMatch_n {N : Nat → Nat} {F : Nat → Nat → Nat} {a b r : Nat} (ha : a < 100) (hb : b < 100) (hr : r < 100) : fMatch N F (nI a) (nI b) (nI r) = set1 (set1 (set1 (set1 (set1 F 7 (N 6) a) 8 (N 6) b) 9 (N 6) r) 10 (N 6) (N 0)) 11 (N 6) (N 12) := by
  rw [fMatch, ix_nI (by omega), ix_nI (by omega), ix_nI (by omega)]
theorem tdy_a {F : Nat → Nat → Nat} {d r m v : Nat} (h : tdy F d r m + v = tdy F d r (m + 1)) : nI (tdy F d r m) + nI v = nI (tdy F d r (m + 1)) := by rw [nI_add, h]
theorem faith_t {F : Nat → Nat → Nat} {k p : Nat} (h1 : F 2 (F 17 k - 1) = 0) (h2 : F 2 p = 0) : faithS F k p = true := decide_eq_true ⟨h1, h2⟩
theorem faith_f {F : Nat → Nat → Nat} {k p : Nat} (h : ¬ (F 2 (F 17 k - 1) = 0 ∧ F 2 p = 0)) : faithS F k p = false := decide_eq_false h
/-- what a sale leaves, in the law's order -/
theorem fSell_o {F : Nat → Nat → Nat} {k p pr n0 fv : Nat} (hn : F 21 k = n0) (hf : (if faithS F k p = true ∧ F 20 k = 0 then F 21 k + 1 else F 20 k) = fv) :
    set1 (set1 (set1 (set1 (set1 (set1 (set1 F 22 (20 * k + n0) (F 17 k - 1)) 23 (20 * k + n0) p) 24 (20 * k + n0) pr) 21 k (n0 + 1)) 20 k fv) 17 k (p + 1)) 18 k 0 = fSell F k p pr := by
  subst hn
  unfold fSell
  rw [hf, set1_comm _ (show 21 ≠ 20 by decide)]
theorem LR.whs {N : Nat → Nat} {G : Nat → Nat → Nat} {B : Nat → Int32} {V : Nat → Nat → Int32} (h : LR N G B V) {k c v : Nat} (hc : G 16 k = c) : LR N (set1 (set1 G 17 k v) 18 k 0) B (vS V 4 k (nI (c + 32 * v))) := by
  refine h.wh (fun a i z => ?_) (congrArg nI ?_)
  · by_cases hi : i = k
    · rw [set1_off _ (Or.inl (by omega)), set1_off _ (Or.inl (by omega))]
    · rw [set1_off _ (Or.inr hi), set1_off _ (Or.inr hi)]
  · unfold hvS
    rw [set1_off _ (Or.inl (show 16 ≠ 18 by decide)), set1_off _ (Or.inl (show 16 ≠ 17 by decide)), set1_off _ (Or.inl (show 17 ≠ 18 by decide)), set1_at, set1_at, hc]
    omega
theorem LR.whl {N : Nat → Nat} {F : Nat → Nat → Nat} {B : Nat → Int32} {V : Nat → Nat → Int32} (h : LR N F B V) (hI : Iv N F) {k : Nat} (hk : k < N 13) (v : Nat) : LR N (set1 F 18 k v) B (vS V 4 k (nI (hvS F k % 1024 + 1024 * v))) := by
  have hb := hv_b hI hk
  refine h.wh (fun a i z => ?_) (congrArg nI ?_)
  · by_cases hi : i = k
    · rw [set1_off _ (Or.inl (by omega))]
    · rw [set1_off _ (Or.inr hi)]
  · show _ = set1 F 18 k v 16 k + 32 * set1 F 18 k v 17 k + 1024 * set1 F 18 k v 18 k
    rw [set1_off _ (Or.inl (show 16 ≠ 18 by decide)), set1_off _ (Or.inl (show 17 ≠ 18 by decide)), set1_at]
    omega
