/-! What the arrays tell behind the other writes; what the class says to the law's calls -/
theorem set1_nx {j n : Nat} (h : j ≠ n) (F : Nat → Nat → Nat) (k v k' : Nat) : set1 F k n v k' j = F k' j := set1_off F (Or.inr h)
section LRX
variable {N : Nat → Nat} {F : Nat → Nat → Nat} {B : Nat → Int32} {V : Nat → Nat → Int32}
theorem LR.mt (h : LR N F B V) (h60 : N 6 < 60) {a b r : Nat} :
    LR (va_up N 6 (N 6 + 1)) (set1 (set1 (set1 (set1 (set1 F 7 (N 6) a) 8 (N 6) b) 9 (N 6) r) 10 (N 6) (N 0)) 11 (N 6) (N 12)) B (vS (vS (vS V 1 (N 6) (nI (a + 16 * b + 256 * r + 1024 * N 12))) 2 (N 6) (nI (N 0))) 9 2 (nI (N 6 + 1))) := by
  obtain ⟨a1, ⟨b1, b2⟩, c1, d1, e1, ⟨g0, g1, g2, g3, g4, g5⟩, n6, n⟩ := h
  refine ⟨a1, ⟨fun j hj => ?_, fun j hj => ?_⟩, c1, d1, e1, ⟨?_, ?_, ?_, ?_, ?_, fun q hq => ?_⟩, ?_, n⟩
  · show vS V 1 (N 6) _ 1 j = _
    have hj : j < N 6 + 1 := hj
    by_cases hjn : j = N 6
    · subst hjn
      rw [vS_eq]
      exact congrArg nI (by
        unfold mvS
        rw [set1_at, set1_off _ (Or.inl (by decide)), set1_off _ (Or.inl (by decide)), set1_off _ (Or.inl (by decide)), set1_off _ (Or.inl (by decide)), set1_at, set1_off _ (Or.inl (by decide)), set1_off _ (Or.inl (by decide)), set1_off _ (Or.inl (by decide)), set1_at, set1_off _ (Or.inl (by decide)), set1_off _ (Or.inl (by decide)), set1_at])
    · rw [vS_ne _ _ _ hjn, b1 j (by omega)]
      exact congrArg nI (by
        unfold mvS
        simp only [set1_nx hjn])
  · show vS (vS V 1 (N 6) _) 2 (N 6) _ 2 j = _
    have hj : j < N 6 + 1 := hj
    by_cases hjn : j = N 6
    · subst hjn
      rw [vS_eq, set1_off _ (Or.inl (by decide)), set1_at]
    · rw [vS_ne _ _ _ hjn]
      simp only [set1_nx hjn]
      exact b2 j (by omega)
  · rw [vS_ne _ _ _ (by decide)]; exact g0
  · rw [vS_ne _ _ _ (by decide)]; exact g1
  · rw [vS_eq]; rfl
  · rw [vS_ne _ _ _ (by decide)]; exact g3
  · rw [vS_ne _ _ _ (by decide)]; exact g4
  · rw [vS_ne _ _ _ (by omega)]; exact g5 q hq
  · show N 6 + 1 ≤ 60; omega
theorem LR.sel (h : LR N F B V) {k a b pr n0 : Nat} (hk : k < N 13) (hk5 : k ≤ 5) (h36 : k < 36) (hn0 : F 21 k = n0) (hn : n0 < 10) :
    LR N (set1 (set1 (set1 (set1 F 22 (20 * k + n0) a) 23 (20 * k + n0) b) 24 (20 * k + n0) pr) 21 k (n0 + 1)) B (vS (vS V 8 (10 * k + n0) (nI (a + 16 * b + 256 * pr))) 7 k (nI (n0 + 1))) := by
  obtain ⟨a1, b1, c1, ⟨d1, d2⟩, e1, g, n6, n⟩ := h
  refine ⟨a1, b1, c1, ⟨d1, fun j hj => ?_⟩, fun j i hj hi => ?_, g, n6, fun j hj => ?_⟩
  · by_cases hjk : j = k
    · subst hjk
      rw [vS_eq, if_pos hk, set1_at]
    · rw [vS_ne _ _ _ hjk]
      show V 7 j = _
      rw [d2 j hj]
      split
      · rw [set1_at2 _ _ _ _ _ hjk]; rfl
      · rfl
  · show vS V 8 (10 * k + n0) _ 8 (10 * j + i) = nI (svS _ (20 * j + i))
    have hnj := n j hj
    by_cases hjk : j = k
    · subst hjk
      rw [set1_at] at hi
      by_cases hin : i = n0
      · subst hin
        rw [vS_eq]
        exact congrArg nI (by
          unfold svS
          rw [set1_off _ (Or.inl (by decide)), set1_off _ (Or.inl (by decide)), set1_off _ (Or.inl (by decide)), set1_at, set1_off _ (Or.inl (by decide)), set1_off _ (Or.inl (by decide)), set1_at, set1_off _ (Or.inl (by decide)), set1_at])
      · rw [vS_ne _ _ _ (by omega), e1 j i hj (by omega)]
        exact congrArg nI (by
          unfold svS
          have hne : 20 * j + i ≠ 20 * j + n0 := by omega
          show _ = (set1 (set1 (set1 F 22 (20 * j + n0) a) 23 (20 * j + n0) b) 24 (20 * j + n0) pr) 22 (20 * j + i) + 16 * (set1 (set1 (set1 F 22 (20 * j + n0) a) 23 (20 * j + n0) b) 24 (20 * j + n0) pr) 23 (20 * j + i) + 256 * (set1 (set1 (set1 F 22 (20 * j + n0) a) 23 (20 * j + n0) b) 24 (20 * j + n0) pr) 24 (20 * j + i)
          simp only [set1_nx hne])
    · rw [set1_at2 _ _ _ _ _ hjk] at hi
      have hi : i < F 21 j := hi
      have hne : 20 * j + i ≠ 20 * k + n0 := by omega
      rw [vS_ne _ _ _ (by omega), e1 j i hj hi]
      exact congrArg nI (by
        unfold svS
        show _ = (set1 (set1 (set1 F 22 (20 * k + n0) a) 23 (20 * k + n0) b) 24 (20 * k + n0) pr) 22 (20 * j + i) + 16 * (set1 (set1 (set1 F 22 (20 * k + n0) a) 23 (20 * k + n0) b) 24 (20 * k + n0) pr) 23 (20 * j + i) + 256 * (set1 (set1 (set1 F 22 (20 * k + n0) a) 23 (20 * k + n0) b) 24 (20 * k + n0) pr) 24 (20 * j + i)
        simp only [set1_nx hne])
  · by_cases hjk : j = k
    · subst hjk
      rw [set1_at]; omega
    · rw [set1_at2 _ _ _ _ _ hjk]; exact n j hj
theorem LR.wf (h : LR N F B V) {k : Nat} (hk : k < N 13) (v : Nat) : LR N (set1 F 20 k v) B (vS V 6 k (nI v)) := by
  obtain ⟨a1, b1, c1, ⟨d1, d2⟩, e1, g, n⟩ := h
  refine ⟨a1, b1, c1, ⟨fun j hj => ?_, d2⟩, e1, g, n⟩
  by_cases hjk : j = k
  · subst hjk
    rw [vS_eq, if_pos hk, set1_at]
  · rw [vS_ne _ _ _ hjk, d1 j hj]
    split
    · rw [set1_at2 _ _ _ _ _ hjk]
    · rfl
theorem LR.wu (h : LR N F B V) (k v : Nat) : LR N (set1 F 19 k v) B (vS V 5 k (nI v)) := by
  obtain ⟨a1, b1, ⟨c1, c2, c3⟩, d1, e1, g, n⟩ := h
  refine ⟨a1, b1, ⟨c1, c2, fun j hj => ?_⟩, d1, e1, g, n⟩
  by_cases hjk : j = k
  · subst hjk
    rw [vS_eq, set1_at]
  · rw [vS_ne _ _ _ hjk, set1_at2 _ _ _ _ _ hjk]; exact c3 j hj
theorem LR.wp (h : LR N F B V) (hn : N 1 ≤ 16) {q : Nat} (hq : q < N 1) (v : Nat) : LR N (set1 F 2 q v) B (vS V 0 q (nI v - 1)) := by
  obtain ⟨⟨a1, a2, a3⟩, b1, c1, d1, e1, g, n⟩ := h
  refine ⟨⟨fun j hj => ?_, fun j hj => ?_, fun j hj => ?_⟩, b1, c1, d1, e1, g, n⟩
  · by_cases hjk : j = q
    · subst hjk
      rw [vS_eq, set1_at]
    · rw [vS_ne _ _ _ hjk, set1_at2 _ _ _ _ _ hjk]; exact a1 j hj
  · rw [vS_ne _ _ _ (by omega)]; exact a2 j hj
  · rw [vS_ne _ _ _ (by omega)]; exact a3 j hj
theorem LR.wban (h : LR N F B V) (hn : N 1 ≤ 16) {q : Nat} (hq : q < 16) (v : Nat) : LR N (set1 F 3 q v) B (vS V 0 (16 + q) (nI v)) := by
  obtain ⟨⟨a1, a2, a3⟩, b1, c1, d1, e1, g, n⟩ := h
  refine ⟨⟨fun j hj => ?_, fun j hj => ?_, fun j hj => ?_⟩, b1, c1, d1, e1, g, n⟩
  · rw [vS_ne _ _ _ (by omega)]; exact a1 j hj
  · by_cases hjk : j = q
    · subst hjk
      rw [vS_eq, set1_at]
    · rw [vS_ne _ _ _ (by omega), set1_at2 _ _ _ _ _ hjk]; exact a2 j hj
  · rw [vS_ne _ _ _ (by omega)]; exact a3 j hj
theorem LR.wr (h : LR N F B V) {q : Nat} (hq : q < 4) (v : Nat) : LR N (set1 F 5 q v) B (vS V 9 (5 + q) (nI v)) := by
  obtain ⟨a1, b1, c1, d1, e1, ⟨g0, g1, g2, g3, g4, g5⟩, n⟩ := h
  refine ⟨a1, b1, c1, d1, e1, ⟨?_, ?_, ?_, ?_, ?_, fun r hr => ?_⟩, n⟩
  · rw [vS_ne _ _ _ (by omega)]; exact g0
  · rw [vS_ne _ _ _ (by omega)]; exact g1
  · rw [vS_ne _ _ _ (by omega)]; exact g2
  · rw [vS_ne _ _ _ (by omega)]; exact g3
  · rw [vS_ne _ _ _ (by omega)]; exact g4
  · by_cases hrq : r = q
    · subst hrq
      rw [vS_eq, set1_at]
    · rw [vS_ne _ _ _ (by omega), set1_at2 _ _ _ _ _ hrq]; exact g5 r hr
theorem LR.wday (h : LR N F B V) (v : Nat) : LR (va_up N 0 v) F B (vS V 9 0 (nI v)) := by
  obtain ⟨a1, b1, c1, d1, e1, ⟨g0, g1, g2, g3, g4, g5⟩, n⟩ := h
  refine ⟨a1, b1, c1, d1, e1, ⟨?_, ?_, ?_, ?_, ?_, fun r hr => ?_⟩, n⟩
  · rw [vS_eq]; rfl
  · rw [vS_ne _ _ _ (by omega)]; exact g1
  · rw [vS_ne _ _ _ (by omega)]; exact g2
  · rw [vS_ne _ _ _ (by omega)]; exact g3
  · rw [vS_ne _ _ _ (by omega)]; exact g4
  · rw [vS_ne _ _ _ (by omega)]; exact g5 r hr
theorem LR.wsea (h : LR N F B V) (v : Nat) : LR (va_up N 12 v) F B (vS V 9 3 (nI v)) := by
  obtain ⟨a1, b1, c1, d1, e1, ⟨g0, g1, g2, g3, g4, g5⟩, n⟩ := h
  refine ⟨a1, b1, c1, d1, e1, ⟨?_, ?_, ?_, ?_, ?_, fun r hr => ?_⟩, n⟩
  · rw [vS_ne _ _ _ (by omega)]; exact g0
  · rw [vS_ne _ _ _ (by omega)]; exact g1
  · rw [vS_ne _ _ _ (by omega)]; exact g2
  · rw [vS_eq]; rfl
  · rw [vS_ne _ _ _ (by omega)]; exact g4
  · rw [vS_ne _ _ _ (by omega)]; exact g5 r hr
theorem LR.pl (h : LR N F B V) (hn : N 1 < 16) : LR (va_up N 1 (N 1 + 1)) (set1 F 2 (N 1) 0) B (vS (vS V 0 (N 1) (nI 0 - 1)) 9 1 (nI (N 1 + 1))) := by
  obtain ⟨⟨a1, a2, a3⟩, b1, c1, d1, e1, ⟨g0, g1, g2, g3, g4, g5⟩, n⟩ := h
  refine ⟨⟨fun j hj => ?_, fun j hj => ?_, fun j hj => ?_⟩, b1, c1, d1, e1, ⟨?_, ?_, ?_, ?_, ?_, fun r hr => ?_⟩, n⟩
  · show vS V 0 (N 1) _ 0 j = _
    have hj : j < N 1 + 1 := hj
    by_cases hjk : j = N 1
    · subst hjk
      rw [vS_eq, set1_at]
    · rw [vS_ne _ _ _ hjk, set1_at2 _ _ _ _ _ hjk]; exact a1 j (by omega)
  · show vS V 0 (N 1) _ 0 (16 + j) = _
    rw [vS_ne _ _ _ (by omega)]; exact a2 j hj
  · show vS V 0 (N 1) _ 0 (32 + j) = _
    rw [vS_ne _ _ _ (by omega)]; exact a3 j hj
  · rw [vS_ne _ _ _ (by omega)]; exact g0
  · rw [vS_eq]; rfl
  · rw [vS_ne _ _ _ (by omega)]; exact g2
  · rw [vS_ne _ _ _ (by omega)]; exact g3
  · rw [vS_ne _ _ _ (by omega)]; exact g4
  · rw [vS_ne _ _ _ (by omega)]; exact g5 r hr
theorem awF_off (F : Nat → Nat → Nat) (k s pl v : Nat) {a i : Nat} (h : i ≠ k ∨ (a ≠ 14 ∧ a ≠ 15 ∧ a ≠ 16 ∧ a ≠ 17 ∧ a ≠ 18 ∧ a ≠ 20 ∧ a ≠ 21)) : awF F k s pl v a i = F a i := by
  unfold awF
  rw [set1_off _ (by omega), set1_off _ (by omega), set1_off _ (by omega), set1_off _ (by omega), set1_off _ (by omega), set1_off _ (by omega), set1_off _ (by omega)]
theorem awF_at (F : Nat → Nat → Nat) (k s pl v : Nat) : awF F k s pl v 14 k = s ∧ awF F k s pl v 15 k = pl ∧ awF F k s pl v 16 k = v ∧ awF F k s pl v 17 k = v ∧ awF F k s pl v 18 k = 0 ∧ awF F k s pl v 20 k = 0 ∧ awF F k s pl v 21 k = 0 := by
  simp [awF, set1, va_up]
theorem LR.aw (h : LR N F B V) (h13 : N 13 < 36) {v pl : Nat} : LR (va_up N 13 (N 13 + 1)) (awF F (N 13) (N 12) pl v) B (vS (vS (vS V 3 (N 13) (nI (N 12 + 16 * pl))) 4 (N 13) (nI (v + 32 * v))) 9 4 (nI (N 13 + 1))) := by
  obtain ⟨⟨a1, a2, a3⟩, ⟨b1, b2⟩, ⟨c1, c2, c3⟩, ⟨d1, d2⟩, e1, ⟨g0, g1, g2, g3, g4, g5⟩, n6, n⟩ := h
  have o : ∀ {a i : Nat}, (i ≠ N 13 ∨ (a ≠ 14 ∧ a ≠ 15 ∧ a ≠ 16 ∧ a ≠ 17 ∧ a ≠ 18 ∧ a ≠ 20 ∧ a ≠ 21)) → awF F (N 13) (N 12) pl v a i = F a i := fun z => awF_off F _ _ _ _ z
  obtain ⟨w1, w2, w3, w4, w5, w6, w7⟩ := awF_at F (N 13) (N 12) pl v
  refine ⟨⟨fun j hj => ?_, fun j hj => ?_, a3⟩, ⟨fun j hj => ?_, fun j hj => ?_⟩, ⟨fun j hj => ?_, fun j hj => ?_, fun j hj => ?_⟩, ⟨fun j hj => ?_, fun j hj => ?_⟩, fun j i hj hi => ?_, ⟨?_, ?_, ?_, ?_, ?_, fun r hr => ?_⟩, n6, fun j hj => ?_⟩
  · rw [o (Or.inr (by decide))]; exact a1 j hj
  · rw [o (Or.inr (by decide))]; exact a2 j hj
  · unfold mvS
    rw [o (Or.inr (by decide)), o (Or.inr (by decide)), o (Or.inr (by decide)), o (Or.inr (by decide))]; exact b1 j hj
  · rw [o (Or.inr (by decide))]; exact b2 j hj
  · show vS V 3 (N 13) _ 3 j = _
    have hj : j < N 13 + 1 := hj
    by_cases hjn : j = N 13
    · subst hjn
      rw [vS_eq]
      exact congrArg nI (by unfold kvS; rw [w1, w2])
    · rw [vS_ne _ _ _ hjn, c1 j (by omega)]
      exact congrArg nI (by unfold kvS; rw [o (Or.inl hjn), o (Or.inl hjn)])
  · show vS (vS V 3 (N 13) _) 4 (N 13) _ 4 j = _
    have hj : j < N 13 + 1 := hj
    by_cases hjn : j = N 13
    · subst hjn
      rw [vS_eq]
      exact congrArg nI (by unfold hvS; rw [w3, w4, w5]; omega)
    · rw [vS_ne _ _ _ hjn]
      show V 4 j = _
      rw [c2 j (by omega)]
      exact congrArg nI (by unfold hvS; rw [o (Or.inl hjn), o (Or.inl hjn), o (Or.inl hjn)])
  · rw [o (Or.inr (by decide))]; exact c3 j hj
  · show V 6 j = nI (if j < N 13 + 1 then awF F (N 13) (N 12) pl v 20 j else 0)
    rw [d1 j hj]
    by_cases hjn : j = N 13
    · subst hjn
      rw [if_neg (by omega), if_pos (by omega), w6]
    · rw [o (Or.inl hjn)]
      by_cases hlt : j < N 13
      · rw [if_pos hlt, if_pos (by omega)]
      · rw [if_neg hlt, if_neg (by omega)]
  · show V 7 j = nI (if j < N 13 + 1 then awF F (N 13) (N 12) pl v 21 j else 0)
    rw [d2 j hj]
    by_cases hjn : j = N 13
    · subst hjn
      rw [if_neg (by omega), if_pos (by omega), w7]
    · rw [o (Or.inl hjn)]
      by_cases hlt : j < N 13
      · rw [if_pos hlt, if_pos (by omega)]
      · rw [if_neg hlt, if_neg (by omega)]
  · have hj : j < N 13 + 1 := hj
    by_cases hjn : j = N 13
    · subst hjn
      rw [w7] at hi; omega
    · rw [o (Or.inl hjn)] at hi
      unfold svS
      rw [o (Or.inr (by decide)), o (Or.inr (by decide)), o (Or.inr (by decide))]
      exact e1 j i (by omega) hi
  · rw [vS_ne _ _ _ (by omega)]; exact g0
  · rw [vS_ne _ _ _ (by omega)]; exact g1
  · rw [vS_ne _ _ _ (by omega)]; exact g2
  · rw [vS_ne _ _ _ (by omega)]; exact g3
  · rw [vS_eq]; rfl
  · rw [vS_ne _ _ _ (by omega), o (Or.inr (by decide))]; exact g5 r hr
  · have hj : j < N 13 + 1 := hj
    by_cases hjn : j = N 13
    · subst hjn
      rw [w7]; omega
    · rw [o (Or.inl hjn)]; exact n j (by omega)
/-! what the class says -/
theorem kMatch_1 {a b r : Nat} (ha : a ≤ 16) (hb : b ≤ 16) (hr : r ≤ 4) (h1 : N 1 ≤ 16) (h : ¬ (a < N 1 ∧ b < N 1 ∧ r < 4)) : kMatch N F (nI a) (nI b) (nI r) = 1 := by
  rw [kMatch, iR_nI (by omega), iR_nI (by omega), iR_nI (by omega), if_pos]
  by_cases q1 : a < N 1
  · by_cases q2 : b < N 1
    · rw [decide_eq_true q1, decide_eq_true q2, decide_eq_false (fun q3 => h ⟨q1, q2, q3⟩)]; rfl
    · rw [decide_eq_false q2]; simp
  · rw [decide_eq_false q1]; rfl
theorem kMatch_v {a b r : Nat} (ha : a < N 1) (hb : b < N 1) (hr : r < 4) (h1 : N 1 ≤ 16) : kMatch N F (nI a) (nI b) (nI r) = if a = b then 2 else if cMatch N F a b r = true then 0 else 3 := by
  rw [kMatch, iR_lt ha (by omega), iR_lt hb (by omega), iR_lt hr (by omega), if_neg (by decide), ix_nI (by omega), ix_nI (by omega), ix_nI (by omega)]
  by_cases hab : a = b
  · subst hab
    rw [if_pos rfl, if_pos rfl]
  · rw [if_neg hab, if_neg (fun q => hab (by rw [← ix_nI (j := a) (by omega), q, ix_nI (by omega)]))]
theorem kSell_1 {k q : Nat} {its : Int32} (hk : k ≤ 40) (hq : q ≤ 16) (h13 : N 13 ≤ 33) (h1 : N 1 ≤ 16) (h : ¬ (k < N 13 ∧ q < N 1)) : kSell N F (nI k) (nI q) its = 1 := by
  rw [kSell, iR_nI (by omega), iR_nI (by omega), if_pos]
  by_cases q1 : k < N 13
  · rw [decide_eq_true q1, decide_eq_false (fun q3 => h ⟨q1, q3⟩)]; rfl
  · rw [decide_eq_false q1]; rfl
theorem kSell_v {k q pr : Nat} (hk : k < N 13) (hq : q < N 1) (hp : pr < 20000) (h13 : N 13 ≤ 33) (h1 : N 1 ≤ 16) : kSell N F (nI k) (nI q) (nI pr) = if ¬ pr ≤ 10000 then 2 else if cDeal N F k q = true ∧ F 21 k < 20 then 0 else 3 := by
  rw [kSell, iR_lt hk (by omega), iR_lt hq (by omega), if_neg (by decide), ix_nI (by omega), ix_nI (by omega), nI_toInt (by omega)]
  by_cases hpr : pr ≤ 10000
  · rw [if_neg (show ¬ ¬ (0 ≤ ((pr : Nat) : Int) ∧ ((pr : Nat) : Int) ≤ 10000) by omega), if_neg (show ¬ ¬ pr ≤ 10000 by omega)]
  · rw [if_pos (show ¬ (0 ≤ ((pr : Nat) : Int) ∧ ((pr : Nat) : Int) ≤ 10000) by omega), if_pos hpr]
theorem kLend_1 {k q : Nat} {its : Int32} (hk : k ≤ 40) (hq : q ≤ 16) (h13 : N 13 ≤ 33) (h1 : N 1 ≤ 16) (h : ¬ (k < N 13 ∧ q < N 1)) : kLend N F (nI k) (nI q) its = 1 := by
  rw [kLend, iR_nI (by omega), iR_nI (by omega), if_pos]
  by_cases q1 : k < N 13
  · rw [decide_eq_true q1, decide_eq_false (fun q3 => h ⟨q1, q3⟩)]; rfl
  · rw [decide_eq_false q1]; rfl
theorem kLend_v {k q d : Nat} (hk : k < N 13) (hq : q < N 1) (hd : d < 20000) (h13 : N 13 ≤ 33) (h1 : N 1 ≤ 16) : kLend N F (nI k) (nI q) (nI d) = if ¬ (1 ≤ d ∧ d ≤ 100) then 2 else if cDeal N F k q = true then 0 else 3 := by
  rw [kLend, iR_lt hk (by omega), iR_lt hq (by omega), if_neg (by decide), ix_nI (by omega), ix_nI (by omega), nI_toInt (by omega)]
  by_cases hpr : 1 ≤ d ∧ d ≤ 100
  · rw [if_neg (show ¬ ¬ (1 ≤ ((d : Nat) : Int) ∧ ((d : Nat) : Int) ≤ 100) by omega), if_neg (show ¬ ¬ (1 ≤ d ∧ d ≤ 100) by omega)]
  · rw [if_pos (show ¬ (1 ≤ ((d : Nat) : Int) ∧ ((d : Nat) : Int) ≤ 100) by omega), if_pos hpr]
theorem set1_comm (F : Nat → Nat → Nat) {a b i j v w : Nat} (h : a ≠ b) : set1 (set1 F a i v) b j w = set1 (set1 F b j w) a i v := by
  funext x y
  by_cases hx : x = b
  · subst hx
    by_cases hy : y = j
    · subst hy
      rw [set1_at, set1_off _ (Or.inl (fun q => h q.symm)), set1_at]
    · rw [set1_at2 _ _ _ _ _ hy, set1_off _ (Or.inl (fun q => h q.symm)), set1_off _ (Or.inl (fun q => h q.symm)), set1_at2 _ _ _ _ _ hy]
  · rw [set1_off _ (Or.inl hx)]
    by_cases hxa : x = a
    · subst hxa
      by_cases hy : y = i
      · subst hy
        rw [set1_at, set1_at]
      · rw [set1_at2 _ _ _ _ _ hy, set1_at2 _ _ _ _ _ hy, set1_off _ (Or.inl hx)]
    · rw [set1_off _ (Or.inl hxa), set1_off _ (Or.inl hxa), set1_off _ (Or.inl hx)]
theorem bSell_pay {k q pr h0 : Nat} (hh : F 17 k = h0) (h0p : 0 < h0) (hne : h0 ≠ q + 1) : payS B (q + 1) h0 pr = bSell F B k q pr := by
  subst hh
  rw [payS, if_neg (by omega), bSell]
  funext i
  show upd (upd B q (B q - nI pr)) (F 17 k - 1) (upd B q (B q - nI pr) (F 17 k - 1) + nI pr) i = _
  have h1 : F 17 k - 1 ≠ q := by omega
  by_cases h2 : i = F 17 k - 1
  · subst h2
    simp [upd, h1]
  · by_cases h3 : i = q
    · subst h3
      simp [upd, h2, fun z : i = F 17 k - 1 => h2 z]
    · simp [upd, h2, h3]
end LRX
