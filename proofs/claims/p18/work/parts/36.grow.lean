theorem opA_off {ad : Nat → Nat → Nat} {n q v : Nat} (h : v ≤ n) : opA (set1 ad 1 n q) v = opA ad v := by
  unfold opA
  by_cases hv : v = 0
  · rw [if_pos hv, if_pos hv]
  · rw [if_neg hv, if_neg hv, set1_off ad (Or.inr (by omega))]
theorem rowA_off {ad : Nat → Nat → Nat} {k n q m : Nat} (h : m ≤ n) : rowA (set1 ad k n q) k m = rowA ad k m := by
  funext j
  unfold rowA
  by_cases hj : j < m
  · rw [if_pos hj, if_pos hj, set1_off ad (Or.inr (by omega))]
  · rw [if_neg hj, if_neg hj]
theorem RC.player {G : mG} {ad : Nat → Nat → Nat} {N : Nat → Nat} {F : Nat → Nat → Nat} {B : Nat → Int32} {E P Q : Nat → Nat → Nat} {M : Mem} (R : RC G ad N F B E P Q M) (hI : Iv N F) (hJ : Jv N F B) (hE : NrE N F E) {q : Nat} (hq : ∀ k i, liveC E k i → ad k i ≠ q) (hM : M q = some (.inr (2, [.int (nI (N 1)), .int 0, .int (nI 0 - 1), .int 0]))) :
    RC G (set1 ad 1 (N 1) q) N (set1 F 2 (N 1) 0) B (set1 E 0 1 (N 1 + 1)) P Q M := by
  obtain ⟨⟨e1, e10, e2, e11, e3, e12, e6, e13⟩, x2, x3, x4⟩ := hE
  refine R.take 1 (N 1) q hq ?_ (fun k' i' h => ?_) (fun h => by have h9 : N 1 < E 0 1 := h; omega) (fun k' i' h _ => ?_)
  · rw [hM]
    simp [cellC, set1, va_up, (hJ.2.1 (N 1) (Nat.le_refl _)).1, (hJ.2.1 (N 1) (Nat.le_refl _)).2]
    rfl
  · by_cases hk : k' = 1
    · subst hk
      have h9 : i' < N 1 + 1 := h
      by_cases hi : i' = N 1
      · exact Or.inr ⟨rfl, hi⟩
      · exact Or.inl (show i' < E 0 1 by omega)
    · left
      have e : liveC (set1 E 0 1 (N 1 + 1)) k' i' = liveC E k' i' := by unfold liveC; split <;> first | rfl | exact absurd rfl hk
      rw [← e]; exact h
  · by_cases hk1 : k' = 1
    · subst hk1
      have h9 : i' < E 0 1 := h
      have hne : i' ≠ N 1 := by omega
      simp [cellC, set1, va_up, hne]
    · by_cases hk2 : k' = 2
      · subst hk2
        have h9 : i' < E 0 2 := h
        have m9 := hI.m (m := i') (by omega)
        have a7 : F 7 i' ≠ N 1 := by omega
        have a8 : F 8 i' ≠ N 1 := by omega
        simp [cellC, set1, va_up, a7, a8]
      · by_cases hk6 : k' = 6
        · subst hk6
          have h9 : i' < E 0 6 := h
          have k9 := hI.k (k := i') (by omega)
          simp only [cellC]
          rw [show set1 F 2 (N 1) 0 16 i' = F 16 i' from rfl, show set1 F 2 (N 1) 0 17 i' = F 17 i' from rfl, show set1 F 2 (N 1) 0 18 i' = F 18 i' from rfl, opA_off (ad := ad) (q := q) (v := F 16 i') (by omega), opA_off (ad := ad) (q := q) (v := F 17 i') (by omega), opA_off (ad := ad) (q := q) (v := F 18 i') (by omega)]
          rfl
        · by_cases hk8 : k' = 8
          · subst hk8
            have h9 : i' / 20 < E 0 6 ∧ i' % 20 < E 2 (i' / 20) := h
            rw [x2] at h9
            have s9 := hI.s (k := i' / 20) (j := i' % 20) (by omega) h9.2
            rw [show 20 * (i' / 20) + i' % 20 = i' by omega] at s9
            have a7 : F 22 i' ≠ N 1 := by omega
            have a8 : F 23 i' ≠ N 1 := by omega
            simp [cellC, set1, va_up, a7, a8]
          · by_cases hk10 : k' = 10
            · subst hk10
              simp only [cellC]
              rw [show set1 E 0 1 (N 1 + 1) 0 10 = E 0 10 from rfl, rowA_off (by omega)]
            · unfold cellC
              split <;> first | rfl | exact absurd rfl hk1 | exact absurd rfl hk2 | exact absurd rfl hk6 | exact absurd rfl hk8 | exact absurd rfl hk10
theorem RC.match {G : mG} {ad : Nat → Nat → Nat} {N : Nat → Nat} {F F' : Nat → Nat → Nat} {B : Nat → Int32} {E P Q : Nat → Nat → Nat} {M : Mem} (R : RC G ad N F B E P Q M) (hE : NrE N F E) {q a b s d : Nat} (hF : ∀ k, k ≠ 7 → k ≠ 8 → k ≠ 9 → k ≠ 10 → k ≠ 11 → F' k = F k) (hn : F' 7 (N 6) = a ∧ F' 8 (N 6) = b ∧ F' 11 (N 6) = s ∧ F' 10 (N 6) = d) (ho : ∀ i, i ≠ N 6 → F' 7 i = F 7 i ∧ F' 8 i = F 8 i ∧ F' 11 i = F 11 i ∧ F' 10 i = F 10 i) (hq : ∀ k i, liveC E k i → ad k i ≠ q) (hM : M q = some (.inr (1, [.ref (ad 1 a), .ref (ad 1 b), .ref (ad 3 s), .int (nI d)]))) :
    RC G (set1 ad 2 (N 6) q) N F' B (set1 E 0 2 (N 6 + 1)) P Q M := by
  obtain ⟨⟨e1, e10, e2, e11, e3, e12, e6, e13⟩, x2, x3, x4⟩ := hE
  obtain ⟨rfl, rfl, rfl, rfl⟩ := hn
  refine R.take 2 (N 6) q hq ?_ (fun k' i' h => ?_) (fun h => by have h9 : N 6 < E 0 2 := h; omega) (fun k' i' h _ => ?_)
  · rw [hM]; rfl
  · by_cases hk : k' = 2
    · subst hk
      have h9 : i' < N 6 + 1 := h
      by_cases hi : i' = N 6
      · exact Or.inr ⟨rfl, hi⟩
      · exact Or.inl (show i' < E 0 2 by omega)
    · left
      have e : liveC (set1 E 0 2 (N 6 + 1)) k' i' = liveC E k' i' := by unfold liveC; split <;> first | rfl | exact absurd rfl hk
      rw [← e]; exact h
  · by_cases hk2 : k' = 2
    · subst hk2
      have h9 : i' < E 0 2 := h
      obtain ⟨g1, g2, g3, g4⟩ := ho i' (by omega)
      simp only [cellC]
      rw [g1, g2, g3, g4]
      rfl
    · by_cases hk11 : k' = 11
      · subst hk11
        simp only [cellC]
        rw [show set1 E 0 2 (N 6 + 1) 0 11 = E 0 11 from rfl, rowA_off (by omega)]
      · unfold cellC
        rw [hF 2 (by decide) (by decide) (by decide) (by decide) (by decide), hF 3 (by decide) (by decide) (by decide) (by decide) (by decide), hF 5 (by decide) (by decide) (by decide) (by decide) (by decide), hF 14 (by decide) (by decide) (by decide) (by decide) (by decide), hF 15 (by decide) (by decide) (by decide) (by decide) (by decide), hF 16 (by decide) (by decide) (by decide) (by decide) (by decide), hF 17 (by decide) (by decide) (by decide) (by decide) (by decide), hF 18 (by decide) (by decide) (by decide) (by decide) (by decide), hF 19 (by decide) (by decide) (by decide) (by decide) (by decide), hF 20 (by decide) (by decide) (by decide) (by decide) (by decide), hF 22 (by decide) (by decide) (by decide) (by decide) (by decide), hF 23 (by decide) (by decide) (by decide) (by decide) (by decide), hF 24 (by decide) (by decide) (by decide) (by decide) (by decide)]
        split <;> first | rfl | exact absurd rfl hk2 | exact absurd rfl hk11
theorem RC.skin {G : mG} {ad : Nat → Nat → Nat} {N : Nat → Nat} {F : Nat → Nat → Nat} {B : Nat → Int32} {E P Q : Nat → Nat → Nat} {M : Mem} (R : RC G ad N F B E P Q M) {n q a s pl h : Nat} {c0 : va_E} (e6 : E 0 6 = n) (e13 : E 0 13 = n) (h0 : h ≠ 0) (h19 : F 19 n = 0) (hq : ∀ k i, liveC E k i → ad k i ≠ q) (hqM : M q = some c0) (ha : M a = none) :
    RC G (set1 (set1 ad 6 n q) 7 n a) N (awF F n s pl h) B (set1 (sE E n 0) 0 6 (n + 1)) P Q (mU (mU M a (.inl (G.2 8, 20, .inr (.inr (.inr (.inr (fun _ => none))))))) q (.inr (6, [.int (nI n), .ref (ad 3 s), .int (nI pl), .ref a, .int 0, .null, .ref (ad 1 (h - 1)), .ref (ad 1 (h - 1)), .null, .int 0]))) := by
  have hqa : q ≠ a := mU_nn ha hqM
  have hla : ∀ k i, liveC E k i → ad k i ≠ a := R.new ha
  refine R.grow (fun k i => (k = 6 ∨ k = 7) ∧ i = n) (fun k' i' hl => ?_) (fun k' i' hl _ => ⟨?_, ?_, ?_⟩) (fun k' i' hn => ?_) (fun k1 i1 k2 i2 g1 g2 e => ?_)
  · by_cases hk6 : k' = 6 ∨ k' = 7
    · have h9 : i' < n + 1 := by rcases hk6 with rfl | rfl <;> exact hl
      by_cases hi : i' = n
      · exact Or.inr ⟨hk6, hi⟩
      · left
        rcases hk6 with rfl | rfl
        · exact (show i' < E 0 6 by omega)
        · exact (show i' < E 0 6 by omega)
    · left
      by_cases hk8 : k' = 8
      · subst hk8
        have h9 : i' / 20 < n + 1 ∧ i' % 20 < set1 E 2 n 0 2 (i' / 20) := hl
        by_cases hi : i' / 20 = n
        · rw [hi, set1_at] at h9; omega
        · rw [set1_off E (Or.inr hi)] at h9
          exact ⟨by omega, h9.2⟩
      · have e : liveC (set1 (sE E n 0) 0 6 (n + 1)) k' i' = liveC E k' i' := by unfold liveC; split <;> first | rfl | exact absurd rfl hk8 | exact absurd (Or.inl rfl) hk6 | exact absurd (Or.inr rfl) hk6
        rw [← e]; exact hl
  · by_cases hk6 : k' = 6
    · subst hk6
      have h9 : i' < E 0 6 := hl
      have hne : i' ≠ n := by omega
      simp [set1, va_up, hne]
    · by_cases hk7 : k' = 7
      · subst hk7
        have h9 : i' < E 0 6 := hl
        have hne : i' ≠ n := by omega
        simp [set1, va_up, hne]
      · rw [set1_off _ (Or.inl hk7), set1_off _ (Or.inl hk6)]
  · by_cases hk6 : k' = 6
    · subst hk6
      have h9 : i' < E 0 6 := hl
      have hne : i' ≠ n := by omega
      simp [cellC, awF, sE, set1, va_up, hne, opA, fiA]
    · by_cases hk7 : k' = 7
      · subst hk7
        have h9 : i' < E 0 6 := hl
        have hne : i' ≠ n := by omega
        simp only [cellC]
        rw [show set1 (sE E n 0) 0 6 (n + 1) 3 i' = E 3 i' by simp [sE, set1, va_up, hne]]
        rfl
      · by_cases hk13 : k' = 13
        · subst hk13
          simp only [cellC]
          rw [show set1 (sE E n 0) 0 6 (n + 1) 0 13 = E 0 13 from rfl, show rowA (set1 (set1 ad 6 n q) 7 n a) 6 (E 0 13) = rowA (set1 ad 6 n q) 6 (E 0 13) from rfl, rowA_off (by omega)]
        · unfold cellC
          split <;> first | rfl | exact absurd rfl hk6 | exact absurd rfl hk7 | exact absurd rfl hk13
  · rw [mU_ne (hq k' i' hl), mU_ne (hla k' i' hl)]
  · obtain ⟨hk, rfl⟩ := hn
    rcases hk with rfl | rfl
    · have ea : set1 (set1 ad 6 i' q) 7 i' a 6 i' = q := by simp [set1, va_up]
      rw [ea]
      refine ⟨?_, hq⟩
      rw [mU_eq]
      simp [cellC, awF, sE, set1, va_up, opA, fiA, h0, h19, va_rf]
      rfl
    · have ea : set1 (set1 ad 6 i' q) 7 i' a 7 i' = a := set1_at _ _ _ _
      rw [ea]
      refine ⟨?_, hla⟩
      rw [mU_ne (fun z => hqa z.symm), mU_eq]
      simp only [cellC]
      rw [show set1 (sE E i' 0) 0 6 (i' + 1) 3 i' = 0 by simp [sE, set1, va_up]]
      congr 6
  · obtain ⟨hk1, rfl⟩ := g1
    obtain ⟨hk2, rfl⟩ := g2
    have ea : set1 (set1 ad 6 i2 q) 7 i2 a 6 i2 = q := by simp [set1, va_up]
    have eb : set1 (set1 ad 6 i2 q) 7 i2 a 7 i2 = a := set1_at _ _ _ _
    rcases hk1 with rfl | rfl <;> rcases hk2 with rfl | rfl
    · exact ⟨rfl, rfl⟩
    · rw [ea, eb] at e; exact absurd e hqa
    · rw [ea, eb] at e; exact absurd e.symm hqa
    · exact ⟨rfl, rfl⟩
theorem RC.season {G : mG} {ad : Nat → Nat → Nat} {N : Nat → Nat} {F : Nat → Nat → Nat} {B : Nat → Int32} {E P Q : Nat → Nat → Nat} {M : Mem} (R : RC G ad N F B E P Q M) {n q a b : Nat} {c0 : va_E} {c1 : va_E} (e3 : E 0 3 = n) (e12 : E 0 12 ≤ n) (hN : N 12 < n) (h11 : ∀ i, i < E 0 2 → F 11 i < n) (h14 : ∀ i, i < E 0 6 → F 14 i < n) (hq : ∀ k i, liveC E k i → ad k i ≠ q) (hqM : M q = some c0) (ha : M a = none) (hb : M b = none) (hba : b ≠ a) :
    RC G (set1 (set1 (set1 ad 3 n q) 4 n a) 5 n b) N F B (set1 E 0 3 (n + 1)) (va_up P n (fun _ => 0)) (va_up Q n (fun _ => 0)) (mU (mU (mU (mU M a (.inl (G.2 0, 16, .inl (fun _ => 0)))) q c1) b (.inl (G.2 0, 16, .inl (fun _ => 0)))) q (.inr (5, [.int (nI n), .ref a, .ref b]))) := by
  have hqa : q ≠ a := mU_nn ha hqM
  have hqb : q ≠ b := mU_nn hb hqM
  have hla : ∀ k i, liveC E k i → ad k i ≠ a := R.new ha
  have hlb : ∀ k i, liveC E k i → ad k i ≠ b := R.new hb
  have z3 : set1 (set1 (set1 ad 3 n q) 4 n a) 5 n b 3 n = q := by simp [set1, va_up]
  have z4 : set1 (set1 (set1 ad 3 n q) 4 n a) 5 n b 4 n = a := by simp [set1, va_up]
  have z5 : set1 (set1 (set1 ad 3 n q) 4 n a) 5 n b 5 n = b := set1_at _ _ _ _
  refine R.grow (fun k i => (k = 3 ∨ k = 4 ∨ k = 5) ∧ i = n) (fun k' i' hl => ?_) (fun k' i' hl _ => ⟨?_, ?_, ?_⟩) (fun k' i' hn => ?_) (fun k1 i1 k2 i2 g1 g2 e => ?_)
  · by_cases hk : k' = 3 ∨ k' = 4 ∨ k' = 5
    · have h9 : i' < n + 1 := by rcases hk with rfl | rfl | rfl <;> exact hl
      by_cases hi : i' = n
      · exact Or.inr ⟨hk, hi⟩
      · left
        have h8 : i' < E 0 3 := by omega
        rcases hk with rfl | rfl | rfl <;> exact h8
    · left
      have e : liveC (set1 E 0 3 (n + 1)) k' i' = liveC E k' i' := by unfold liveC; split <;> first | rfl | exact absurd (Or.inl rfl) hk | exact absurd (Or.inr (Or.inl rfl)) hk | exact absurd (Or.inr (Or.inr rfl)) hk
      rw [← e]; exact hl
  · by_cases hk : k' = 3 ∨ k' = 4 ∨ k' = 5
    · have h8 : i' < E 0 3 := by rcases hk with rfl | rfl | rfl <;> exact hl
      have hne : i' ≠ n := by omega
      rcases hk with rfl | rfl | rfl <;> simp [set1, va_up, hne]
    · rw [set1_off _ (Or.inl (fun z => hk (Or.inr (Or.inr z)))), set1_off _ (Or.inl (fun z => hk (Or.inr (Or.inl z)))), set1_off _ (Or.inl (fun z => hk (Or.inl z)))]
  · by_cases hk : k' = 3 ∨ k' = 4 ∨ k' = 5
    · have h8 : i' < E 0 3 := by rcases hk with rfl | rfl | rfl <;> exact hl
      have hne : i' ≠ n := by omega
      rcases hk with rfl | rfl | rfl <;> simp [cellC, set1, va_up, hne]
    · by_cases hk0 : k' = 0
      · subst hk0
        have hne : N 12 ≠ n := by omega
        simp [cellC, set1, va_up, hne]
      · by_cases hk2 : k' = 2
        · subst hk2
          have h8 : i' < E 0 2 := hl
          have hne : F 11 i' ≠ n := by have := h11 i' h8; omega
          simp [cellC, set1, va_up, hne]
        · by_cases hk6 : k' = 6
          · subst hk6
            have h8 : i' < E 0 6 := hl
            have hne : F 14 i' ≠ n := by have := h14 i' h8; omega
            simp [cellC, set1, va_up, hne, opA, fiA]
          · by_cases hk12 : k' = 12
            · subst hk12
              simp only [cellC]
              rw [show set1 E 0 3 (n + 1) 0 12 = E 0 12 from rfl, show rowA (set1 (set1 (set1 ad 3 n q) 4 n a) 5 n b) 3 (E 0 12) = rowA (set1 ad 3 n q) 3 (E 0 12) from rfl, rowA_off e12]
            · unfold cellC
              split <;> first | rfl | exact absurd (Or.inl rfl) hk | exact absurd (Or.inr (Or.inl rfl)) hk | exact absurd (Or.inr (Or.inr rfl)) hk | exact absurd rfl hk0 | exact absurd rfl hk2 | exact absurd rfl hk6 | exact absurd rfl hk12
  · rw [mU_ne (hq k' i' hl), mU_ne (hlb k' i' hl), mU_ne (hq k' i' hl), mU_ne (hla k' i' hl)]
  · obtain ⟨hk, rfl⟩ := hn
    rcases hk with rfl | rfl | rfl
    · rw [z3]
      refine ⟨?_, hq⟩
      rw [mU_eq]
      simp only [cellC]
      rw [z4, z5]
    · rw [z4]
      refine ⟨?_, hla⟩
      rw [mU_ne (fun z => hqa z.symm), mU_ne (fun z => hba z.symm), mU_ne (fun z => hqa z.symm), mU_eq]
      simp [cellC, va_up]
      rfl
    · rw [z5]
      refine ⟨?_, hlb⟩
      rw [mU_ne (fun z => hqb z.symm), mU_eq]
      simp [cellC, va_up]
      rfl
  · obtain ⟨hk1, rfl⟩ := g1
    obtain ⟨hk2, rfl⟩ := g2
    rcases hk1 with rfl | rfl | rfl <;> rcases hk2 with rfl | rfl | rfl
    · exact ⟨rfl, rfl⟩
    · rw [z3, z4] at e; exact absurd e hqa
    · rw [z3, z5] at e; exact absurd e hqb
    · rw [z3, z4] at e; exact absurd e.symm hqa
    · exact ⟨rfl, rfl⟩
    · rw [z4, z5] at e; exact absurd e.symm hba
    · rw [z3, z5] at e; exact absurd e.symm hqb
    · rw [z4, z5] at e; exact absurd e hba
    · exact ⟨rfl, rfl⟩
