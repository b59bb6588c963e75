/-! Ranks: the class's own finding of a place's player is the reference's -/
theorem ah_iff {P Q : Nat → Nat} {p q : Nat} : ahM P Q p q = true ↔ P q < P p ∨ (P p = P q ∧ (Q p < Q q ∨ (Q p = Q q ∧ p < q))) := by
  unfold ahM
  by_cases h : P p = P q
  · rw [if_pos h]
    exact ⟨fun z => Or.inr ⟨h, of_decide_eq_true z⟩, fun z => decide_eq_true (z.elim (fun z => by omega) (fun z => z.2))⟩
  · rw [if_neg h]
    exact ⟨fun z => Or.inl (of_decide_eq_true z), fun z => decide_eq_true (z.elim id (fun z => absurd z.1 h))⟩
theorem ah_n {P Q : Nat → Nat} {p q : Nat} (h : ¬ ahM P Q p q = true) : ¬ (P q < P p ∨ (P p = P q ∧ (Q p < Q q ∨ (Q p = Q q ∧ p < q)))) := fun z => h (ah_iff.mpr z)
theorem ah_irr (P Q : Nat → Nat) (p : Nat) : ¬ ahM P Q p p = true := fun h => by
  have := ah_iff.mp h
  omega
theorem ah_tr {P Q : Nat → Nat} {a b c : Nat} (h1 : ahM P Q a b = true) (h2 : ahM P Q b c = true) : ahM P Q a c = true := by
  have g1 := ah_iff.mp h1
  have g2 := ah_iff.mp h2
  exact ah_iff.mpr (by omega)
theorem ah_tot {P Q : Nat → Nat} {a b : Nat} (h : a ≠ b) (h1 : ¬ ahM P Q a b = true) : ahM P Q b a = true := by
  have g1 := ah_n h1
  exact ah_iff.mpr (by omega)
/-- may p be the next one behind the leader (told by one more) -/
def fgd (P Q : Nat → Nat) (lead p : Nat) : Prop := 0 < P p ∧ (lead = 0 ∨ ahM P Q (lead - 1) p = true)
theorem fbS_spec (P Q : Nat → Nat) (lead : Nat) : ∀ n, (fbS P Q lead n = 0 → ∀ p, p < n → ¬ fgd P Q lead p) ∧ ∀ b, fbS P Q lead n = b + 1 → b < n ∧ fgd P Q lead b ∧ ∀ p, p < n → fgd P Q lead p → p = b ∨ ahM P Q b p = true
  | 0 => ⟨fun _ p hp => absurd hp (Nat.not_lt_zero p), fun b hb => by cases hb⟩
  | n + 1 => by
    obtain ⟨i1, i2⟩ := fbS_spec P Q lead n
    by_cases h : fbB P Q lead (fbS P Q lead n) n = true
    · have e : fbS P Q lead (n + 1) = n + 1 := by rw [fbS, if_pos h]
      obtain ⟨g1, g2, g3⟩ := of_decide_eq_true h
      rw [e]
      refine ⟨fun z => absurd z (by omega), fun b hb => ?_⟩
      obtain rfl : n = b := by omega
      refine ⟨Nat.lt_succ_self _, ⟨g1, g2⟩, fun p hp hg => ?_⟩
      by_cases hpn : p = n
      · exact Or.inl hpn
      · right
        rcases Nat.eq_zero_or_pos (fbS P Q lead n) with hz | hz
        · exact absurd hg (i1 hz p (by omega))
        · obtain ⟨c, hc⟩ : ∃ c, fbS P Q lead n = c + 1 := ⟨fbS P Q lead n - 1, by omega⟩
          obtain ⟨_, _, k3⟩ := i2 c hc
          have hnc : ahM P Q n c = true := by
            rcases g3 with g3 | g3
            · omega
            · rw [hc] at g3; exact g3
          rcases k3 p (by omega) hg with rfl | hk
          · exact hnc
          · exact ah_tr hnc hk
    · have e : fbS P Q lead (n + 1) = fbS P Q lead n := by rw [fbS, if_neg h]
      have hd : ¬ (0 < P n ∧ (lead = 0 ∨ ahM P Q (lead - 1) n = true) ∧ (fbS P Q lead n = 0 ∨ ahM P Q n (fbS P Q lead n - 1) = true)) := fun z => h (decide_eq_true z)
      rw [e]
      refine ⟨fun z p hp hg => ?_, fun b hb => ?_⟩
      · by_cases hpn : p = n
        · subst hpn; exact hd ⟨hg.1, hg.2, Or.inl z⟩
        · exact i1 z p (by omega) hg
      · obtain ⟨k1, k2, k3⟩ := i2 b hb
        refine ⟨by omega, k2, fun p hp hg => ?_⟩
        by_cases hpn : p = n
        · subst hpn
          right
          refine ah_tot (by omega) (fun z => hd ⟨hg.1, hg.2, Or.inr ?_⟩)
          rw [hb]; exact z
        · exact k3 p (by omega) hg
theorem sumN_lt {f g : Nat → Nat} {a : Nat} : ∀ {n : Nat}, (∀ i, i < n → f i ≤ g i) → a < n → f a < g a → sumN f n < sumN g n
  | 0, _, h, _ => absurd h (Nat.not_lt_zero a)
  | n + 1, hle, ha, hl => by
    have h2 := hle n (by omega)
    have hm : sumN f n ≤ sumN g n := by
      have : ∀ m, m ≤ n → sumN f m ≤ sumN g m := by
        intro m
        induction m with
        | zero => intro _; exact Nat.le_refl _
        | succ m ih =>
          intro hm
          have a1 := ih (by omega)
          have a2 := hle m (by omega)
          rw [sumN, sumN]; omega
      exact this n (Nat.le_refl n)
    rw [sumN, sumN]
    by_cases han : a = n
    · subst han; omega
    · have := sumN_lt (n := n) (fun i hi => hle i (by omega)) (by omega) hl
      omega
theorem sumN_one {f g : Nat → Nat} {a : Nat} : ∀ {n : Nat}, (∀ i, i < n → i ≠ a → f i = g i) → a < n → f a = g a + 1 → sumN f n = sumN g n + 1
  | 0, _, h, _ => absurd h (Nat.not_lt_zero a)
  | n + 1, he, ha, hl => by
    rw [sumN, sumN]
    by_cases han : a = n
    · subst han
      rw [sumN_cong (fun i hi => he i (by omega) (by omega)), hl]
      omega
    · rw [sumN_one (n := n) (fun i hi h => he i (by omega) h) (by omega) hl, he n (by omega) (by omega)]
      omega
theorem rk_lt {P Q : Nat → Nat} {a b n : Nat} (ha : a < n) (hp : 0 < P a) (h : ahM P Q a b = true) : plN P Q a n < plN P Q b n := by
  refine sumN_lt (a := a) (fun q _ => ?_) ha ?_
  · show (if _ then _ else _) ≤ if _ then _ else _
    by_cases hq : q ≠ a ∧ 0 < P q ∧ ahM P Q q a = true
    · rw [if_pos hq, if_pos ⟨fun z => by subst z; exact ah_irr P Q q (ah_tr hq.2.2 h), hq.2.1, ah_tr hq.2.2 h⟩]
      exact Nat.le_refl _
    · rw [if_neg hq]; exact Nat.zero_le _
  · show (if _ then _ else _) < if _ then _ else _
    rw [if_neg (fun z => z.1 rfl), if_pos ⟨fun z => by subst z; exact ah_irr P Q a h, hp, h⟩]
    exact Nat.zero_lt_one
theorem rk_next {P Q : Nat → Nat} {a b n : Nat} (ha : a < n) (hp : 0 < P a) (h : ahM P Q a b = true) (hmin : ∀ p, p < n → 0 < P p → ahM P Q a p = true → p = b ∨ ahM P Q b p = true) : plN P Q b n = plN P Q a n + 1 := by
  refine sumN_one (a := a) (fun q hq hqa => ?_) ha ?_
  · show (if _ then _ else _) = if _ then _ else _
    by_cases hP : 0 < P q
    · by_cases h1 : ahM P Q q a = true
      · rw [if_pos ⟨fun z => by subst z; exact ah_irr P Q q (ah_tr h1 h), hP, ah_tr h1 h⟩, if_pos ⟨hqa, hP, h1⟩]
      · have h2 := ah_tot hqa h1
        rw [if_neg (fun z => by
          rcases hmin q hq hP h2 with g | g
          · exact z.1 g
          · exact ah_irr P Q q (ah_tr z.2.2 g)), if_neg (fun z => h1 z.2.2)]
    · rw [if_neg (fun z => hP z.2.1), if_neg (fun z => hP z.2.1)]
  · show (if _ then _ else _) = (if _ then _ else _) + 1
    rw [if_pos ⟨fun z => by subst z; exact ah_irr P Q a h, hp, h⟩, if_neg (fun z => z.1 rfl)]
theorem poS_spec (P Q : Nat → Nat) : ∀ n, (poS P Q n = 0 → ∀ p, p < 16 → 0 < P p → plN P Q p 16 < n) ∧ ∀ b, poS P Q n = b + 1 → b < 16 ∧ 0 < P b ∧ plN P Q b 16 = n
  | 0 => by
    obtain ⟨i1, i2⟩ := fbS_spec P Q 0 16
    refine ⟨fun z p hp h => absurd ⟨h, Or.inl rfl⟩ (i1 z p hp), fun b hb => ?_⟩
    obtain ⟨k1, k2, k3⟩ := i2 b hb
    refine ⟨k1, k2.1, ?_⟩
    have : ∀ m, m ≤ 16 → plN P Q b m = 0 := by
      intro m
      induction m with
      | zero => intro _; rfl
      | succ m ih =>
        intro hm
        show sumN _ m + (if _ then _ else _) = 0
        rw [if_neg (fun z => ?_)]
        · exact ih (by omega)
        · rcases k3 m (by omega) ⟨z.2.1, Or.inl rfl⟩ with g | g
          · exact z.1 g
          · exact ah_irr P Q m (ah_tr z.2.2 g)
    exact this 16 (Nat.le_refl _)
  | n + 1 => by
    obtain ⟨i1, i2⟩ := poS_spec P Q n
    rw [poS]
    by_cases hz : poS P Q n = 0
    · rw [if_pos hz]
      exact ⟨fun _ p hp h => Nat.lt_succ_of_lt (i1 hz p hp h), fun b hb => by cases hb⟩
    · rw [if_neg hz]
      obtain ⟨a, ha⟩ : ∃ a, poS P Q n = a + 1 := ⟨poS P Q n - 1, by omega⟩
      obtain ⟨a1, a2, a3⟩ := i2 a ha
      obtain ⟨j1, j2⟩ := fbS_spec P Q (poS P Q n) 16
      have hlead : poS P Q n - 1 = a := by omega
      refine ⟨fun z p hp h => ?_, fun b hb => ?_⟩
      · have hng := j1 z p hp
        by_cases hpa : p = a
        · subst hpa; omega
        · have h1 : ¬ ahM P Q a p = true := fun y => hng ⟨h, Or.inr (by rw [hlead]; exact y)⟩
          have := rk_lt hp h (ah_tot (fun y => hpa y.symm) h1)
          omega
      · obtain ⟨k1, k2, k3⟩ := j2 b hb
        have hab : ahM P Q a b = true := by
          rcases k2.2 with g | g
          · exact absurd g hz
          · rw [hlead] at g; exact g
        refine ⟨k1, k2.1, ?_⟩
        rw [rk_next a1 a2 hab (fun p hp h y => k3 p hp ⟨h, Or.inr (by rw [hlead]; exact y)⟩), a3]
theorem plN_ext {P Q : Nat → Nat} {p n : Nat} : ∀ {m : Nat}, n ≤ m → (∀ q, n ≤ q → q < m → P q = 0) → plN P Q p m = plN P Q p n := by
  intro m
  induction m with
  | zero => intro h _; obtain rfl : n = 0 := by omega
            rfl
  | succ m ih =>
    intro h hz
    by_cases hm : n = m + 1
    · subst hm; rfl
    · show sumN _ m + (if _ then _ else _) = _
      rw [if_neg (fun z => by have := hz m (by omega) (by omega); omega)]
      exact ih (by omega) (fun q h1 h2 => hz q h1 (by omega))
theorem whoN_at {P Q : Nat → Nat} {n pl p : Nat} (hp : plM P Q n p = pl) (hu : ∀ q, q < n → plM P Q n q = pl → q = p) : ∀ j, p < j → j ≤ n → whoN P Q n pl j = p + 1
  | 0, h, _ => absurd h (Nat.not_lt_zero p)
  | j + 1, h, hj => by
    rw [whoN]
    by_cases hjp : j = p
    · subst hjp; rw [if_pos hp]
    · rw [if_neg (fun z => hjp (hu j (by omega) z))]
      exact whoN_at hp hu j (by omega) (by omega)
theorem whoN_0 {P Q : Nat → Nat} {n pl : Nat} (hu : ∀ q, q < n → ¬ plM P Q n q = pl) : ∀ j, j ≤ n → whoN P Q n pl j = 0
  | 0, _ => rfl
  | j + 1, hj => by rw [whoN, if_neg (hu j (by omega))]; exact whoN_0 hu j (by omega)
theorem pos_who {P Q : Nat → Nat} {n pl : Nat} (hn : n ≤ 16) (hz : ∀ q, n ≤ q → q < 16 → P q = 0) (hpl : 1 ≤ pl) : poS P Q (pl - 1) = who P Q n pl := by
  obtain ⟨i1, i2⟩ := poS_spec P Q (pl - 1)
  have hext : ∀ p, plN P Q p n = plN P Q p 16 := fun p => (plN_ext hn hz).symm
  unfold who
  rcases Nat.eq_zero_or_pos (poS P Q (pl - 1)) with h0 | h0
  · rw [h0]
    refine (whoN_0 (fun q hq z => ?_) n (Nat.le_refl _)).symm
    unfold plM at z
    by_cases hP : P q = 0
    · rw [if_pos hP] at z; omega
    · rw [if_neg hP, hext] at z
      have := i1 h0 q (by omega) (by omega)
      omega
  · obtain ⟨b, hb⟩ : ∃ b, poS P Q (pl - 1) = b + 1 := ⟨poS P Q (pl - 1) - 1, by omega⟩
    obtain ⟨k1, k2, k3⟩ := i2 b hb
    have hbn : b < n := by
      by_cases h : b < n
      · exact h
      · have := hz b (by omega) k1
        omega
    have hpm : plM P Q n b = pl := by
      unfold plM
      rw [if_neg (by omega), hext]; omega
    rw [hb]
    refine (whoN_at hpm (fun q hq z => ?_) n hbn (Nat.le_refl _)).symm
    unfold plM at z
    by_cases hP : P q = 0
    · rw [if_pos hP] at z; omega
    · rw [if_neg hP, hext] at z
      by_cases hqb : q = b
      · exact hqb
      · exfalso
        by_cases h1 : ahM P Q q b = true
        · have := rk_lt (n := 16) (by omega) (by omega) h1
          omega
        · have := rk_lt (n := 16) k1 k2 (ah_tot hqb h1)
          omega
theorem pts_0 {N : Nat → Nat} {F : Nat → Nat → Nat} (hI : Iv N F) (s : Nat) {q : Nat} (hq : N 1 ≤ q) : ∀ m, m ≤ N 6 → pts F s q m = 0
  | 0, _ => rfl
  | m + 1, hm => by
    have h1 := hI.m (m := m) (by omega)
    show sumN _ m + ptC F s q m = 0
    have h2 : ptC F s q m = 0 := by
      unfold ptC
      split
      · rw [if_neg (by omega), if_neg (by omega)]
      · rfl
    rw [h2]
    exact pts_0 hI s hq m (by omega)
theorem pos_heir {N : Nat → Nat} {F : Nat → Nat → Nat} (hI : Iv N F) {s pl : Nat} {P Q : Nat → Nat} (hPQ : ∀ p, p < 16 → P p = pts F s p (N 6) ∧ Q p = gms F s p (N 6)) (hpl : 1 ≤ pl) : poS P Q (pl - 1) = heirS N F s pl := by
  have hn := hI.n
  rw [pos_who (n := N 1) hn.1 (fun q h1 h2 => by rw [(hPQ q h2).1]; exact pts_0 hI s h1 _ (Nat.le_refl _)) hpl]
  exact whoN_congr (fun q hq => hPQ q (by omega)) _ (Nat.le_refl _)
theorem plC_plM {N : Nat → Nat} {F : Nat → Nat → Nat} (hI : Iv N F) {s p : Nat} {P Q : Nat → Nat} (hPQ : ∀ p, p < 16 → P p = pts F s p (N 6) ∧ Q p = gms F s p (N 6)) (hp : p < N 1) : (if P p = 0 then 0 else 1 + plC P Q p 16) = plM (fun p => pts F s p (N 6)) (fun p => gms F s p (N 6)) (N 1) p := by
  have hn := hI.n
  have e : plM (fun p => pts F s p (N 6)) (fun p => gms F s p (N 6)) (N 1) p = plM P Q (N 1) p := (plM_congr (hPQ p (by omega)) (fun q hq => hPQ q (by omega))).symm
  rw [e]
  unfold plM
  by_cases h0 : P p = 0
  · rw [if_pos h0, if_pos h0]
  · rw [if_neg h0, if_neg h0, ← plN_ext (m := 16) hn.1 (fun q h1 h2 => by rw [(hPQ q h2).1]; exact pts_0 hI s h1 _ (Nat.le_refl _))]
    congr 1
    refine sumN_cong (fun q _ => ?_)
    show (if _ then _ else _) = if _ then _ else _
    by_cases h : ahM P Q q p = true
    · have g := ah_iff.mp h
      rw [if_pos h, if_pos ⟨fun z => by subst z; exact ah_irr P Q q h, by omega, h⟩]
    · rw [if_neg h, if_neg (fun z => h z.2.2)]
theorem adP_step {F P : Nat → Nat → Nat} {i S : Nat} (h : ∀ s p, s < S → p < 16 → P s p = pts F s p i) (h1 : F 11 i < S) (h7 : F 7 i < 16) (h8 : F 8 i < 16) : ∀ s p, s < S → p < 16 → adP F P i s p = pts F s p (i + 1) := by
  intro s p hs hp
  have a1 : pts F s p (i + 1) = pts F s p i + ptC F s p i := rfl
  rw [a1, ← h s p hs hp]
  unfold adP ptC
  cases hg : goodS F i with
  | false => simp
  | true =>
    by_cases hsF : F 11 i = s
    · subst hsF
      by_cases hw : F 7 i = p
      · subst hw
        by_cases hl : F 8 i = F 7 i
        · simp [set1, va_up, hl]
        · have hl' : ¬ F 7 i = F 8 i := fun q => hl q.symm
          simp [set1, va_up, hl, hl']
      · have hw' : ¬ p = F 7 i := fun q => hw q.symm
        by_cases hl : F 8 i = p
        · subst hl
          simp [set1, va_up, hw, hw']
        · have hl' : ¬ p = F 8 i := fun q => hl q.symm
          simp [set1, va_up, hw, hw', hl, hl']
    · have hs' : ¬ s = F 11 i := fun q => hsF q.symm
      simp [set1, va_up, hsF, hs']
theorem adQ_step {F P : Nat → Nat → Nat} {i S : Nat} (h : ∀ s p, s < S → p < 16 → P s p = gms F s p i) (h1 : F 11 i < S) (h7 : F 7 i < 16) (h8 : F 8 i < 16) : ∀ s p, s < S → p < 16 → adQ F P i s p = gms F s p (i + 1) := by
  intro s p hs hp
  have a1 : gms F s p (i + 1) = gms F s p i + gmC F s p i := rfl
  rw [a1, ← h s p hs hp]
  unfold adQ gmC
  cases hg : goodS F i with
  | false => simp
  | true =>
    by_cases hsF : F 11 i = s
    · subst hsF
      by_cases hw : F 7 i = p
      · subst hw
        by_cases hl : F 8 i = F 7 i
        · simp [set1, va_up, hl]
        · have hl' : ¬ F 7 i = F 8 i := fun q => hl q.symm
          simp [set1, va_up, hl, hl']
      · have hw' : ¬ p = F 7 i := fun q => hw q.symm
        by_cases hl : F 8 i = p
        · subst hl
          simp [set1, va_up, hw, hw']
        · have hl' : ¬ p = F 8 i := fun q => hl q.symm
          simp [set1, va_up, hw, hw', hl, hl']
    · have hs' : ¬ s = F 11 i := fun q => hsF q.symm
      simp [set1, va_up, hsF, hs']
