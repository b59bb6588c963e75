/-! The law's finding of a place: the next weight above a bound, place times; it is the place of the class -/
def wS (F : Nat → Nat → Nat) (s n p : Nat) : Nat := if pts F s p n = 0 then 1000000 else (1000 - pts F s p n) * 1000 + gms F s p n * 16 + p
def wW (N : Nat → Nat) (F : Nat → Nat → Nat) (s : Nat) : Nat → Nat := fun q => wS F s (N 6) q
def inB (W : Nat → Nat) (b : Nat) : Nat → Nat × Nat
  | 0 => (1000000, 0)
  | j + 1 => if b ≤ W j ∧ W j < (inB W b j).1 then (W j, j + 1) else inB W b j
def ouB (W : Nat → Nat) (n : Nat) : Nat → Nat × Nat
  | 0 => (0, 0)
  | k + 1 => ((inB W (ouB W n k).1 n).1 + 1, (inB W (ouB W n k).1 n).2)
def cnt (W : Nat → Nat) (n b : Nat) : Nat := sumN (fun q => if W q < b then 1 else 0) n
theorem inB_t {W : Nat → Nat} {b j : Nat} (h1 : b ≤ W j) (h2 : W j < (inB W b j).1) : inB W b (j + 1) = (W j, j + 1) := by rw [inB, if_pos ⟨h1, h2⟩]
theorem inB_f {W : Nat → Nat} {b j : Nat} (h : ¬ (b ≤ W j ∧ W j < (inB W b j).1)) : inB W b (j + 1) = inB W b j := by rw [inB, if_neg h]
theorem inB_sp (W : Nat → Nat) (b : Nat) : ∀ j, (∀ q, q < j → b ≤ W q → (inB W b j).1 ≤ W q ∨ 1000000 ≤ W q) ∧ (inB W b j).1 ≤ 1000000 ∧ ((inB W b j).2 = 0 ∧ (inB W b j).1 = 1000000 ∨ ∃ t, (inB W b j).2 = t + 1 ∧ t < j ∧ (inB W b j).1 = W t ∧ b ≤ W t ∧ W t < 1000000)
  | 0 => ⟨fun q hq => absurd hq (by omega), Nat.le_refl _, Or.inl ⟨rfl, rfl⟩⟩
  | j + 1 => by
    obtain ⟨h1, h2, h3⟩ := inB_sp W b j
    by_cases hc : b ≤ W j ∧ W j < (inB W b j).1
    · rw [inB_t hc.1 hc.2]
      refine ⟨fun q hq hb => ?_, by show W j ≤ _; omega, Or.inr ⟨j, rfl, by omega, rfl, hc.1, by omega⟩⟩
      show W j ≤ W q ∨ _
      by_cases hqj : q = j
      · subst hqj; omega
      · have := h1 q (by omega) hb
        omega
    · rw [inB_f hc]
      refine ⟨fun q hq hb => ?_, h2, ?_⟩
      · by_cases hqj : q = j
        · subst hqj; omega
        · exact h1 q (by omega) hb
      · rcases h3 with h3 | ⟨t, a1, a2, a3⟩
        · exact Or.inl h3
        · exact Or.inr ⟨t, a1, by omega, a3⟩
theorem sumN_mono {f g : Nat → Nat} : ∀ {n : Nat}, (∀ i, i < n → f i ≤ g i) → sumN f n ≤ sumN g n
  | 0, _ => Nat.le_refl _
  | n + 1, h => by
    have h1 := sumN_mono (n := n) (fun i hi => h i (by omega))
    have h2 := h n (by omega)
    rw [sumN, sumN]; omega
theorem sumN_up1 {f g : Nat → Nat} {t : Nat} : ∀ {n : Nat}, t < n → f t = g t + 1 → (∀ q, q < n → q ≠ t → f q = g q) → sumN f n = sumN g n + 1
  | 0, h, _, _ => absurd h (by omega)
  | n + 1, h, h1, h2 => by
    by_cases hn : t = n
    · subst hn
      rw [sumN, sumN, h1, sumN_cong (fun q hq => h2 q (by omega) (by omega))]; omega
    · rw [sumN, sumN, sumN_up1 (n := n) (by omega) h1 (fun q hq hqt => h2 q (by omega) hqt), h2 n (by omega) (fun q => hn q.symm)]; omega
section CNT
variable {W : Nat → Nat} {n : Nat}
theorem cnt_mono {b b' : Nat} (h : b ≤ b') : cnt W n b ≤ cnt W n b' := sumN_mono (fun i _ => by
  show (if _ then 1 else 0) ≤ (if _ then 1 else 0)
  split <;> split <;> omega)
theorem cnt_eq {b b' : Nat} (h : ∀ q, q < n → (W q < b ↔ W q < b')) : cnt W n b = cnt W n b' := sumN_cong (fun i hi => by
  have := h i hi
  show (if _ then 1 else 0) = (if _ then 1 else 0)
  split <;> split <;> omega)
theorem cnt_suc {t : Nat} (ht : t < n) (hinj : ∀ q, q < n → W q = W t → q = t) : cnt W n (W t + 1) = cnt W n (W t) + 1 := sumN_up1 ht (by
    show (if _ then 1 else 0) = (if _ then 1 else 0) + 1
    rw [if_pos (by omega), if_neg (by omega)]) (fun q hq hqt => by
    have := hinj q hq
    show (if _ then 1 else 0) = (if _ then 1 else 0)
    split <;> split <;> omega)
theorem cnt_zero : cnt W n 0 = 0 := by
  have h := sumN_le (f := fun q => if W q < 0 then 1 else 0) (c := 0) (n := n) (fun i _ => by
    show (if _ then 1 else 0) ≤ 0
    rw [if_neg (by omega)]; omega)
  unfold cnt; omega
theorem ouB_sp (hinj : ∀ q t, q < n → t < n → W t < 1000000 → W q = W t → q = t) : ∀ k,
    ((ouB W n k).1 ≤ 1000000 ∧ cnt W n (ouB W n k).1 = k ∧ (k = 0 ∨ ∃ t, (ouB W n k).2 = t + 1 ∧ t < n ∧ W t < 1000000 ∧ cnt W n (W t) + 1 = k)) ∨ ((ouB W n k).2 = 0 ∧ (ouB W n k).1 = 1000001 ∧ cnt W n 1000000 < k)
  | 0 => Or.inl ⟨Nat.zero_le _, cnt_zero, Or.inl rfl⟩
  | k + 1 => by
    obtain ⟨h1, h2, h3⟩ := inB_sp W (ouB W n k).1 n
    have e1 : (ouB W n (k + 1)).1 = (inB W (ouB W n k).1 n).1 + 1 := rfl
    have e2 : (ouB W n (k + 1)).2 = (inB W (ouB W n k).1 n).2 := rfl
    rcases ouB_sp hinj k with ⟨a0, a1, -⟩ | ⟨a1, a2, a3⟩
    · rcases h3 with ⟨c1, c2⟩ | ⟨t, c1, c2, c3, c4, c5⟩
      · refine Or.inr ⟨e2.trans c1, by rw [e1, c2], ?_⟩
        have : cnt W n 1000000 = cnt W n (ouB W n k).1 := cnt_eq (fun q hq => by
          have q1 := h1 q hq
          by_cases hb : (ouB W n k).1 ≤ W q
          · have := q1 hb; omega
          · omega)
        omega
      · have d1 : cnt W n (W t) = cnt W n (ouB W n k).1 := cnt_eq (fun q hq => by
          have q1 := h1 q hq
          by_cases hb : (ouB W n k).1 ≤ W q
          · have := q1 hb; omega
          · omega)
        refine Or.inl ⟨by omega, ?_, Or.inr ⟨t, e2.trans c1, c2, c5, by omega⟩⟩
        rw [e1, c3, cnt_suc c2 (fun q hq he => hinj q t hq c2 c5 he)]; omega
    · have c : (inB W (ouB W n k).1 n).2 = 0 ∧ (inB W (ouB W n k).1 n).1 = 1000000 := by
        rcases h3 with h3 | ⟨t, c1, c2, c3, c4, c5⟩
        · exact h3
        · omega
      exact Or.inr ⟨e2.trans c.1, by rw [e1, c.2], by omega⟩
end CNT
theorem whoN_is {P Q : Nat → Nat} {n pl t : Nat} : ∀ {m : Nat}, (∀ j, j < m → (plM P Q n j = pl ↔ j = t)) → t < m → whoN P Q n pl m = t + 1
  | 0, _, h => absurd h (by omega)
  | m + 1, h, ht => by
    by_cases hm : t = m
    · subst hm
      rw [whoN, if_pos ((h t (by omega)).mpr rfl)]
    · rw [whoN, if_neg (fun q => hm ((h m (by omega)).mp q).symm)]
      exact whoN_is (fun j hj => h j (by omega)) (by omega)
theorem whoN_no {P Q : Nat → Nat} {n pl : Nat} : ∀ {m : Nat}, (∀ j, j < m → plM P Q n j ≠ pl) → whoN P Q n pl m = 0
  | 0, _ => rfl
  | m + 1, h => by
    rw [whoN, if_neg (h m (by omega))]
    exact whoN_no (fun j hj => h j (by omega))
/-- a weight tells the rank -/
def isW (P Q W : Nat → Nat) (n : Nat) : Prop := (∀ q, q < n → (P q = 0 → W q = 1000000) ∧ (0 < P q → W q < 1000000)) ∧ ∀ q t, q < n → t < n → 0 < P q → 0 < P t → q ≠ t → (ahM P Q q t = true ↔ W q < W t)
theorem isW.cn {P Q W : Nat → Nat} {n p : Nat} (h : isW P Q W n) (hp : p < n) (h0 : 0 < P p) : plN P Q p n = cnt W n (W p) := sumN_cong (fun q hq => by
  have h1 := h.1 q hq
  have h2 := h.1 p hp
  have h3 := h.2 q p hq hp
  show (if _ then 1 else 0) = (if _ then 1 else 0)
  by_cases hqp : q = p
  · subst hqp
    rw [if_neg (fun z => z.1 rfl), if_neg (by omega)]
  · by_cases hq0 : P q = 0
    · have := h1.1 hq0
      rw [if_neg (fun z => by omega), if_neg (by have := h2.2 h0; omega)]
    · have h4 := h3 (by omega) h0 hqp
      by_cases hw : W q < W p
      · rw [if_pos ⟨hqp, by omega, h4.mpr hw⟩, if_pos hw]
      · rw [if_neg (fun z => hw (h4.mp z.2.2)), if_neg hw])
theorem isW.pl {P Q W : Nat → Nat} {n p : Nat} (h : isW P Q W n) (hp : p < n) : plM P Q n p = if W p = 1000000 then 0 else 1 + cnt W n (W p) := by
  have h2 := h.1 p hp
  by_cases h0 : P p = 0
  · rw [plM, if_pos h0, if_pos (h2.1 h0)]
  · rw [plM, if_neg h0, if_neg (by have := h2.2 (by omega); omega), h.cn hp (by omega)]
theorem isW.inj {P Q W : Nat → Nat} {n : Nat} (h : isW P Q W n) (hd : ∀ q t, 0 < P q → 0 < P t → q ≠ t → ahM P Q q t = true ∨ ahM P Q t q = true) : ∀ q t, q < n → t < n → W t < 1000000 → W q = W t → q = t := by
  intro q t hq ht h1 h2
  have g1 := h.1 q hq
  have g2 := h.1 t ht
  have p1 : 0 < P q := by
    rcases Nat.eq_zero_or_pos (P q) with z | z
    · have := g1.1 z; omega
    · exact z
  have p2 : 0 < P t := by
    rcases Nat.eq_zero_or_pos (P t) with z | z
    · have := g2.1 z; omega
    · exact z
  by_cases hqt : q = t
  · exact hqt
  · rcases hd q t p1 p2 hqt with z | z
    · have := (h.2 q t hq ht p1 p2 hqt).mp z; omega
    · have := (h.2 t q ht hq p2 p1 (fun z => hqt z.symm)).mp z; omega
theorem ahM_or (P Q : Nat → Nat) {q t : Nat} (h : q ≠ t) : ahM P Q q t = true ∨ ahM P Q t q = true := by
  unfold ahM
  by_cases h1 : P q = P t
  · rw [if_pos h1, if_pos h1.symm, decide_eq_true_eq, decide_eq_true_eq]; omega
  · rw [if_neg h1, if_neg (fun z => h1 z.symm), decide_eq_true_eq, decide_eq_true_eq]; omega
theorem isW.wh {P Q W : Nat → Nat} {n k : Nat} (h : isW P Q W n) (hk : 1 ≤ k) : (ouB W n k).2 = who P Q n k := by
  have hinj := h.inj (fun q t _ _ hn => ahM_or P Q hn)
  rcases ouB_sp hinj k with ⟨-, -, a3⟩ | ⟨a1, -, a3⟩
  · rcases a3 with a3 | ⟨t, b1, b2, b3, b4⟩
    · omega
    · rw [b1]
      refine (whoN_is (fun j hj => ?_) b2).symm
      rw [h.pl hj]
      constructor
      · intro hj2
        split at hj2
        · omega
        · rename_i hne
          have hj3 : W j < 1000000 := by
            have := h.1 j hj
            rcases Nat.eq_zero_or_pos (P j) with z | z
            · exact absurd (this.1 z) hne
            · exact this.2 z
          have c1 := cnt_suc hj (fun q hq he => hinj q j hq hj hj3 he)
          have c2 := cnt_suc b2 (fun q hq he => hinj q t hq b2 b3 he)
          rcases Nat.lt_trichotomy (W j) (W t) with z | z | z
          · have := cnt_mono (W := W) (n := n) (show W j + 1 ≤ W t by omega); omega
          · exact hinj j t hj b2 b3 z
          · have := cnt_mono (W := W) (n := n) (show W t + 1 ≤ W j by omega); omega
      · intro hjt
        subst hjt
        rw [if_neg (by omega)]; omega
  · rw [a1]
    refine (whoN_no (fun j hj => ?_)).symm
    rw [h.pl hj]
    intro hj2
    split at hj2
    · omega
    · rename_i hne
      have hj3 : W j < 1000000 := by
        have := h.1 j hj
        rcases Nat.eq_zero_or_pos (P j) with z | z
        · exact absurd (this.1 z) hne
        · exact this.2 z
      have c1 := cnt_suc hj (fun q hq he => hinj q j hq hj hj3 he)
      have := cnt_mono (W := W) (n := n) (show W j + 1 ≤ 1000000 by omega)
      omega
/-! the law's weights are such -/
theorem gms_le1 {N : Nat → Nat} {F : Nat → Nat → Nat} (hI : Ih N F) {s p n : Nat} (hn : n ≤ N 6) : gms F s p n ≤ n := by
  have h := sumN_le (f := gmC F s p) (c := 1) (n := n) (fun i hi => by
    have h1 := hI.m (m := i) (by omega)
    unfold gmC
    split
    · split <;> split <;> omega
    · omega)
  unfold gms; omega
theorem wS_b {N : Nat → Nat} {F : Nat → Nat → Nat} (hI : Ih N F) (h6 : N 6 ≤ 60) {s p : Nat} (hp : p < 16) : wS F s (N 6) p ≤ 1000000 ∧ (pts F s p (N 6) = 0 → wS F s (N 6) p = 1000000) ∧ (0 < pts F s p (N 6) → wS F s (N 6) p < 1000000) ∧ gms F s p (N 6) ≤ 60 ∧ pts F s p (N 6) ≤ 400 := by
  have h1 := gms_le1 hI (s := s) (p := p) (Nat.le_refl _)
  have h2 := pts_le F s p (n := N 6) (by omega)
  unfold wS
  split
  · omega
  · omega
theorem wS_v {F : Nat → Nat → Nat} {s n p : Nat} (h : 0 < pts F s p n) : wS F s n p = (1000 - pts F s p n) * 1000 + gms F s p n * 16 + p := if_neg (by omega)
theorem wS_is {N : Nat → Nat} {F : Nat → Nat → Nat} (hI : Ih N F) (h6 : N 6 ≤ 60) (s : Nat) : isW (fun p => pts F s p (N 6)) (fun p => gms F s p (N 6)) (wW N F s) (N 1) := by
  have hn := hI.n
  refine ⟨fun q hq => ?_, fun q t hq ht h1 h2 hqt => ?_⟩
  · have := wS_b hI h6 (s := s) (p := q) (by omega)
    exact ⟨fun z => this.2.1 z, fun z => this.2.2.1 z⟩
  · have b1 := wS_b hI h6 (s := s) (p := q) (by omega)
    have b2 := wS_b hI h6 (s := s) (p := t) (by omega)
    show _ ↔ wS F s (N 6) q < wS F s (N 6) t
    have h1 : 0 < pts F s q (N 6) := h1
    have h2 : 0 < pts F s t (N 6) := h2
    have e : ahM (fun p => pts F s p (N 6)) (fun p => gms F s p (N 6)) q t = if pts F s q (N 6) = pts F s t (N 6) then decide (gms F s q (N 6) < gms F s t (N 6) ∨ (gms F s q (N 6) = gms F s t (N 6) ∧ q < t)) else decide (pts F s t (N 6) < pts F s q (N 6)) := rfl
    rw [e, wS_v h1, wS_v h2]
    by_cases he : pts F s q (N 6) = pts F s t (N 6)
    · rw [if_pos he, decide_eq_true_eq, he]; omega
    · rw [if_neg he, decide_eq_true_eq]; omega
theorem ouB_heir {N : Nat → Nat} {F : Nat → Nat → Nat} (hI : Ih N F) (h6 : N 6 ≤ 60) (s : Nat) {k : Nat} (hk : 1 ≤ k) : (ouB (wW N F s) (N 1) k).2 = heirS N F s k := (wS_is hI h6 s).wh hk
theorem wW_pl {N : Nat → Nat} {F : Nat → Nat → Nat} (hI : Ih N F) (h6 : N 6 ≤ 60) (s : Nat) {p : Nat} (hp : p < N 1) : plM (fun p => pts F s p (N 6)) (fun p => gms F s p (N 6)) (N 1) p = if wS F s (N 6) p = 1000000 then 0 else 1 + cnt (wW N F s) (N 1) (wS F s (N 6) p) := (wS_is hI h6 s).pl hp
