/-! What every call keeps, counted by calls: a call passes 400 days at most -/
def LI (j : Nat) (N : Nat → Nat) (F : Nat → Nat → Nat) (B : Nat → Int32) : Prop := Iv N F ∧ Jv N F B ∧ N 0 ≤ 400 * j
theorem LI.more {j : Nat} {N : Nat → Nat} {F : Nat → Nat → Nat} {B : Nat → Int32} (h : LI j N F B) : LI (j + 1) N F B := ⟨h.1, h.2.1, by have := h.2.2; omega⟩
theorem LI.congr {j : Nat} {N N' : Nat → Nat} {F F' : Nat → Nat → Nat} {B : Nat → Int32} (h : LI j N F B) (hN : SN N N') (hF : SF F F') : LI j N' F' B := ⟨h.1.congr hN hF, h.2.1.congr hN hF, by rw [hN 0 (by decide) (by decide)]; exact h.2.2⟩
theorem ix_lt {p : Int32} {n : Nat} (h : iR p n = true) (hn : n < 2 ^ 31) : ix p < n := by
  obtain ⟨q, hq, rfl⟩ := iR_t h hn
  rw [ix_nI (by omega)]; exact hq
theorem ix_le {p : Int32} {a : Int} {n : Nat} (h : a ≤ p.toInt ∧ p.toInt ≤ (n : Int)) (ha : 0 ≤ a) : ix p ≤ n := by
  unfold ix; omega
theorem ix_ne {p q : Int32} {n : Nat} (h1 : iR p n = true) (h2 : iR q n = true) (hn : n < 2 ^ 31) (h : ¬ p = q) : ix p ≠ ix q := by
  obtain ⟨a, ha, rfl⟩ := iR_t h1 hn
  obtain ⟨b, hb, rfl⟩ := iR_t h2 hn
  rw [ix_nI (by omega), ix_nI (by omega)]
  intro e; exact h (by rw [e])
theorem and_t {a b : Bool} (h : ¬ (a && b) = false) : a = true ∧ b = true := by
  cases a <;> cases b <;> simp at h ⊢
theorem kPlayer_le (N : Nat → Nat) : kPlayer N ≤ 3 := by unfold kPlayer; split <;> omega
theorem kRoom_le (r its : Int32) : kRoom r its ≤ 3 := by unfold kRoom; (repeat' split) <;> omega
theorem kMatch_le (N : Nat → Nat) (F : Nat → Nat → Nat) (a b r : Int32) : kMatch N F a b r ≤ 3 := by unfold kMatch; (repeat' split) <;> omega
theorem kEnd_le (N : Nat → Nat) : kEnd N ≤ 3 := by unfold kEnd; split <;> omega
theorem kSell_le (N : Nat → Nat) (F : Nat → Nat → Nat) (a b r : Int32) : kSell N F a b r ≤ 3 := by unfold kSell; (repeat' split) <;> omega
theorem kLend_le (N : Nat → Nat) (F : Nat → Nat → Nat) (a b r : Int32) : kLend N F a b r ≤ 3 := by unfold kLend; (repeat' split) <;> omega
theorem kProof_le (N : Nat → Nat) (a b : Int32) : kProof N a b ≤ 3 := by unfold kProof; (repeat' split) <;> omega
theorem kClear_le (N : Nat → Nat) (F : Nat → Nat → Nat) (a : Int32) : kClear N F a ≤ 3 := by unfold kClear; (repeat' split) <;> omega
theorem kBan_le (N : Nat → Nat) (a b : Int32) : kBan N a b ≤ 3 := by unfold kBan; (repeat' split) <;> omega
theorem kPass_le (a : Int32) : kPass a ≤ 3 := by unfold kPass; split <;> omega
theorem kOne_le (b : Bool) : kOne b ≤ 3 := by unfold kOne; split <;> omega
theorem kRanked_le (N : Nat → Nat) (a b r : Int32) : kRanked N a b r ≤ 3 := by unfold kRanked; (repeat' split) <;> omega
theorem kSkinOf_le (N : Nat → Nat) (a b : Int32) : kSkinOf N a b ≤ 3 := by unfold kSkinOf; (repeat' split) <;> omega
theorem kLabel_le (N : Nat → Nat) (a b : Int32) : kLabel N a b ≤ 3 := by unfold kLabel; split <;> omega
section STP
variable {j : Nat} {N : Nat → Nat} {F : Nat → Nat → Nat} {B : Nat → Int32}
theorem stp_player (h : LI j N F B) (hk : kPlayer N = 0) : LI (j + 1) (va_up N 1 (N 1 + 1)) (set1 F 2 (N 1) 0) B := by
  have hn := h.1.n
  have h16 : N 1 < 16 := by
    unfold kPlayer at hk
    split at hk <;> omega
  exact ⟨h.1.pl h16, h.2.1.pl, h.more.2.2⟩
theorem stp_room (h : LI j N F B) {r its : Int32} (hk : kRoom r its = 0) : LI (j + 1) N (fRoom F r its) B := by
  have h50 : ix its ≤ 50 := by
    unfold kRoom at hk
    split at hk
    · omega
    · split at hk
      · rename_i h1; exact ix_le (n := 50) h1 (by decide)
      · omega
  exact ⟨h.1.set5 _ _ h50, h.2.1.s5 _ _, h.more.2.2⟩
theorem stp_match (h : LI j N F B) {a b r : Int32} (hk : kMatch N F a b r = 0) : LI (j + 1) (va_up N 6 (N 6 + 1)) (fMatch N F a b r) B := by
  have hn := h.1.n
  unfold kMatch at hk
  split at hk
  · omega
  · rename_i h1
    split at hk
    · omega
    · rename_i h2
      split at hk
      · rename_i h3
        obtain ⟨e1, e2⟩ := and_t h1
        obtain ⟨e2, e3⟩ := and_t (by rw [e2]; decide)
        have h4 := of_decide_eq_true h3
        exact ⟨h.1.mt h4.1 (ix_lt e1 (by omega)) (ix_lt e2 (by omega)) (ix_ne e1 e2 (by omega) h2) (ix_lt e3 (by decide)), h.2.1.mt _ _ _ _ _ _, h.more.2.2⟩
      · omega
theorem stp_end (h : LI j N F B) (hk : kEnd N = 0) : LI (j + 1) (nEnd N F) (awS N F 3).2 B := by
  have hn := h.1.n
  have h11 : N 12 < 11 := by
    unfold kEnd at hk
    split at hk <;> omega
  exact ⟨h.1.nd h.2.1 h11, Jv.nd h.1 h.2.1, h.more.2.2⟩
theorem stp_sell (h : LI j N F B) {k p z : Int32} (hk : kSell N F k p z = 0) : LI (j + 1) N (fSell F (ix k) (ix p) (ix z)) (bSell F B (ix k) (ix p) (ix z)) := by
  have hn := h.1.n
  unfold kSell at hk
  split at hk
  · omega
  · rename_i h1
    split at hk
    · omega
    · rename_i h2
      split at hk
      · rename_i h3
        obtain ⟨e1, e2⟩ := and_t h1
        have hkl := ix_lt e1 (by omega)
        have hpl := ix_lt e2 (by omega)
        have h4 := of_decide_eq_true h3.1
        have h5 := h.1.k hkl
        exact ⟨h.1.sl hkl hpl h4.1 (ix_le (n := 10000) (Decidable.of_not_not h2) (by decide)) h3.2, h.2.1.sl hpl (by omega), h.more.2.2⟩
      · omega
theorem stp_lend (h : LI j N F B) {k p z : Int32} (hk : kLend N F k p z = 0) : LI (j + 1) N (fLend N F (ix k) (ix p) (ix z)) B := by
  have hn := h.1.n
  unfold kLend at hk
  split at hk
  · omega
  · rename_i h1
    split at hk
    · omega
    · rename_i h2
      split at hk
      · rename_i h3
        obtain ⟨e1, e2⟩ := and_t h1
        have hkl := ix_lt e1 (by omega)
        have hpl := ix_lt e2 (by omega)
        have h4 := of_decide_eq_true h3
        exact ⟨h.1.ln hpl (ix_le (n := 100) (Decidable.of_not_not h2) (by decide)), h.2.1.ln hkl h4.1, h.more.2.2⟩
      · omega
theorem stp_look {F1 : Nat → Nat → Nat} (h : Iv N F1) (h2 : Jv N F1 B) (h3 : N 0 ≤ 400 * (j + 1)) : LI (j + 1) N (lookS N F1 B (N 13)).1 (lookS N F1 B (N 13)).2 := ⟨h.look B _ (Nat.le_refl _), h2.look h _ (Nat.le_refl _), h3⟩
theorem stp_proof (h : LI j N F B) {p d : Int32} (hk : kProof N p d = 0) : LI (j + 1) N (lookS N (fProof F (ix p) (ix d)) B (N 13)).1 (lookS N (fProof F (ix p) (ix d)) B (N 13)).2 := by
  have hn := h.1.n
  have hd : ix d ≤ 250000 := by
    unfold kProof at hk
    split at hk
    · omega
    · split at hk
      · rename_i h1; have := ix_le h1 (by decide); omega
      · omega
  exact stp_look (h.1.pf _ _ hd) (h.2.1.s2 _ _) h.more.2.2
theorem stp_clear (h : LI j N F B) {p : Int32} : LI (j + 1) N (lookS N (set1 F 2 (ix p) 0) B (N 13)).1 (lookS N (set1 F 2 (ix p) 0) B (N 13)).2 :=
  stp_look (h.1.set2 _ _ (by decide)) (h.2.1.s2 _ _) h.more.2.2
theorem stp_ban (h : LI j N F B) (hj : j ≤ 512) {p d : Int32} (hk : kBan N p d = 0) : LI (j + 1) N (set1 F 3 (ix p) (N 0 + ix d)) B := by
  have hn := h.1.n
  have h0 := h.2.2
  unfold kBan at hk
  split at hk
  · omega
  · rename_i h1
    have e1 : iR p (N 1) = true := by cases h9 : iR p (N 1) with
      | true => rfl
      | false => exact absurd h9 h1
    split at hk
    · rename_i h2
      have h3 := ix_le (n := 1000) h2 (by decide)
      exact ⟨h.1.bn _ _ (by omega), h.2.1.bn (ix_lt e1 (by omega)) _, h.more.2.2⟩
    · omega
theorem stp_pass (h : LI j N F B) (hj : j ≤ 512) {d : Int32} (hk : kPass d = 0) : LI (j + 1) (va_up N 0 (N 0 + ix d)) F B := by
  have h0 := h.2.2
  unfold kPass at hk
  split at hk
  · rename_i h1
    have h2 := ix_le (n := 400) h1 (by decide)
    exact ⟨h.1.ps _ (by omega) (by omega), h.2.1.ps _, show N 0 + ix d ≤ 400 * (j + 1) by omega⟩
  · omega
end STP
