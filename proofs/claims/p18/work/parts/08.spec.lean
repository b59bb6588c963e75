/-! What both sides mean: a state of the league as whole numbers (N, F) and money (B), by the reference's fields' places -/
def iR (p : Int32) (n : Nat) : Bool := decide (0 ≤ p.toInt ∧ p.toInt < (n : Int))
theorem iR_t {p : Int32} {n : Nat} (h : iR p n = true) (hn : n < 2 ^ 31) : ∃ j : Nat, j < n ∧ p = nI j := vp_in_of (vp_in_iff.mpr (of_decide_eq_true h)) hn
theorem iR_nI {j n : Nat} (hj : j < 2 ^ 31) : iR (nI j) n = decide (j < n) := by
  unfold iR
  rw [nI_toInt hj]
  exact decide_eq_decide.mpr ⟨fun h => by omega, fun h => by omega⟩
def goodS (F : Nat → Nat → Nat) (m : Nat) : Bool := decide (F 2 (F 7 m) = 0 ∨ F 10 m + 1 < F 2 (F 7 m))
def sumN (f : Nat → Nat) : Nat → Nat
  | 0 => 0
  | n + 1 => sumN f n + f n
def ptC (F : Nat → Nat → Nat) (s p m : Nat) : Nat := if F 11 m = s ∧ goodS F m = true then (if F 7 m = p then 3 else 0) + (if F 8 m = p then 1 else 0) else 0
def gmC (F : Nat → Nat → Nat) (s p m : Nat) : Nat := if F 11 m = s ∧ goodS F m = true then (if F 7 m = p then 1 else 0) + (if F 8 m = p then 1 else 0) else 0
def pts (F : Nat → Nat → Nat) (s p n : Nat) : Nat := sumN (ptC F s p) n
def gms (F : Nat → Nat → Nat) (s p n : Nat) : Nat := sumN (gmC F s p) n
def tdC (F : Nat → Nat → Nat) (d r m : Nat) : Nat := if F 9 m = r ∧ F 10 m = d then 1 else 0
def tdy (F : Nat → Nat → Nat) (d r n : Nat) : Nat := sumN (tdC F d r) n
def badN (F : Nat → Nat → Nat) (n : Nat) : Nat := sumN (fun m => if goodS F m = true then 0 else 1) n
def ahM (P Q : Nat → Nat) (p q : Nat) : Bool := if P p = P q then decide (Q p < Q q ∨ (Q p = Q q ∧ p < q)) else decide (P q < P p)
def plN (P Q : Nat → Nat) (p n : Nat) : Nat := sumN (fun q => if q ≠ p ∧ 0 < P q ∧ ahM P Q q p = true then 1 else 0) n
def plM (P Q : Nat → Nat) (n p : Nat) : Nat := if P p = 0 then 0 else 1 + plN P Q p n
/-- the last player of n at a place, told by one more; 0 for nobody -/
def whoN (P Q : Nat → Nat) (n pl : Nat) : Nat → Nat
  | 0 => 0
  | j + 1 => if plM P Q n j = pl then j + 1 else whoN P Q n pl j
def who (P Q : Nat → Nat) (n pl : Nat) : Nat := whoN P Q n pl n
def heirS (N : Nat → Nat) (F : Nat → Nat → Nat) (s pl : Nat) : Nat := who (fun p => pts F s p (N 6)) (fun p => gms F s p (N 6)) (N 1) pl
def payS (B : Nat → Int32) (f t amt : Nat) : Nat → Int32 := if f = 0 ∨ t = 0 then B else upd (upd B (f - 1) (B (f - 1) - nI amt)) (t - 1) (upd B (f - 1) (B (f - 1) - nI amt) (t - 1) + nI amt)
def undoS (F : Nat → Nat → Nat) (k : Nat) (B : Nat → Int32) : Nat → Nat → Int32
  | 0 => B
  | n + 1 => undoS F k (payS B (F 22 (20 * k + n) + 1) (F 23 (20 * k + n) + 1) (F 24 (20 * k + n))) n
def set1 (F : Nat → Nat → Nat) (k i v : Nat) : Nat → Nat → Nat := va_up F k (va_up (F k) i v)
def inhF (F : Nat → Nat → Nat) (k h : Nat) : Nat → Nat → Nat := if F 20 k = 0 then set1 (set1 (set1 (set1 F 21 k 0) 17 k h) 18 k 0) 16 k h else set1 F 16 k h
def inhB (F : Nat → Nat → Nat) (B : Nat → Int32) (k h : Nat) : Nat → Int32 := if F 20 k = 0 then undoS F k B (F 21 k) else payS B (F 16 k) h (F 24 (20 * k + (F 20 k - 1)))
def lookS (N : Nat → Nat) (F : Nat → Nat → Nat) (B : Nat → Int32) : Nat → (Nat → Nat → Nat) × (Nat → Int32)
  | 0 => (F, B)
  | k + 1 => if heirS N F (F 14 k) (F 15 k) = (lookS N F B k).1 16 k then lookS N F B k else (inhF (lookS N F B k).1 k (heirS N F (F 14 k) (F 15 k)), inhB (lookS N F B k).1 (lookS N F B k).2 k (heirS N F (F 14 k) (F 15 k)))
/-- what every state keeps -/
def IvM (N : Nat → Nat) (F : Nat → Nat → Nat) (m : Nat) : Prop := F 7 m < N 1 ∧ F 8 m < N 1 ∧ F 7 m ≠ F 8 m ∧ F 9 m < 4 ∧ F 10 m ≤ N 0 ∧ F 11 m ≤ N 12
def IvK (N : Nat → Nat) (F : Nat → Nat → Nat) (k : Nat) : Prop := F 14 k < N 12 ∧ 1 ≤ F 15 k ∧ F 15 k ≤ 3 ∧ F 16 k ≤ N 1 ∧ F 17 k ≤ N 1 ∧ F 18 k ≤ N 1 ∧ F 19 k ≤ 260000 ∧ F 21 k ≤ 20 ∧ F 20 k ≤ F 21 k
def IvS (N : Nat → Nat) (F : Nat → Nat → Nat) (i : Nat) : Prop := F 22 i < N 1 ∧ F 23 i < N 1 ∧ F 24 i ≤ 10000
def Iv (N : Nat → Nat) (F : Nat → Nat → Nat) : Prop :=
  (N 1 ≤ 16 ∧ N 6 ≤ 100 ∧ N 12 ≤ 11 ∧ N 13 ≤ 3 * N 12 ∧ N 0 ≤ 250000) ∧ (∀ p, F 2 p ≤ 250001 ∧ F 3 p ≤ 260000) ∧ (∀ r, F 5 r ≤ 50) ∧ (∀ m, m < N 6 → IvM N F m) ∧ (∀ k, k < N 13 → IvK N F k) ∧ ∀ k j, k < N 13 → j < F 21 k → IvS N F (20 * k + j)
theorem Iv.n {N : Nat → Nat} {F : Nat → Nat → Nat} (h : Iv N F) : N 1 ≤ 16 ∧ N 6 ≤ 100 ∧ N 12 ≤ 11 ∧ N 13 ≤ 3 * N 12 ∧ N 0 ≤ 250000 := h.1
theorem Iv.p {N : Nat → Nat} {F : Nat → Nat → Nat} (h : Iv N F) (p : Nat) : F 2 p ≤ 250001 ∧ F 3 p ≤ 260000 := h.2.1 p
theorem Iv.r {N : Nat → Nat} {F : Nat → Nat → Nat} (h : Iv N F) (r : Nat) : F 5 r ≤ 50 := h.2.2.1 r
theorem Iv.m {N : Nat → Nat} {F : Nat → Nat → Nat} (h : Iv N F) {m : Nat} (hm : m < N 6) : F 7 m < N 1 ∧ F 8 m < N 1 ∧ F 7 m ≠ F 8 m ∧ F 9 m < 4 ∧ F 10 m ≤ N 0 ∧ F 11 m ≤ N 12 := h.2.2.2.1 m hm
theorem Iv.k {N : Nat → Nat} {F : Nat → Nat → Nat} (h : Iv N F) {k : Nat} (hk : k < N 13) : F 14 k < N 12 ∧ 1 ≤ F 15 k ∧ F 15 k ≤ 3 ∧ F 16 k ≤ N 1 ∧ F 17 k ≤ N 1 ∧ F 18 k ≤ N 1 ∧ F 19 k ≤ 260000 ∧ F 21 k ≤ 20 ∧ F 20 k ≤ F 21 k := h.2.2.2.2.1 k hk
theorem Iv.s {N : Nat → Nat} {F : Nat → Nat → Nat} (h : Iv N F) {k j : Nat} (hk : k < N 13) (hj : j < F 21 k) : F 22 (20 * k + j) < N 1 ∧ F 23 (20 * k + j) < N 1 ∧ F 24 (20 * k + j) ≤ 10000 := h.2.2.2.2.2 k j hk hj
theorem sumN_le {f : Nat → Nat} {c : Nat} : ∀ {n : Nat}, (∀ i, i < n → f i ≤ c) → sumN f n ≤ n * c
  | 0, _ => by simp [sumN]
  | n + 1, h => by
    have h1 := sumN_le (n := n) (fun i hi => h i (by omega))
    have h2 := h n (by omega)
    rw [sumN, Nat.succ_mul]
    omega
theorem sumN_cong {f g : Nat → Nat} : ∀ {n : Nat}, (∀ i, i < n → f i = g i) → sumN f n = sumN g n
  | 0, _ => rfl
  | n + 1, h => by rw [sumN, sumN, sumN_cong (fun i hi => h i (by omega)), h n (by omega)]
theorem ptC_le (F : Nat → Nat → Nat) (s p m : Nat) : ptC F s p m ≤ 4 := by
  unfold ptC
  split
  · split <;> split <;> omega
  · omega
theorem gmC_le (F : Nat → Nat → Nat) (s p m : Nat) : gmC F s p m ≤ 2 := by
  unfold gmC
  split
  · split <;> split <;> omega
  · omega
theorem pts_le (F : Nat → Nat → Nat) (s p : Nat) {n : Nat} (hn : n ≤ 100) : pts F s p n ≤ 400 := by
  have h := sumN_le (f := ptC F s p) (c := 4) (n := n) (fun i _ => ptC_le F s p i)
  unfold pts
  omega
theorem gms_le (F : Nat → Nat → Nat) (s p : Nat) {n : Nat} (hn : n ≤ 100) : gms F s p n ≤ 200 := by
  have h := sumN_le (f := gmC F s p) (c := 2) (n := n) (fun i _ => gmC_le F s p i)
  unfold gms
  omega
theorem tdy_le (F : Nat → Nat → Nat) (d r n : Nat) : tdy F d r n ≤ n := by
  have h := sumN_le (f := tdC F d r) (c := 1) (n := n) (fun i _ => by unfold tdC; split <;> omega)
  unfold tdy
  omega
theorem badN_le (F : Nat → Nat → Nat) (n : Nat) : badN F n ≤ n := by
  have h := sumN_le (f := fun m => if goodS F m = true then 0 else 1) (c := 1) (n := n) (fun i _ => by show (if _ then _ else _) ≤ 1; split <;> omega)
  unfold badN
  omega
theorem plN_le (P Q : Nat → Nat) (p n : Nat) : plN P Q p n ≤ n := by
  have h := sumN_le (f := fun q => if q ≠ p ∧ 0 < P q ∧ ahM P Q q p = true then 1 else 0) (c := 1) (n := n) (fun i _ => by show (if _ then _ else _) ≤ 1; split <;> omega)
  unfold plN
  omega
theorem whoN_le (P Q : Nat → Nat) (n pl : Nat) : ∀ j, whoN P Q n pl j ≤ j
  | 0 => Nat.le_refl 0
  | j + 1 => by
    have := whoN_le P Q n pl j
    rw [whoN]
    split <;> omega
theorem heirS_le (N : Nat → Nat) (F : Nat → Nat → Nat) (s pl : Nat) : heirS N F s pl ≤ N 1 := whoN_le _ _ _ _ _
/-- the two rows that a count writes -/
def sc2 (F : Nat → Nat → Nat) (g h : Nat → Nat) : Nat → Nat → Nat := va_up (va_up F 25 g) 26 h
theorem sc2_25 (F : Nat → Nat → Nat) (g h : Nat → Nat) (i v : Nat) : va_up (sc2 F g h) 25 (va_up (sc2 F g h 25) i v) = sc2 F (va_up g i v) h := by
  funext k
  by_cases h1 : k = 25
  · subst h1; rfl
  · by_cases h2 : k = 26
    · subst h2; rfl
    · simp [sc2, va_up, h1, h2]
theorem sc2_26 (F : Nat → Nat → Nat) (g h : Nat → Nat) (i v : Nat) : va_up (sc2 F g h) 26 (va_up (sc2 F g h 26) i v) = sc2 F g (va_up h i v) := by
  funext k
  by_cases h1 : k = 25
  · subst h1; rfl
  · by_cases h2 : k = 26
    · subst h2; rfl
    · simp [sc2, va_up, h1, h2]
theorem sc2_self (F : Nat → Nat → Nat) : sc2 F (F 25) (F 26) = F := by
  funext k
  by_cases h1 : k = 25
  · subst h1; rfl
  · by_cases h2 : k = 26
    · subst h2; rfl
    · simp [sc2, va_up, h1, h2]
theorem bI_dec {c : Prop} [Decidable c] (h : c) : nI 1 = bI (decide c) := by rw [decide_eq_true h]; rfl
theorem bI_decN {c : Prop} [Decidable c] (h : ¬ c) : nI 0 = bI (decide c) := by rw [decide_eq_false h]; rfl
theorem bI_t {b : Bool} (h : b = true) : nI 1 = bI b := by rw [h]; rfl
theorem bI_f {b : Bool} (h : b = false) : nI 0 = bI b := by rw [h]; rfl
theorem pk_dec {n : Nat} (h : 1 ≤ n) : nI n + Int32.ofInt (-1) = nI (n - 1) := by
  obtain ⟨k, rfl⟩ : ∃ k, n = k + 1 := ⟨n - 1, by omega⟩
  exact pk_m1 k
