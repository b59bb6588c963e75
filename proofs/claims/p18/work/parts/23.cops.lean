theorem opA_suc (ad : Nat → Nat → Nat) (j : Nat) : opA ad (j + 1) = some (ad 1 j) := by simp [opA]
theorem fiA_suc (ad : Nat → Nat → Nat) (i j : Nat) : fiA ad i (j + 1) = some (ad 8 (20 * i + j)) := by simp [fiA]
theorem set1_self (F : Nat → Nat → Nat) (k i : Nat) : set1 F k i (F k i) = F := by
  funext a b
  by_cases ha : a = k
  · subst ha
    by_cases hb : b = i
    · subst hb; rw [set1_at]
    · rw [set1_off F (Or.inr hb)]
  · rw [set1_off F (Or.inl ha)]
/-- the class's own count of a place, and its finding of a place's player -/
def plC (P Q : Nat → Nat) (p n : Nat) : Nat := sumN (fun q => if ahM P Q q p = true then 1 else 0) n
theorem plC_le (P Q : Nat → Nat) (p n : Nat) : plC P Q p n ≤ n := by
  have h := sumN_le (f := fun q => if ahM P Q q p = true then 1 else 0) (c := 1) (n := n) (fun i _ => by show (if _ then _ else _) ≤ 1; split <;> omega)
  unfold plC
  omega
theorem plC_t {P Q : Nat → Nat} {p q : Nat} (h : ahM P Q q p = true) : plC P Q p q + 1 = plC P Q p (q + 1) := by
  show _ = sumN _ q + (if ahM P Q q p = true then 1 else 0)
  rw [if_pos h]; rfl
theorem plC_f {P Q : Nat → Nat} {p q : Nat} (h : ahM P Q q p = false) : plC P Q p q = plC P Q p (q + 1) := by
  show _ = sumN _ q + (if ahM P Q q p = true then 1 else 0)
  rw [if_neg (by rw [h]; decide)]; rfl
/-- is p the better one so far: it has points, stands behind the leader (told by one more), ahead of the one found (likewise) -/
def fbB (P Q : Nat → Nat) (lead f p : Nat) : Bool := decide (0 < P p ∧ (lead = 0 ∨ ahM P Q (lead - 1) p = true) ∧ (f = 0 ∨ ahM P Q p (f - 1) = true))
def fbS (P Q : Nat → Nat) (lead : Nat) : Nat → Nat
  | 0 => 0
  | n + 1 => if fbB P Q lead (fbS P Q lead n) n = true then n + 1 else fbS P Q lead n
theorem fbS_le (P Q : Nat → Nat) (lead : Nat) : ∀ n, fbS P Q lead n ≤ n
  | 0 => Nat.le_refl 0
  | n + 1 => by
    have := fbS_le P Q lead n
    rw [fbS]
    split <;> omega
theorem fbS_t {P Q : Nat → Nat} {lead f n : Nat} (hf : f = fbS P Q lead n) (h : fbB P Q lead f n = true) : n + 1 = fbS P Q lead (n + 1) := by rw [fbS, ← hf, if_pos h]
theorem fbS_f {P Q : Nat → Nat} {lead f n : Nat} (hf : f = fbS P Q lead n) (h : fbB P Q lead f n = false) : f = fbS P Q lead (n + 1) := by rw [fbS, ← hf, if_neg (by rw [h]; decide)]
/-- the player of a place (1, 2 ..), told by one more -/
def poS (P Q : Nat → Nat) : Nat → Nat
  | 0 => fbS P Q 0 16
  | n + 1 => if poS P Q n = 0 then 0 else fbS P Q (poS P Q n) 16
theorem poS_le (P Q : Nat → Nat) : ∀ n, poS P Q n ≤ 16
  | 0 => fbS_le _ _ _ _
  | n + 1 => by
    rw [poS]
    split
    · omega
    · exact fbS_le _ _ _ _
theorem poS_0 {P Q : Nat → Nat} {i : Nat} (h : poS P Q i = 0) : ∀ {n}, i ≤ n → poS P Q n = 0 := by
  intro n hn
  induction n with
  | zero => obtain rfl : i = 0 := by omega
            exact h
  | succ n ih =>
    by_cases hi : i = n + 1
    · subst hi; exact h
    · rw [poS, if_pos (ih (by omega))]
/-- goals of a match, in its season's rows -/
def adP (F P : Nat → Nat → Nat) (i : Nat) : Nat → Nat → Nat := if goodS F i = true then set1 (set1 P (F 11 i) (F 7 i) (P (F 11 i) (F 7 i) + 3)) (F 11 i) (F 8 i) (set1 P (F 11 i) (F 7 i) (P (F 11 i) (F 7 i) + 3) (F 11 i) (F 8 i) + 1) else P
def adQ (F Q : Nat → Nat → Nat) (i : Nat) : Nat → Nat → Nat := if goodS F i = true then set1 (set1 Q (F 11 i) (F 7 i) (Q (F 11 i) (F 7 i) + 1)) (F 11 i) (F 8 i) (set1 Q (F 11 i) (F 7 i) (Q (F 11 i) (F 7 i) + 1) (F 11 i) (F 8 i) + 1) else Q
