/-! The league's calls as functions of a state: which exception (0: none), what answer, what state behind -/
def ix (p : Int32) : Nat := p.toInt.toNat
theorem ix_nI {j : Nat} (h : j < 2 ^ 31) : ix (nI j) = j := by rw [ix, nI_toInt h]; rfl
theorem tdy_t {F : Nat → Nat → Nat} {d r m : Nat} (h1 : F 9 m = r) (h2 : F 10 m = d) : tdy F d r m + 1 = tdy F d r (m + 1) := by
  show _ = sumN _ m + tdC F d r m
  rw [tdC, if_pos ⟨h1, h2⟩]; rfl
theorem tdy_f {F : Nat → Nat → Nat} {d r m : Nat} (h : ¬ (F 9 m = r ∧ F 10 m = d)) : tdy F d r m + 0 = tdy F d r (m + 1) := by
  show _ = sumN _ m + tdC F d r m
  rw [tdC, if_neg h]; rfl
theorem badN_t {F : Nat → Nat → Nat} {m : Nat} (h : goodS F m = true) : badN F m + 0 = badN F (m + 1) := by
  show _ = sumN _ m + (if goodS F m = true then 0 else 1)
  rw [if_pos h]; rfl
theorem badN_f {F : Nat → Nat → Nat} {m : Nat} (h : goodS F m = false) : badN F m + 1 = badN F (m + 1) := by
  show _ = sumN _ m + (if goodS F m = true then 0 else 1)
  rw [if_neg (by rw [h]; decide)]; rfl
theorem cnt_t {F : Nat → Nat → Nat} {s m n : Nat} {g h : Nat → Nat} (hg : ∀ p, p < n → g p = pts F s p m ∧ h p = gms F s p m) (h1 : F 11 m = s) (h2 : goodS F m = true) :
    ∀ p, p < n → va_up (va_up g (F 7 m) (g (F 7 m) + 3)) (F 8 m) (va_up g (F 7 m) (g (F 7 m) + 3) (F 8 m) + 1) p = pts F s p (m + 1) ∧ va_up (va_up h (F 7 m) (h (F 7 m) + 1)) (F 8 m) (va_up h (F 7 m) (h (F 7 m) + 1) (F 8 m) + 1) p = gms F s p (m + 1) := by
  intro p hp
  obtain ⟨e1, e2⟩ := hg p hp
  have a1 : pts F s p (m + 1) = pts F s p m + ptC F s p m := rfl
  have a2 : gms F s p (m + 1) = gms F s p m + gmC F s p m := rfl
  have c1 : ptC F s p m = (if F 7 m = p then 3 else 0) + (if F 8 m = p then 1 else 0) := if_pos ⟨h1, h2⟩
  have c2 : gmC F s p m = (if F 7 m = p then 1 else 0) + (if F 8 m = p then 1 else 0) := if_pos ⟨h1, h2⟩
  rw [a1, a2, ← e1, ← e2, c1, c2]
  by_cases hw : F 7 m = p
  · subst hw
    by_cases hl : F 8 m = F 7 m
    · simp [va_up, hl]
    · have hl' : ¬ F 7 m = F 8 m := fun q => hl q.symm
      simp [va_up, hl, hl']
  · have hw' : ¬ p = F 7 m := fun q => hw q.symm
    by_cases hl : F 8 m = p
    · subst hl
      simp [va_up, hw, hw']
    · have hl' : ¬ p = F 8 m := fun q => hl q.symm
      simp [va_up, hw, hw', hl, hl']
theorem cnt_f {F : Nat → Nat → Nat} {s m n : Nat} {g h : Nat → Nat} (hg : ∀ p, p < n → g p = pts F s p m ∧ h p = gms F s p m) (h1 : ¬ (F 11 m = s ∧ goodS F m = true)) : ∀ p, p < n → g p = pts F s p (m + 1) ∧ h p = gms F s p (m + 1) := by
  intro p hp
  obtain ⟨e1, e2⟩ := hg p hp
  have a1 : pts F s p (m + 1) = pts F s p m + ptC F s p m := rfl
  have a2 : gms F s p (m + 1) = gms F s p m + gmC F s p m := rfl
  rw [a1, a2, ← e1, ← e2, ptC, gmC, if_neg h1, if_neg h1]
  exact ⟨rfl, rfl⟩
theorem cnt_z {i : Nat} {g h : Nat → Nat} (hg : ∀ p, p < i → g p = 0 ∧ h p = 0) : ∀ p, p < i + 1 → va_up g i 0 p = 0 ∧ va_up h i 0 p = 0 := by
  intro p hp
  by_cases hpi : p = i
  · subst hpi
    simp [va_up]
  · simp only [va_up, if_neg hpi]
    exact hg p (by omega)
theorem cnt_b {F : Nat → Nat → Nat} {s m n q : Nat} {g h : Nat → Nat} (hg : ∀ p, p < n → g p = pts F s p m ∧ h p = gms F s p m) (hm : m ≤ 100) (hq : q < n) : g q ≤ 400 ∧ h q ≤ 200 := by
  obtain ⟨e1, e2⟩ := hg q hq
  rw [e1, e2]
  exact ⟨pts_le F s q hm, gms_le F s q hm⟩
theorem plN_t {P Q : Nat → Nat} {p q : Nat} (h1 : q ≠ p) (h2 : 0 < P q) (h3 : ahM P Q q p = true) : plN P Q p q + 1 = plN P Q p (q + 1) := by
  show _ = sumN _ q + (if q ≠ p ∧ 0 < P q ∧ ahM P Q q p = true then 1 else 0)
  rw [if_pos ⟨h1, h2, h3⟩]; rfl
theorem plN_f {P Q : Nat → Nat} {p q : Nat} (h : ¬ (q ≠ p ∧ 0 < P q ∧ ahM P Q q p = true)) : plN P Q p q + 0 = plN P Q p (q + 1) := by
  show _ = sumN _ q + (if q ≠ p ∧ 0 < P q ∧ ahM P Q q p = true then 1 else 0)
  rw [if_neg h]; rfl
theorem ahM_congr {P Q P' Q' : Nat → Nat} {p q : Nat} (h1 : P p = P' p) (h2 : P q = P' q) (h3 : Q p = Q' p) (h4 : Q q = Q' q) : ahM P Q p q = ahM P' Q' p q := by
  simp only [ahM, h1, h2, h3, h4]
theorem plN_congr {P Q P' Q' : Nat → Nat} {p n : Nat} (hp : P p = P' p ∧ Q p = Q' p) (h : ∀ q, q < n → P q = P' q ∧ Q q = Q' q) : plN P Q p n = plN P' Q' p n :=
  sumN_cong (fun q hq => by rw [(h q hq).1, ahM_congr (h q hq).1 hp.1 (h q hq).2 hp.2])
theorem plM_congr {P Q P' Q' : Nat → Nat} {p n : Nat} (hp : P p = P' p ∧ Q p = Q' p) (h : ∀ q, q < n → P q = P' q ∧ Q q = Q' q) : plM P Q n p = plM P' Q' n p := by
  rw [plM, plM, plN_congr hp h, hp.1]
theorem whoN_congr {P Q P' Q' : Nat → Nat} {n pl : Nat} (h : ∀ q, q < n → P q = P' q ∧ Q q = Q' q) : ∀ j, j ≤ n → whoN P Q n pl j = whoN P' Q' n pl j
  | 0, _ => rfl
  | j + 1, hj => by rw [whoN, whoN, plM_congr (h j (by omega)) h, whoN_congr h j (by omega)]
theorem who_heir {N : Nat → Nat} {F : Nat → Nat → Nat} {s pl : Nat} {g h : Nat → Nat} (hg : ∀ p, p < N 1 → g p = pts F s p (N 6) ∧ h p = gms F s p (N 6)) : who g h (N 1) pl = heirS N F s pl := whoN_congr hg _ (Nat.le_refl _)
theorem whoN_t {P Q : Nat → Nat} {n pl j : Nat} (h : plM P Q n j = pl) : j + 1 = whoN P Q n pl (j + 1) := by rw [whoN, if_pos h]
theorem whoN_f {P Q : Nat → Nat} {n pl j : Nat} (h : ¬ plM P Q n j = pl) : whoN P Q n pl j = whoN P Q n pl (j + 1) := by rw [whoN, if_neg h]
theorem plM_le (P Q : Nat → Nat) (n p : Nat) : plM P Q n p ≤ n + 1 := by
  unfold plM
  have := plN_le P Q p n
  split <;> omega
-- the calls
def kPlayer (N : Nat → Nat) : Nat := if N 1 = 16 then 1 else 0
def kRoom (r its : Int32) : Nat := if iR r 4 = false then 1 else if 0 ≤ its.toInt ∧ its.toInt ≤ 50 then 0 else 2
def fRoom (F : Nat → Nat → Nat) (r its : Int32) : Nat → Nat → Nat := set1 F 5 (ix r) (ix its)
def cMatch (N : Nat → Nat) (F : Nat → Nat → Nat) (a b r : Nat) : Bool := decide (N 6 < 100 ∧ F 3 a ≤ N 0 ∧ F 3 b ≤ N 0 ∧ tdy F (N 0) r (N 6) < F 5 r)
def kMatch (N : Nat → Nat) (F : Nat → Nat → Nat) (a b r : Int32) : Nat := if (iR a (N 1) && (iR b (N 1) && iR r 4)) = false then 1 else if a = b then 2 else if cMatch N F (ix a) (ix b) (ix r) = true then 0 else 3
def fMatch (N : Nat → Nat) (F : Nat → Nat → Nat) (a b r : Int32) : Nat → Nat → Nat := set1 (set1 (set1 (set1 (set1 F 7 (N 6) (ix a)) 8 (N 6) (ix b)) 9 (N 6) (ix r)) 10 (N 6) (N 0)) 11 (N 6) (N 12)
def kEnd (N : Nat → Nat) : Nat := if N 12 = 11 then 1 else 0
def awF (F : Nat → Nat → Nat) (k s pl h : Nat) : Nat → Nat → Nat := set1 (set1 (set1 (set1 (set1 (set1 (set1 F 14 k s) 15 k pl) 16 k h) 17 k h) 18 k 0) 20 k 0) 21 k 0
/-- the prizes of the places 1 to n, of the season that is on: skins won, the rows -/
def awS (N : Nat → Nat) (F : Nat → Nat → Nat) : Nat → Nat × (Nat → Nat → Nat)
  | 0 => (0, F)
  | n + 1 => if heirS N F (N 12) (n + 1) = 0 then awS N F n else ((awS N F n).1 + 1, awF (awS N F n).2 (N 13 + (awS N F n).1) (N 12) (n + 1) (heirS N F (N 12) (n + 1)))
def nEnd (N : Nat → Nat) (F : Nat → Nat → Nat) : Nat → Nat := va_up (va_up N 13 (N 13 + (awS N F 3).1)) 12 (N 12 + 1)
def cDeal (N : Nat → Nat) (F : Nat → Nat → Nat) (k p : Nat) : Bool := decide (F 17 k ≠ 0 ∧ F 17 k ≠ p + 1 ∧ F 3 (F 17 k - 1) ≤ N 0 ∧ F 3 p ≤ N 0)
def kSell (N : Nat → Nat) (F : Nat → Nat → Nat) (k p its : Int32) : Nat := if (iR k (N 13) && iR p (N 1)) = false then 1 else if ¬ (0 ≤ its.toInt ∧ its.toInt ≤ 10000) then 2 else if cDeal N F (ix k) (ix p) = true ∧ F 21 (ix k) < 20 then 0 else 3
def faithS (F : Nat → Nat → Nat) (k p : Nat) : Bool := decide (F 2 (F 17 k - 1) = 0 ∧ F 2 p = 0)
def fSell (F : Nat → Nat → Nat) (k p its : Nat) : Nat → Nat → Nat := set1 (set1 (set1 (set1 (set1 (set1 (set1 F 22 (20 * k + F 21 k) (F 17 k - 1)) 23 (20 * k + F 21 k) p) 24 (20 * k + F 21 k) its) 20 k (if faithS F k p = true ∧ F 20 k = 0 then F 21 k + 1 else F 20 k)) 21 k (F 21 k + 1)) 17 k (p + 1)) 18 k 0
def bSell (F : Nat → Nat → Nat) (B : Nat → Int32) (k p its : Nat) : Nat → Int32 := upd (upd B (F 17 k - 1) (B (F 17 k - 1) + nI its)) p (upd B (F 17 k - 1) (B (F 17 k - 1) + nI its) p - nI its)
def kLend (N : Nat → Nat) (F : Nat → Nat → Nat) (k p days : Int32) : Nat := if (iR k (N 13) && iR p (N 1)) = false then 1 else if ¬ (1 ≤ days.toInt ∧ days.toInt ≤ 100) then 2 else if cDeal N F (ix k) (ix p) = true then 0 else 3
def fLend (N : Nat → Nat) (F : Nat → Nat → Nat) (k p days : Nat) : Nat → Nat → Nat := set1 (set1 F 18 k (p + 1)) 19 k (N 0 + days - 1)
def kProof (N : Nat → Nat) (p d : Int32) : Nat := if iR p (N 1) = false then 1 else if 0 ≤ d.toInt ∧ d.toInt ≤ N 0 then 0 else 2
def fProof (F : Nat → Nat → Nat) (p d : Nat) : Nat → Nat → Nat := set1 F 2 p (if F 2 p = 0 ∨ d + 1 < F 2 p then d + 1 else F 2 p)
def kClear (N : Nat → Nat) (F : Nat → Nat → Nat) (p : Int32) : Nat := if iR p (N 1) = false then 1 else if F 2 (ix p) = 0 then 2 else 0
def kBan (N : Nat → Nat) (p days : Int32) : Nat := if iR p (N 1) = false then 1 else if 0 ≤ days.toInt ∧ days.toInt ≤ 1000 then 0 else 2
def kPass (days : Int32) : Nat := if 1 ≤ days.toInt ∧ days.toInt ≤ 400 then 0 else 1
def kOne (b : Bool) : Nat := if b = true then 0 else 1
def kRanked (N : Nat → Nat) (s p what : Int32) : Nat := if (iR s (N 12 + 1) && iR p (N 1)) = false then 1 else if 0 ≤ what.toInt ∧ what.toInt ≤ 2 then 0 else 2
def vRanked (N : Nat → Nat) (F : Nat → Nat → Nat) (s p what : Nat) : Nat := if what = 0 then pts F s p (N 6) else if what = 1 then gms F s p (N 6) else plM (fun p => pts F s p (N 6)) (fun p => gms F s p (N 6)) (N 1) p
def kSkinOf (N : Nat → Nat) (k what : Int32) : Nat := if iR k (N 13) = false then 1 else if 0 ≤ what.toInt ∧ what.toInt ≤ 6 then 0 else 2
def userS (N : Nat → Nat) (F : Nat → Nat → Nat) (k : Nat) : Nat := if F 17 k ≠ 0 ∧ F 18 k ≠ 0 ∧ N 0 ≤ F 19 k then F 18 k else F 17 k
def vSkinOf (N : Nat → Nat) (F : Nat → Nat → Nat) (k what : Nat) : Int32 := if what = 0 then nI (F 17 k) - 1 else if what = 1 then nI (F 16 k) - 1 else if what = 2 then nI (userS N F k) - 1 else if what = 3 then nI (F 14 k) else if what = 4 then nI (F 15 k) else if what = 5 then nI (F 21 k) else if F 20 k = 0 then 0 else 1
/-- the same state but for what the reference counts with -/
def SN (N N' : Nat → Nat) : Prop := ∀ k, k ≠ 28 → k ≠ 29 → N' k = N k
def SF (F F' : Nat → Nat → Nat) : Prop := ∀ k, k ≠ 25 → k ≠ 26 → k ≠ 27 → F' k = F k
theorem SN.rf (N : Nat → Nat) : SN N N := fun _ _ _ => rfl
theorem SF.rf (F : Nat → Nat → Nat) : SF F F := fun _ _ _ _ => rfl
theorem SN.up {N N' : Nat → Nat} (h : SN N N') {k v : Nat} (hk : k = 28 ∨ k = 29) : SN N (va_up N' k v) := fun j h1 h2 => by rw [va_up_off N' v (by omega)]; exact h j h1 h2
theorem SF.sc {F F' : Nat → Nat → Nat} (h : SF F F') (g q : Nat → Nat) : SF F (sc2 F' g q) := fun j h1 h2 h3 => by simp only [sc2, va_up, if_neg h1, if_neg h2]; exact h j h1 h2 h3
/-- an answer of the reference: which exception, what answer, what state -/
def MA (r : Option Value) (N' : Nat → Nat) (F' : Nat → Nat → Nat) (B' : Nat → Int32) (k : Nat) (v : Int32) (N1 : Nat → Nat) (F1 : Nat → Nat → Nat) (B1 : Nat → Int32) (N : Nat → Nat) (F : Nat → Nat → Nat) (B : Nat → Int32) : Prop :=
  N' 29 = k ∧ (∃ w : Int32, r = some (.int w) ∧ (k = 0 → w = v)) ∧ (k = 0 → SN N1 N' ∧ SF F1 F' ∧ B' = B1) ∧ (k ≠ 0 → SN N N' ∧ SF F F' ∧ B' = B)
