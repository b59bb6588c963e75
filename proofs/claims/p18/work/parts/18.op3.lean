theorem sc2_o (F : Nat → Nat → Nat) (g q : Nat → Nat) (k i v : Nat) (h1 : k ≠ 25) (h2 : k ≠ 26) : va_up (sc2 F g q) k (va_up (sc2 F g q k) i v) = sc2 (set1 F k i v) g q := by
  have e : sc2 F g q k = F k := by simp [sc2, va_up, h1, h2]
  rw [e]
  funext j
  unfold set1 sc2
  by_cases a : j = k
  · subst a; simp [va_up, h1, h2]
  · by_cases b : j = 26
    · subst b; simp [va_up, a]
    · by_cases c : j = 25
      · subst c; simp [va_up, a]
      · simp [va_up, a, b, c]
theorem sc2_14 (F : Nat → Nat → Nat) (g q : Nat → Nat) (i v : Nat) : va_up (sc2 F g q) 14 (va_up (sc2 F g q 14) i v) = sc2 (set1 F 14 i v) g q := sc2_o F g q 14 i v (by decide) (by decide)
theorem sc2_15 (F : Nat → Nat → Nat) (g q : Nat → Nat) (i v : Nat) : va_up (sc2 F g q) 15 (va_up (sc2 F g q 15) i v) = sc2 (set1 F 15 i v) g q := sc2_o F g q 15 i v (by decide) (by decide)
theorem sc2_16 (F : Nat → Nat → Nat) (g q : Nat → Nat) (i v : Nat) : va_up (sc2 F g q) 16 (va_up (sc2 F g q 16) i v) = sc2 (set1 F 16 i v) g q := sc2_o F g q 16 i v (by decide) (by decide)
theorem sc2_17 (F : Nat → Nat → Nat) (g q : Nat → Nat) (i v : Nat) : va_up (sc2 F g q) 17 (va_up (sc2 F g q 17) i v) = sc2 (set1 F 17 i v) g q := sc2_o F g q 17 i v (by decide) (by decide)
theorem sc2_18 (F : Nat → Nat → Nat) (g q : Nat → Nat) (i v : Nat) : va_up (sc2 F g q) 18 (va_up (sc2 F g q 18) i v) = sc2 (set1 F 18 i v) g q := sc2_o F g q 18 i v (by decide) (by decide)
theorem sc2_20 (F : Nat → Nat → Nat) (g q : Nat → Nat) (i v : Nat) : va_up (sc2 F g q) 20 (va_up (sc2 F g q 20) i v) = sc2 (set1 F 20 i v) g q := sc2_o F g q 20 i v (by decide) (by decide)
theorem sc2_21 (F : Nat → Nat → Nat) (g q : Nat → Nat) (i v : Nat) : va_up (sc2 F g q) 21 (va_up (sc2 F g q 21) i v) = sc2 (set1 F 21 i v) g q := sc2_o F g q 21 i v (by decide) (by decide)
theorem awF_SF {F F' : Nat → Nat → Nat} (h : SF F F') (k s pl v : Nat) : SF (awF F k s pl v) (awF F' k s pl v) := ((((((h.set 14 k s).set 15 k pl).set 16 k v).set 17 k v).set 18 k 0).set 20 k 0).set 21 k 0
theorem aw_t {N : Nat → Nat} {F F1 : Nat → Nat → Nat} {j n : Nat} (h1 : (awS N F j).1 = n) (h2 : SF (awS N F j).2 F1) (hne : ¬ heirS N F (N 12) (j + 1) = 0) : (awS N F (j + 1)).1 = n + 1 ∧ SF (awS N F (j + 1)).2 (awF F1 (N 13 + n) (N 12) (j + 1) (heirS N F (N 12) (j + 1))) := by
  rw [awS, if_neg hne, h1]
  exact ⟨rfl, awF_SF h2 _ _ _ _⟩
theorem aw_f {N : Nat → Nat} {F F1 : Nat → Nat → Nat} {j n : Nat} (h1 : (awS N F j).1 = n) (h2 : SF (awS N F j).2 F1) (he : heirS N F (N 12) (j + 1) = 0) : (awS N F (j + 1)).1 = n ∧ SF (awS N F (j + 1)).2 F1 := by
  rw [awS, if_pos he]
  exact ⟨h1, h2⟩
/-- the numbers while the prizes are won: n skins more -/
def NE (N N1 : Nat → Nat) (n : Nat) : Prop := (∀ k, k ≠ 13 → k ≠ 28 → k ≠ 29 → N1 k = N k) ∧ N1 13 = N 13 + n ∧ N1 29 = 0
theorem NE.eqs {N N1 : Nat → Nat} {n : Nat} (h : NE N N1 n) : N1 0 = N 0 ∧ N1 1 = N 1 ∧ N1 6 = N 6 ∧ N1 12 = N 12 ∧ N1 13 = N 13 + n := ⟨h.1 0 (by decide) (by decide) (by decide), h.1 1 (by decide) (by decide) (by decide), h.1 6 (by decide) (by decide) (by decide), h.1 12 (by decide) (by decide) (by decide), h.2.1⟩
theorem NE.up {N N1 : Nat → Nat} {n : Nat} (h : NE N N1 n) : NE N (va_up N1 13 (N1 13 + 1)) (n + 1) := ⟨fun k h1 h2 h3 => by rw [va_up_off _ _ h1]; exact h.1 k h1 h2 h3, by rw [va_up_at, h.2.1]; rfl, h.2.2⟩
theorem NE.st (N : Nat → Nat) : NE N (va_up N 29 0) 0 := ⟨fun k _ _ h => va_up_off _ _ h, rfl, rfl⟩
theorem NE.nd {N N1 : Nat → Nat} {F : Nat → Nat → Nat} {n : Nat} (h : NE N N1 n) (hn : (awS N F 3).1 = n) : SN (nEnd N F) (va_up N1 12 (N1 12 + 1)) := by
  intro k h1 h2
  unfold nEnd
  by_cases a : k = 12
  · subst a; rw [va_up_at, va_up_at, h.eqs.2.2.2.1]
  · rw [va_up_off _ _ a, va_up_off _ _ a]
    by_cases b : k = 13
    · subst b; rw [va_up_at, hn]; exact h.2.1
    · rw [va_up_off _ _ b]; exact h.1 k b h1 h2
/-- decimals -/
def dgs (v : Nat) : List Nat := if 9 < v then [48 + v / 10, 48 + v % 10] else [48 + v % 10]
def labL (F : Nat → Nat → Nat) (k : Nat) : List Nat := (((((dgs k ++ [58]) ++ dgs (F 14 k)) ++ [47]) ++ dgs (F 15 k))) ++ (if F 17 k = 0 then [] else [64] ++ dgs (F 17 k - 1))
def kLabel (N : Nat → Nat) (k pl : Int32) : Nat := if iR k (N 13) = true ∧ 0 ≤ pl.toInt then 0 else 1
def vLabel (F : Nat → Nat → Nat) (k pl : Nat) : Int32 := nI ((labL F k).getD pl 0)
def TX (N : Nat → Nat) (F : Nat → Nat → Nat) (L : List Nat) : Prop := N 28 = L.length ∧ ∀ j, j < L.length → F 27 j = L.getD j 0
def TXp (N : Nat → Nat) (F : Nat → Nat → Nat) (N' : Nat → Nat) (F' : Nat → Nat → Nat) (L : List Nat) : Prop := SN N N' ∧ N' 29 = N 29 ∧ SF F F' ∧ TX N' F' L
theorem TXp.put {N : Nat → Nat} {F : Nat → Nat → Nat} {L : List Nat} (h : TX N F L) (c : Nat) : TXp N F (va_up N 28 (N 28 + 1)) (set1 F 27 (N 28) c) (L ++ [c]) := by
  refine ⟨fun k h1 h2 => va_up_off _ _ h1, rfl, fun k h1 h2 h3 => ?_, ?_, fun j hj => ?_⟩
  · funext i; exact set1_off F (Or.inl h3)
  · rw [va_up_at, h.1]; simp
  · rw [List.length_append, List.length_singleton] at hj
    by_cases hjl : j = L.length
    · subst hjl
      rw [h.1, set1_at]
      simp
    · rw [set1_off F (Or.inr (by rw [h.1]; exact hjl)), h.2 j (by omega)]
      simp [List.getElem?_append_left (show j < L.length by omega)]
theorem TXp.trans {N N1 N2 : Nat → Nat} {F F1 F2 : Nat → Nat → Nat} {L1 L2 : List Nat} (h : TXp N F N1 F1 L1) (q : TXp N1 F1 N2 F2 L2) : TXp N F N2 F2 L2 := ⟨h.1.trans q.1, q.2.1.trans h.2.1, h.2.2.1.trans q.2.2.1, q.2.2.2⟩
theorem dgs_len (v : Nat) : (dgs v).length ≤ 2 := by unfold dgs; split <;> simp
theorem dgs_lt {v : Nat} (h : v ≤ 99) : ∀ c ∈ dgs v, c < 128 := by
  unfold dgs
  intro c hc
  split at hc
  · simp only [List.mem_cons, List.not_mem_nil, or_false] at hc
    omega
  · simp only [List.mem_cons, List.not_mem_nil, or_false] at hc
    omega
theorem labL_lt {F : Nat → Nat → Nat} {k : Nat} (h1 : k ≤ 99) (h2 : F 14 k ≤ 99) (h3 : F 15 k ≤ 99) (h4 : F 17 k ≤ 99) (j : Nat) : (labL F k).getD j 0 < 128 := by
  have hm : ∀ c ∈ labL F k, c < 128 := by
    intro c hc
    unfold labL at hc
    simp only [List.mem_append, List.mem_singleton] at hc
    rcases hc with ((((hc | hc) | hc) | hc) | hc) | hc
    · exact dgs_lt h1 c hc
    · omega
    · exact dgs_lt h2 c hc
    · omega
    · exact dgs_lt h3 c hc
    · split at hc
      · cases hc
      · simp only [List.mem_append, List.mem_singleton] at hc
        rcases hc with hc | hc
        · omega
        · exact dgs_lt (by omega) c hc
  rw [List.getD_eq_getElem?_getD]
  cases hq : (labL F k)[j]? with
  | none => simp
  | some c => exact hm c (List.mem_of_getElem? hq)
theorem labL_len (F : Nat → Nat → Nat) (k : Nat) : (labL F k).length ≤ 11 := by
  have h1 := dgs_len k
  have h2 := dgs_len (F 14 k)
  have h3 := dgs_len (F 15 k)
  have h4 := dgs_len (F 17 k - 1)
  unfold labL
  split
  · simp only [List.length_append, List.length_singleton, List.length_nil]
    omega
  · simp only [List.length_append, List.length_singleton, List.length_nil]
    omega
