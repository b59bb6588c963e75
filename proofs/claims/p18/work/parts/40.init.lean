/-! Constructors: all cells listed -/
def PL (M : Mem) (L : List (Nat × va_E)) : Prop := (∀ (i j : Nat) (p q : Nat × va_E), L[i]? = some p → L[j]? = some q → p.1 = q.1 → i = j) ∧ ∀ (i : Nat) (p : Nat × va_E), L[i]? = some p → M p.1 = some p.2
theorem PL.one {M : Mem} {a : Nat} {e : va_E} (h : M a = some e) : PL M [(a, e)] := by
  refine ⟨fun i j p q hi hj _ => ?_, fun i p hi => ?_⟩
  · have h1 := (List.getElem?_eq_some_iff.mp hi).1
    have h2 := (List.getElem?_eq_some_iff.mp hj).1
    simp at h1 h2
    omega
  · match i with
    | 0 => cases hi; exact h
    | i + 1 => simp at hi
theorem PL.at {M : Mem} {L : List (Nat × va_E)} (h : PL M L) (j : Nat) {a : Nat} {e : va_E} (hj : L[j]? = some (a, e)) : M a = some e := h.2 j _ hj
theorem mU_nn2 {M : Mem} {a b : Nat} {e : va_E} (h : M b = none) (hb : M a = some e) : b ≠ a := fun z => mU_nn h hb z.symm
theorem PL.new {M : Mem} {L : List (Nat × va_E)} (h : PL M L) {a : Nat} (hn : M a = none) (e : va_E) : PL (mU M a e) (L ++ [(a, e)]) := by
  have key : ∀ (i : Nat) (p : Nat × va_E), (L ++ [(a, e)])[i]? = some p → (i < L.length ∧ L[i]? = some p ∧ p.1 ≠ a) ∨ (i = L.length ∧ p = (a, e)) := by
    intro i p hi
    rw [List.getElem?_append] at hi
    by_cases hl : i < L.length
    · rw [if_pos hl] at hi
      exact Or.inl ⟨hl, hi, fun z => by have := h.2 i p hi; rw [z, hn] at this; cases this⟩
    · rw [if_neg hl] at hi
      have h1 := (List.getElem?_eq_some_iff.mp hi).1
      simp at h1
      have h2 : i - L.length = 0 := by omega
      rw [h2] at hi
      cases hi
      exact Or.inr ⟨by omega, rfl⟩
  refine ⟨fun i j p q hi hj he => ?_, fun i p hi => ?_⟩
  · rcases key i p hi with ⟨a1, a2, a3⟩ | ⟨rfl, rfl⟩ <;> rcases key j q hj with ⟨b1, b2, b3⟩ | ⟨rfl, rfl⟩
    · exact h.1 i j p q a2 b2 he
    · exact absurd he a3
    · exact absurd he.symm b3
    · rfl
  · rcases key i p hi with ⟨_, a2, a3⟩ | ⟨_, rfl⟩
    · rw [mU_ne a3]; exact h.2 i p a2
    · exact mU_eq _ _ _
theorem PL.put {M : Mem} {L : List (Nat × va_E)} (h : PL M L) (j : Nat) {a : Nat} {e0 : va_E} (hj : L[j]? = some (a, e0)) (e : va_E) : PL (mU M a e) (L.set j (a, e)) := by
  have hjl := (List.getElem?_eq_some_iff.mp hj).1
  have key : ∀ (i : Nat) (p : Nat × va_E), (L.set j (a, e))[i]? = some p → (i ≠ j ∧ L[i]? = some p ∧ p.1 ≠ a) ∨ (i = j ∧ p = (a, e)) := by
    intro i p hi
    rw [List.getElem?_set] at hi
    by_cases hij : j = i
    · subst hij
      rw [if_pos rfl, if_pos hjl] at hi
      cases hi
      exact Or.inr ⟨rfl, rfl⟩
    · rw [if_neg hij] at hi
      exact Or.inl ⟨fun z => hij z.symm, hi, fun z => hij (h.1 j i _ p hj hi z.symm)⟩
  refine ⟨fun i1 j1 p q h1 h2 he => ?_, fun i p hi => ?_⟩
  · rcases key i1 p h1 with ⟨a1, a2, a3⟩ | ⟨rfl, rfl⟩ <;> rcases key j1 q h2 with ⟨b1, b2, b3⟩ | ⟨rfl, rfl⟩
    · exact h.1 i1 j1 p q a2 b2 he
    · exact absurd he a3
    · exact absurd he.symm b3
    · rfl
  · rcases key i p hi with ⟨_, a2, a3⟩ | ⟨_, rfl⟩
    · rw [mU_ne a3]; exact h.2 i p a2
    · exact mU_eq _ _ _
/-- the state of a new league -/
def N0i : Nat → Nat := fun _ => 0
def F0i : Nat → Nat → Nat := fun k i => if k = 2 ∨ k = 16 ∨ k = 17 ∨ k = 18 ∨ k = 20 then 1 else if k = 5 ∧ i < 4 then 10 else 0
def B0i : Nat → Int32 := fun _ => 0
def ixA (k i : Nat) : Nat := if k = 0 then 0 else if k = 9 then 6 + i else if k = 3 then 10 else if k = 4 then 11 else if k = 5 then 12 else k - 9
def E0i : Nat → Nat → Nat := fun k i => if k = 0 ∧ (i = 3 ∨ i = 12) then 1 else 0
theorem cs0 {G : mG} {M : Mem} {q a0 a1 a2 a3 a4 r0 r1 r2 r3 s as bs : Nat} (h : PL M [(q, .inr (7, [.ref a0, .ref a1, .ref a2, .ref a3, .ref a4, .int 0, .int 0, .int 0, .int 0, .ref s])), (a0, .inl (G.2 3, 16, .inr (.inr (.inr (.inr (fun _ => none)))))), (a1, .inl (G.2 4, 100, .inr (.inr (.inr (.inr (fun _ => none)))))), (a2, .inl (G.2 5, 12, .inr (.inr (.inr (.inr (va_up (fun _ => none) 0 (some s))))))), (a3, .inl (G.2 6, 36, .inr (.inr (.inr (.inr (fun _ => none)))))), (a4, .inl (G.2 7, 4, .inr (.inr (.inr (.inr (va_up (va_up (va_up (va_up (fun _ => none) 0 (some r0)) 1 (some r1)) 2 (some r2)) 3 (some r3))))))), (r0, .inr (3, [.int (nI 10), .int 0])), (r1, .inr (3, [.int (nI 10), .int 0])), (r2, .inr (3, [.int (nI 10), .int 0])), (r3, .inr (3, [.int (nI 10), .int 0])), (s, .inr (5, [.int (nI 0), .ref as, .ref bs])), (as, .inl (G.2 0, 16, .inl (fun _ => 0))), (bs, .inl (G.2 0, 16, .inl (fun _ => 0)))]) : CS G q N0i F0i B0i M := by
  obtain ⟨L, hL⟩ : ∃ L, L = [(q, (.inr (7, [.ref a0, .ref a1, .ref a2, .ref a3, .ref a4, .int 0, .int 0, .int 0, .int 0, .ref s]) : va_E)), (a0, .inl (G.2 3, 16, .inr (.inr (.inr (.inr (fun _ => none)))))), (a1, .inl (G.2 4, 100, .inr (.inr (.inr (.inr (fun _ => none)))))), (a2, .inl (G.2 5, 12, .inr (.inr (.inr (.inr (va_up (fun _ => none) 0 (some s))))))), (a3, .inl (G.2 6, 36, .inr (.inr (.inr (.inr (fun _ => none)))))), (a4, .inl (G.2 7, 4, .inr (.inr (.inr (.inr (va_up (va_up (va_up (va_up (fun _ => none) 0 (some r0)) 1 (some r1)) 2 (some r2)) 3 (some r3))))))), (r0, .inr (3, [.int (nI 10), .int 0])), (r1, .inr (3, [.int (nI 10), .int 0])), (r2, .inr (3, [.int (nI 10), .int 0])), (r3, .inr (3, [.int (nI 10), .int 0])), (s, .inr (5, [.int (nI 0), .ref as, .ref bs])), (as, .inl (G.2 0, 16, .inl (fun _ => 0))), (bs, .inl (G.2 0, 16, .inl (fun _ => 0)))] := ⟨_, rfl⟩
  have e : ∀ n, rowA (fun k i => ((L.map (fun p => p.1)).getD (ixA k i) 0)) n 0 = fun _ => none := fun n => by funext j; simp [rowA]
  have hlv : ∀ k i, liveC E0i k i → (k = 0 ∧ i = 0) ∨ (k = 9 ∧ (i = 0 ∨ i = 1 ∨ i = 2 ∨ i = 3)) ∨ (k = 3 ∧ i = 0) ∨ (k = 4 ∧ i = 0) ∨ (k = 5 ∧ i = 0) ∨ (k = 10 ∧ i = 0) ∨ (k = 11 ∧ i = 0) ∨ (k = 12 ∧ i = 0) ∨ (k = 13 ∧ i = 0) ∨ (k = 14 ∧ i = 0) := by
    intro k i hl
    unfold liveC at hl
    split at hl <;> first | (simp [E0i] at hl; done) | (simp [E0i] at hl; omega) | omega | exact absurd hl id
  refine ⟨fun k i => ((L.map (fun p => p.1)).getD (ixA k i) 0), E0i, fun _ _ => 0, fun _ _ => 0, by subst hL; rfl, ⟨fun k i hl => ?_, fun k i k' i' h1 h2 he => ?_⟩, ⟨⟨rfl, rfl, rfl, rfl, rfl, rfl, rfl, rfl⟩, rfl, rfl, rfl⟩, fun r _ => rfl, fun _ _ _ _ => ⟨rfl, rfl⟩⟩
  · rcases hlv k i hl with ⟨rfl, rfl⟩ | ⟨rfl, rfl | rfl | rfl | rfl⟩ | ⟨rfl, rfl⟩ | ⟨rfl, rfl⟩ | ⟨rfl, rfl⟩ | ⟨rfl, rfl⟩ | ⟨rfl, rfl⟩ | ⟨rfl, rfl⟩ | ⟨rfl, rfl⟩ | ⟨rfl, rfl⟩
    · subst hL; exact h.at 0 rfl
    · subst hL; exact h.at 6 rfl
    · subst hL; exact h.at 7 rfl
    · subst hL; exact h.at 8 rfl
    · subst hL; exact h.at 9 rfl
    · subst hL; exact h.at 10 rfl
    · subst hL; exact h.at 11 rfl
    · subst hL; exact h.at 12 rfl
    · simp only [cellC]; rw [show E0i 0 10 = 0 from rfl, e]; subst hL; exact h.at 1 rfl
    · simp only [cellC]; rw [show E0i 0 11 = 0 from rfl, e]; subst hL; exact h.at 2 rfl
    · simp only [cellC]
      rw [show rowA (fun k i => ((L.map (fun p => p.1)).getD (ixA k i) 0)) 3 (E0i 0 12) = va_up (fun _ => none) 0 (some s) from ?_]
      · subst hL; exact h.at 3 rfl
      · funext j
        show (if j < 1 then some ((L.map (fun p => p.1)).getD 10 0) else none) = if j = 0 then some s else none
        subst hL
        by_cases hj : j = 0
        · subst hj; rfl
        · rw [if_neg hj, if_neg (by omega)]
    · simp only [cellC]; rw [show E0i 0 13 = 0 from rfl, e]; subst hL; exact h.at 4 rfl
    · simp only [cellC]
      rw [show rowA (fun k i => ((L.map (fun p => p.1)).getD (ixA k i) 0)) 9 4 = va_up (va_up (va_up (va_up (fun _ => none) 0 (some r0)) 1 (some r1)) 2 (some r2)) 3 (some r3) from ?_]
      · subst hL; exact h.at 5 rfl
      · funext j
        subst hL
        match j with
        | 0 => rfl
        | 1 => rfl
        | 2 => rfl
        | 3 => rfl
        | j + 4 =>
          show (if j + 4 < 4 then _ else none) = _
          rw [if_neg (by omega)]
          simp [va_up]
  · have hidx : ∀ k i, liveC E0i k i → ixA k i < 13 := fun k i hl => by
      rcases hlv k i hl with ⟨rfl, rfl⟩ | ⟨rfl, rfl | rfl | rfl | rfl⟩ | ⟨rfl, rfl⟩ | ⟨rfl, rfl⟩ | ⟨rfl, rfl⟩ | ⟨rfl, rfl⟩ | ⟨rfl, rfl⟩ | ⟨rfl, rfl⟩ | ⟨rfl, rfl⟩ | ⟨rfl, rfl⟩ <;> decide
    have hget : ∀ n, n < 13 → ∃ p, L[n]? = some p ∧ (L.map (fun p => p.1)).getD n 0 = p.1 := fun n hn => by
      have hlen : n < L.length := by subst hL; exact hn
      refine ⟨L[n], List.getElem?_eq_getElem hlen, ?_⟩
      rw [List.getD_eq_getElem?_getD, List.getElem?_map, List.getElem?_eq_getElem hlen]
      rfl
    obtain ⟨p1, g1, g2⟩ := hget _ (hidx k i h1)
    obtain ⟨p2, g3, g4⟩ := hget _ (hidx k' i' h2)
    have hne := (show PL M L by subst hL; exact h).1 _ _ p1 p2 g1 g3 (by rw [← g2, ← g4]; exact he)
    rcases hlv k i h1 with ⟨rfl, rfl⟩ | ⟨rfl, rfl | rfl | rfl | rfl⟩ | ⟨rfl, rfl⟩ | ⟨rfl, rfl⟩ | ⟨rfl, rfl⟩ | ⟨rfl, rfl⟩ | ⟨rfl, rfl⟩ | ⟨rfl, rfl⟩ | ⟨rfl, rfl⟩ | ⟨rfl, rfl⟩ <;> rcases hlv k' i' h2 with ⟨rfl, rfl⟩ | ⟨rfl, rfl | rfl | rfl | rfl⟩ | ⟨rfl, rfl⟩ | ⟨rfl, rfl⟩ | ⟨rfl, rfl⟩ | ⟨rfl, rfl⟩ | ⟨rfl, rfl⟩ | ⟨rfl, rfl⟩ | ⟨rfl, rfl⟩ | ⟨rfl, rfl⟩ <;> first | exact ⟨rfl, rfl⟩ | exact absurd hne (by decide)
set_option maxHeartbeats 8000000 in
set_option maxRecDepth 100000 in
theorem c_X6_init (l : Launch) (G : mG) (M : Mem) (q : Nat) (hq : M q = some (.inr (7, [.null, .null, .null, .null, .null, .int (0), .int (0), .int (0), .int (0), .null]))) : mMet l yX6_init cX6_init 2 none ({ frames := 2, cells := 12, slots := 211, locals := 33 } : Room) G [.ref q] M (fun r M' => r = none ∧ CS G q N0i F0i B0i M') := by
  refine mMet.of (by decide) (Nat.le_of_ble_eq_true rfl) ?_
  intro p e s m args below meth c A ls X hr hlocks hname hM hl
  have hl : lv_has ls 2 [(0, .ref q)] := hl
  have hL := PL.one hq
  refine lv_aload_n X.1 X.2.1 dX6_init_0 rfl (lv_at hl 0 rfl) ?_
  refine mg_objInit X ko_X6_1 ki_obj kc_obj dX6_init_1 hl (Nat.le_of_ble_eq_true rfl) (Nat.le_of_ble_eq_true rfl) ?_
  refine lv_aload_n X.1 X.2.1 dX6_init_4 rfl (lv_at hl 0 rfl) ?_
  refine lv_bipush (v := nI (16)) X.1 X.2.1 dX6_init_5 (by decide) ?_
  refine mx_newq X hM 3 rfl kcl_X6_9 kao_X1 (n := 16) (by decide) dX6_init_7 (Nat.le_of_ble_eq_true rfl) (Nat.le_of_ble_eq_true rfl) (fun a1 H hn2 hM => ?_)
  obtain ⟨M, hM, hL⟩ : ∃ M2, mW G A s.heap M2 H [] ∧ PL M2 [(q, .inr (7, [.null, .null, .null, .null, .null, .int (0), .int (0), .int (0), .int (0), .null])), (a1, .inl (G.2 3, 16, .inr (.inr (.inr (.inr (fun _ => none))))))] := ⟨_, hM, hL.new hn2 _⟩
  refine mg_putF X hM tyX6 tyX6_ok nmX6 (ci := 7) (k := 0) rfl kwX6 (by decide) kf_X6_11 rfl rfl dX6_init_10 hname (hL.at 0 rfl) rfl rfl (Nat.le_of_ble_eq_true rfl) (fun H locs hM => ?_)
  obtain ⟨M, hM, hL⟩ : ∃ M2, mW G A s.heap M2 H locs ∧ PL M2 [(q, .inr (7, [.ref a1, .null, .null, .null, .null, .int (0), .int (0), .int (0), .int (0), .null])), (a1, .inl (G.2 3, 16, .inr (.inr (.inr (.inr (fun _ => none))))))] := ⟨_, hM, hL.put 0 rfl _⟩
  refine lv_aload_n X.1 X.2.1 dX6_init_13 rfl (lv_at hl 0 rfl) ?_
  refine lv_bipush (v := nI (100)) X.1 X.2.1 dX6_init_14 (by decide) ?_
  refine mx_newq X hM 4 rfl kcl_X6_15 kao_X0 (n := 100) (by decide) dX6_init_16 (Nat.le_of_ble_eq_true rfl) (Nat.le_of_ble_eq_true rfl) (fun a3 H hn4 hM => ?_)
  obtain ⟨M, hM, hL⟩ : ∃ M2, mW G A s.heap M2 H locs ∧ PL M2 [(q, .inr (7, [.ref a1, .null, .null, .null, .null, .int (0), .int (0), .int (0), .int (0), .null])), (a1, .inl (G.2 3, 16, .inr (.inr (.inr (.inr (fun _ => none)))))), (a3, .inl (G.2 4, 100, .inr (.inr (.inr (.inr (fun _ => none))))))] := ⟨_, hM, hL.new hn4 _⟩
  refine mg_putF X hM tyX6 tyX6_ok nmX6 (ci := 7) (k := 1) rfl kwX6 (by decide) kf_X6_17 rfl rfl dX6_init_19 hname (hL.at 0 rfl) rfl rfl (Nat.le_of_ble_eq_true rfl) (fun H locs hM => ?_)
  obtain ⟨M, hM, hL⟩ : ∃ M2, mW G A s.heap M2 H locs ∧ PL M2 [(q, .inr (7, [.ref a1, .ref a3, .null, .null, .null, .int (0), .int (0), .int (0), .int (0), .null])), (a1, .inl (G.2 3, 16, .inr (.inr (.inr (.inr (fun _ => none)))))), (a3, .inl (G.2 4, 100, .inr (.inr (.inr (.inr (fun _ => none))))))] := ⟨_, hM, hL.put 0 rfl _⟩
  refine lv_aload_n X.1 X.2.1 dX6_init_22 rfl (lv_at hl 0 rfl) ?_
  refine lv_bipush (v := nI (12)) X.1 X.2.1 dX6_init_23 (by decide) ?_
  refine mx_newq X hM 5 rfl kcl_X6_21 kao_X4 (n := 12) (by decide) dX6_init_25 (Nat.le_of_ble_eq_true rfl) (Nat.le_of_ble_eq_true rfl) (fun a5 H hn6 hM => ?_)
  obtain ⟨M, hM, hL⟩ : ∃ M2, mW G A s.heap M2 H locs ∧ PL M2 [(q, .inr (7, [.ref a1, .ref a3, .null, .null, .null, .int (0), .int (0), .int (0), .int (0), .null])), (a1, .inl (G.2 3, 16, .inr (.inr (.inr (.inr (fun _ => none)))))), (a3, .inl (G.2 4, 100, .inr (.inr (.inr (.inr (fun _ => none)))))), (a5, .inl (G.2 5, 12, .inr (.inr (.inr (.inr (fun _ => none))))))] := ⟨_, hM, hL.new hn6 _⟩
  refine mg_putF X hM tyX6 tyX6_ok nmX6 (ci := 7) (k := 2) rfl kwX6 (by decide) kf_X6_23 rfl rfl dX6_init_28 hname (hL.at 0 rfl) rfl rfl (Nat.le_of_ble_eq_true rfl) (fun H locs hM => ?_)
  obtain ⟨M, hM, hL⟩ : ∃ M2, mW G A s.heap M2 H locs ∧ PL M2 [(q, .inr (7, [.ref a1, .ref a3, .ref a5, .null, .null, .int (0), .int (0), .int (0), .int (0), .null])), (a1, .inl (G.2 3, 16, .inr (.inr (.inr (.inr (fun _ => none)))))), (a3, .inl (G.2 4, 100, .inr (.inr (.inr (.inr (fun _ => none)))))), (a5, .inl (G.2 5, 12, .inr (.inr (.inr (.inr (fun _ => none))))))] := ⟨_, hM, hL.put 0 rfl _⟩
  refine lv_aload_n X.1 X.2.1 dX6_init_31 rfl (lv_at hl 0 rfl) ?_
  refine lv_bipush (v := nI (36)) X.1 X.2.1 dX6_init_32 (by decide) ?_
  refine mx_newq X hM 6 rfl kcl_X6_27 kao_X5 (n := 36) (by decide) dX6_init_34 (Nat.le_of_ble_eq_true rfl) (Nat.le_of_ble_eq_true rfl) (fun a7 H hn8 hM => ?_)
  obtain ⟨M, hM, hL⟩ : ∃ M2, mW G A s.heap M2 H locs ∧ PL M2 [(q, .inr (7, [.ref a1, .ref a3, .ref a5, .null, .null, .int (0), .int (0), .int (0), .int (0), .null])), (a1, .inl (G.2 3, 16, .inr (.inr (.inr (.inr (fun _ => none)))))), (a3, .inl (G.2 4, 100, .inr (.inr (.inr (.inr (fun _ => none)))))), (a5, .inl (G.2 5, 12, .inr (.inr (.inr (.inr (fun _ => none)))))), (a7, .inl (G.2 6, 36, .inr (.inr (.inr (.inr (fun _ => none))))))] := ⟨_, hM, hL.new hn8 _⟩
  refine mg_putF X hM tyX6 tyX6_ok nmX6 (ci := 7) (k := 3) rfl kwX6 (by decide) kf_X6_29 rfl rfl dX6_init_37 hname (hL.at 0 rfl) rfl rfl (Nat.le_of_ble_eq_true rfl) (fun H locs hM => ?_)
  obtain ⟨M, hM, hL⟩ : ∃ M2, mW G A s.heap M2 H locs ∧ PL M2 [(q, .inr (7, [.ref a1, .ref a3, .ref a5, .ref a7, .null, .int (0), .int (0), .int (0), .int (0), .null])), (a1, .inl (G.2 3, 16, .inr (.inr (.inr (.inr (fun _ => none)))))), (a3, .inl (G.2 4, 100, .inr (.inr (.inr (.inr (fun _ => none)))))), (a5, .inl (G.2 5, 12, .inr (.inr (.inr (.inr (fun _ => none)))))), (a7, .inl (G.2 6, 36, .inr (.inr (.inr (.inr (fun _ => none))))))] := ⟨_, hM, hL.put 0 rfl _⟩
  refine lv_aload_n X.1 X.2.1 dX6_init_40 rfl (lv_at hl 0 rfl) ?_
  refine lv_iconst (v := nI (4)) X.1 X.2.1 dX6_init_41 (by decide) ?_
  refine mx_newq X hM 7 rfl kcl_X6_33 kao_X2 (n := 4) (by decide) dX6_init_42 (Nat.le_of_ble_eq_true rfl) (Nat.le_of_ble_eq_true rfl) (fun a9 H hn10 hM => ?_)
  obtain ⟨M, hM, hL⟩ : ∃ M2, mW G A s.heap M2 H locs ∧ PL M2 [(q, .inr (7, [.ref a1, .ref a3, .ref a5, .ref a7, .null, .int (0), .int (0), .int (0), .int (0), .null])), (a1, .inl (G.2 3, 16, .inr (.inr (.inr (.inr (fun _ => none)))))), (a3, .inl (G.2 4, 100, .inr (.inr (.inr (.inr (fun _ => none)))))), (a5, .inl (G.2 5, 12, .inr (.inr (.inr (.inr (fun _ => none)))))), (a7, .inl (G.2 6, 36, .inr (.inr (.inr (.inr (fun _ => none)))))), (a9, .inl (G.2 7, 4, .inr (.inr (.inr (.inr (fun _ => none))))))] := ⟨_, hM, hL.new hn10 _⟩
  refine mg_putF X hM tyX6 tyX6_ok nmX6 (ci := 7) (k := 4) rfl kwX6 (by decide) kf_X6_35 rfl rfl dX6_init_45 hname (hL.at 0 rfl) rfl rfl (Nat.le_of_ble_eq_true rfl) (fun H locs hM => ?_)
  obtain ⟨M, hM, hL⟩ : ∃ M2, mW G A s.heap M2 H locs ∧ PL M2 [(q, .inr (7, [.ref a1, .ref a3, .ref a5, .ref a7, .ref a9, .int (0), .int (0), .int (0), .int (0), .null])), (a1, .inl (G.2 3, 16, .inr (.inr (.inr (.inr (fun _ => none)))))), (a3, .inl (G.2 4, 100, .inr (.inr (.inr (.inr (fun _ => none)))))), (a5, .inl (G.2 5, 12, .inr (.inr (.inr (.inr (fun _ => none)))))), (a7, .inl (G.2 6, 36, .inr (.inr (.inr (.inr (fun _ => none)))))), (a9, .inl (G.2 7, 4, .inr (.inr (.inr (.inr (fun _ => none))))))] := ⟨_, hM, hL.put 0 rfl _⟩
  refine lv_iconst (v := nI (0)) X.1 X.2.1 dX6_init_48 (by decide) ?_
  refine lv_istore_n (lv' := [(1, .int (nI (0))), (0, .ref q)]) X.1 X.2.1 dX6_init_49 rfl hl (by decide) rfl (fun ls hl => ?_)
  refine lv_iload_n X.1 X.2.1 dX6_init_50 rfl (lv_at hl 0 rfl) ?_
  refine lv_aload_n X.1 X.2.1 dX6_init_51 rfl (lv_at hl 1 rfl) ?_
  refine mg_get X hM (ci := 7) (k := 4) rfl kwX6 (by decide) kf_X6_35 dX6_init_52 (hL.at 0 rfl) (v := .ref a9) rfl ?_
  refine mg_alen X hM 7 rfl dX6_init_55 (hL.at 5 rfl) ?_
  refine b_icmp_ge (tgt := 78) X dX6_init_56 (by decide) (a := ((0 : Nat) : Int)) (b := ((4 : Nat) : Int)) (nI_ti (by omega)) (nI_ti (by omega)) (fun c11 => ?_) (fun c11 => ?_)
  · skip
    exact absurd c11 (by first | decide | omega)
  · skip
    refine lv_aload_n X.1 X.2.1 dX6_init_59 rfl (lv_at hl 1 rfl) ?_
    refine mg_get X hM (ci := 7) (k := 4) rfl kwX6 (by decide) kf_X6_35 dX6_init_60 (hL.at 0 rfl) (v := .ref a9) rfl ?_
    refine lv_iload_n X.1 X.2.1 dX6_init_63 rfl (lv_at hl 0 rfl) ?_
    refine mg_new X hM (ci := 3) tyX2 tyX2_ok rfl kwX2 kcl_X6_33 kinst_X2 kini_X2 (fs := [.int (0), .int (0)]) (by decide) dX6_init_64 (Nat.le_of_ble_eq_true rfl) (Nat.le_of_ble_eq_true rfl) (fun a12 H hn13 hM => ?_)
    obtain ⟨M, hM, hL⟩ : ∃ M2, mW G A s.heap M2 H locs ∧ PL M2 [(q, .inr (7, [.ref a1, .ref a3, .ref a5, .ref a7, .ref a9, .int (0), .int (0), .int (0), .int (0), .null])), (a1, .inl (G.2 3, 16, .inr (.inr (.inr (.inr (fun _ => none)))))), (a3, .inl (G.2 4, 100, .inr (.inr (.inr (.inr (fun _ => none)))))), (a5, .inl (G.2 5, 12, .inr (.inr (.inr (.inr (fun _ => none)))))), (a7, .inl (G.2 6, 36, .inr (.inr (.inr (.inr (fun _ => none)))))), (a9, .inl (G.2 7, 4, .inr (.inr (.inr (.inr (fun _ => none)))))), (a12, .inr (3, [.int (0), .int (0)]))] := ⟨_, hM, hL.new hn13 _⟩
    refine lv_dup X.1 X.2.1 dX6_init_67 rfl ?_
    refine m_callIN X hM ckN_X6_39 ki_X2_init rfl dX6_init_68 (b := a12) (As := []) (c_X2_init l G _ a12 (hL.at 6 rfl)) rfl hl rfl (Nat.le_of_ble_eq_true rfl) ⟨Nat.le_of_ble_eq_true rfl, Nat.le_of_ble_eq_true rfl⟩ ⟨Nat.le_of_ble_eq_true rfl, Nat.le_of_ble_eq_true rfl⟩ ?_
    rintro _ _ H locs ⟨rfl, rfl⟩ hM
    obtain ⟨M, hM, hL⟩ : ∃ M2, mW G A s.heap M2 H locs ∧ PL M2 [(q, .inr (7, [.ref a1, .ref a3, .ref a5, .ref a7, .ref a9, .int (0), .int (0), .int (0), .int (0), .null])), (a1, .inl (G.2 3, 16, .inr (.inr (.inr (.inr (fun _ => none)))))), (a3, .inl (G.2 4, 100, .inr (.inr (.inr (.inr (fun _ => none)))))), (a5, .inl (G.2 5, 12, .inr (.inr (.inr (.inr (fun _ => none)))))), (a7, .inl (G.2 6, 36, .inr (.inr (.inr (.inr (fun _ => none)))))), (a9, .inl (G.2 7, 4, .inr (.inr (.inr (.inr (fun _ => none)))))), (a12, .inr (3, [.int (nI (10)), .int (0)]))] := ⟨_, hM, hL.put 6 rfl _⟩
    refine mx_aast X hM 7 (ci := 3) rfl rfl dX6_init_71 (hL.at 5 rfl) (hL.at 6 rfl) (i := 0) (by decide) (by decide) (fun H locs hM => ?_)
    obtain ⟨M, hM, hL⟩ : ∃ M2, mW G A s.heap M2 H locs ∧ PL M2 [(q, .inr (7, [.ref a1, .ref a3, .ref a5, .ref a7, .ref a9, .int (0), .int (0), .int (0), .int (0), .null])), (a1, .inl (G.2 3, 16, .inr (.inr (.inr (.inr (fun _ => none)))))), (a3, .inl (G.2 4, 100, .inr (.inr (.inr (.inr (fun _ => none)))))), (a5, .inl (G.2 5, 12, .inr (.inr (.inr (.inr (fun _ => none)))))), (a7, .inl (G.2 6, 36, .inr (.inr (.inr (.inr (fun _ => none)))))), (a9, .inl (G.2 7, 4, .inr (.inr (.inr (.inr (va_up (fun _ => none) 0 (some a12))))))), (a12, .inr (3, [.int (nI (10)), .int (0)]))] := ⟨_, hM, hL.put 5 rfl _⟩
    refine lv_iinc (v := nI (1)) (lv' := [(1, .int (nI (1))), (0, .ref q)]) X.1 X.2.1 dX6_init_72 hl (k := 0) rfl (nI_add (0) 1) (by decide) rfl (fun ls hl => ?_)
    refine lv_goto (tgt := 50) X.1 X.2.1 dX6_init_75 (by decide) ?_
    refine lv_iload_n X.1 X.2.1 dX6_init_50 rfl (lv_at hl 0 rfl) ?_
    refine lv_aload_n X.1 X.2.1 dX6_init_51 rfl (lv_at hl 1 rfl) ?_
    refine mg_get X hM (ci := 7) (k := 4) rfl kwX6 (by decide) kf_X6_35 dX6_init_52 (hL.at 0 rfl) (v := .ref a9) rfl ?_
    refine mg_alen X hM 7 rfl dX6_init_55 (hL.at 5 rfl) ?_
    refine b_icmp_ge (tgt := 78) X dX6_init_56 (by decide) (a := ((1 : Nat) : Int)) (b := ((4 : Nat) : Int)) (nI_ti (by omega)) (nI_ti (by omega)) (fun c14 => ?_) (fun c14 => ?_)
    · skip
      exact absurd c14 (by first | decide | omega)
    · skip
      refine lv_aload_n X.1 X.2.1 dX6_init_59 rfl (lv_at hl 1 rfl) ?_
      refine mg_get X hM (ci := 7) (k := 4) rfl kwX6 (by decide) kf_X6_35 dX6_init_60 (hL.at 0 rfl) (v := .ref a9) rfl ?_
      refine lv_iload_n X.1 X.2.1 dX6_init_63 rfl (lv_at hl 0 rfl) ?_
      refine mg_new X hM (ci := 3) tyX2 tyX2_ok rfl kwX2 kcl_X6_33 kinst_X2 kini_X2 (fs := [.int (0), .int (0)]) (by decide) dX6_init_64 (Nat.le_of_ble_eq_true rfl) (Nat.le_of_ble_eq_true rfl) (fun a15 H hn16 hM => ?_)
      obtain ⟨M, hM, hL⟩ : ∃ M2, mW G A s.heap M2 H locs ∧ PL M2 [(q, .inr (7, [.ref a1, .ref a3, .ref a5, .ref a7, .ref a9, .int (0), .int (0), .int (0), .int (0), .null])), (a1, .inl (G.2 3, 16, .inr (.inr (.inr (.inr (fun _ => none)))))), (a3, .inl (G.2 4, 100, .inr (.inr (.inr (.inr (fun _ => none)))))), (a5, .inl (G.2 5, 12, .inr (.inr (.inr (.inr (fun _ => none)))))), (a7, .inl (G.2 6, 36, .inr (.inr (.inr (.inr (fun _ => none)))))), (a9, .inl (G.2 7, 4, .inr (.inr (.inr (.inr (va_up (fun _ => none) 0 (some a12))))))), (a12, .inr (3, [.int (nI (10)), .int (0)])), (a15, .inr (3, [.int (0), .int (0)]))] := ⟨_, hM, hL.new hn16 _⟩
      refine lv_dup X.1 X.2.1 dX6_init_67 rfl ?_
      refine m_callIN X hM ckN_X6_39 ki_X2_init rfl dX6_init_68 (b := a15) (As := []) (c_X2_init l G _ a15 (hL.at 7 rfl)) rfl hl rfl (Nat.le_of_ble_eq_true rfl) ⟨Nat.le_of_ble_eq_true rfl, Nat.le_of_ble_eq_true rfl⟩ ⟨Nat.le_of_ble_eq_true rfl, Nat.le_of_ble_eq_true rfl⟩ ?_
      rintro _ _ H locs ⟨rfl, rfl⟩ hM
      obtain ⟨M, hM, hL⟩ : ∃ M2, mW G A s.heap M2 H locs ∧ PL M2 [(q, .inr (7, [.ref a1, .ref a3, .ref a5, .ref a7, .ref a9, .int (0), .int (0), .int (0), .int (0), .null])), (a1, .inl (G.2 3, 16, .inr (.inr (.inr (.inr (fun _ => none)))))), (a3, .inl (G.2 4, 100, .inr (.inr (.inr (.inr (fun _ => none)))))), (a5, .inl (G.2 5, 12, .inr (.inr (.inr (.inr (fun _ => none)))))), (a7, .inl (G.2 6, 36, .inr (.inr (.inr (.inr (fun _ => none)))))), (a9, .inl (G.2 7, 4, .inr (.inr (.inr (.inr (va_up (fun _ => none) 0 (some a12))))))), (a12, .inr (3, [.int (nI (10)), .int (0)])), (a15, .inr (3, [.int (nI (10)), .int (0)]))] := ⟨_, hM, hL.put 7 rfl _⟩
      refine mx_aast X hM 7 (ci := 3) rfl rfl dX6_init_71 (hL.at 5 rfl) (hL.at 7 rfl) (i := 1) (by decide) (by decide) (fun H locs hM => ?_)
      obtain ⟨M, hM, hL⟩ : ∃ M2, mW G A s.heap M2 H locs ∧ PL M2 [(q, .inr (7, [.ref a1, .ref a3, .ref a5, .ref a7, .ref a9, .int (0), .int (0), .int (0), .int (0), .null])), (a1, .inl (G.2 3, 16, .inr (.inr (.inr (.inr (fun _ => none)))))), (a3, .inl (G.2 4, 100, .inr (.inr (.inr (.inr (fun _ => none)))))), (a5, .inl (G.2 5, 12, .inr (.inr (.inr (.inr (fun _ => none)))))), (a7, .inl (G.2 6, 36, .inr (.inr (.inr (.inr (fun _ => none)))))), (a9, .inl (G.2 7, 4, .inr (.inr (.inr (.inr (va_up (va_up (fun _ => none) 0 (some a12)) 1 (some a15))))))), (a12, .inr (3, [.int (nI (10)), .int (0)])), (a15, .inr (3, [.int (nI (10)), .int (0)]))] := ⟨_, hM, hL.put 5 rfl _⟩
      refine lv_iinc (v := nI (2)) (lv' := [(1, .int (nI (2))), (0, .ref q)]) X.1 X.2.1 dX6_init_72 hl (k := 0) rfl (nI_add (1) 1) (by decide) rfl (fun ls hl => ?_)
      refine lv_goto (tgt := 50) X.1 X.2.1 dX6_init_75 (by decide) ?_
      refine lv_iload_n X.1 X.2.1 dX6_init_50 rfl (lv_at hl 0 rfl) ?_
      refine lv_aload_n X.1 X.2.1 dX6_init_51 rfl (lv_at hl 1 rfl) ?_
      refine mg_get X hM (ci := 7) (k := 4) rfl kwX6 (by decide) kf_X6_35 dX6_init_52 (hL.at 0 rfl) (v := .ref a9) rfl ?_
      refine mg_alen X hM 7 rfl dX6_init_55 (hL.at 5 rfl) ?_
      refine b_icmp_ge (tgt := 78) X dX6_init_56 (by decide) (a := ((2 : Nat) : Int)) (b := ((4 : Nat) : Int)) (nI_ti (by omega)) (nI_ti (by omega)) (fun c17 => ?_) (fun c17 => ?_)
      · skip
        exact absurd c17 (by first | decide | omega)
      · skip
        refine lv_aload_n X.1 X.2.1 dX6_init_59 rfl (lv_at hl 1 rfl) ?_
        refine mg_get X hM (ci := 7) (k := 4) rfl kwX6 (by decide) kf_X6_35 dX6_init_60 (hL.at 0 rfl) (v := .ref a9) rfl ?_
        refine lv_iload_n X.1 X.2.1 dX6_init_63 rfl (lv_at hl 0 rfl) ?_
        refine mg_new X hM (ci := 3) tyX2 tyX2_ok rfl kwX2 kcl_X6_33 kinst_X2 kini_X2 (fs := [.int (0), .int (0)]) (by decide) dX6_init_64 (Nat.le_of_ble_eq_true rfl) (Nat.le_of_ble_eq_true rfl) (fun a18 H hn19 hM => ?_)
        obtain ⟨M, hM, hL⟩ : ∃ M2, mW G A s.heap M2 H locs ∧ PL M2 [(q, .inr (7, [.ref a1, .ref a3, .ref a5, .ref a7, .ref a9, .int (0), .int (0), .int (0), .int (0), .null])), (a1, .inl (G.2 3, 16, .inr (.inr (.inr (.inr (fun _ => none)))))), (a3, .inl (G.2 4, 100, .inr (.inr (.inr (.inr (fun _ => none)))))), (a5, .inl (G.2 5, 12, .inr (.inr (.inr (.inr (fun _ => none)))))), (a7, .inl (G.2 6, 36, .inr (.inr (.inr (.inr (fun _ => none)))))), (a9, .inl (G.2 7, 4, .inr (.inr (.inr (.inr (va_up (va_up (fun _ => none) 0 (some a12)) 1 (some a15))))))), (a12, .inr (3, [.int (nI (10)), .int (0)])), (a15, .inr (3, [.int (nI (10)), .int (0)])), (a18, .inr (3, [.int (0), .int (0)]))] := ⟨_, hM, hL.new hn19 _⟩
        refine lv_dup X.1 X.2.1 dX6_init_67 rfl ?_
        refine m_callIN X hM ckN_X6_39 ki_X2_init rfl dX6_init_68 (b := a18) (As := []) (c_X2_init l G _ a18 (hL.at 8 rfl)) rfl hl rfl (Nat.le_of_ble_eq_true rfl) ⟨Nat.le_of_ble_eq_true rfl, Nat.le_of_ble_eq_true rfl⟩ ⟨Nat.le_of_ble_eq_true rfl, Nat.le_of_ble_eq_true rfl⟩ ?_
        rintro _ _ H locs ⟨rfl, rfl⟩ hM
        obtain ⟨M, hM, hL⟩ : ∃ M2, mW G A s.heap M2 H locs ∧ PL M2 [(q, .inr (7, [.ref a1, .ref a3, .ref a5, .ref a7, .ref a9, .int (0), .int (0), .int (0), .int (0), .null])), (a1, .inl (G.2 3, 16, .inr (.inr (.inr (.inr (fun _ => none)))))), (a3, .inl (G.2 4, 100, .inr (.inr (.inr (.inr (fun _ => none)))))), (a5, .inl (G.2 5, 12, .inr (.inr (.inr (.inr (fun _ => none)))))), (a7, .inl (G.2 6, 36, .inr (.inr (.inr (.inr (fun _ => none)))))), (a9, .inl (G.2 7, 4, .inr (.inr (.inr (.inr (va_up (va_up (fun _ => none) 0 (some a12)) 1 (some a15))))))), (a12, .inr (3, [.int (nI (10)), .int (0)])), (a15, .inr (3, [.int (nI (10)), .int (0)])), (a18, .inr (3, [.int (nI (10)), .int (0)]))] := ⟨_, hM, hL.put 8 rfl _⟩
        refine mx_aast X hM 7 (ci := 3) rfl rfl dX6_init_71 (hL.at 5 rfl) (hL.at 8 rfl) (i := 2) (by decide) (by decide) (fun H locs hM => ?_)
        obtain ⟨M, hM, hL⟩ : ∃ M2, mW G A s.heap M2 H locs ∧ PL M2 [(q, .inr (7, [.ref a1, .ref a3, .ref a5, .ref a7, .ref a9, .int (0), .int (0), .int (0), .int (0), .null])), (a1, .inl (G.2 3, 16, .inr (.inr (.inr (.inr (fun _ => none)))))), (a3, .inl (G.2 4, 100, .inr (.inr (.inr (.inr (fun _ => none)))))), (a5, .inl (G.2 5, 12, .inr (.inr (.inr (.inr (fun _ => none)))))), (a7, .inl (G.2 6, 36, .inr (.inr (.inr (.inr (fun _ => none)))))), (a9, .inl (G.2 7, 4, .inr (.inr (.inr (.inr (va_up (va_up (va_up (fun _ => none) 0 (some a12)) 1 (some a15)) 2 (some a18))))))), (a12, .inr (3, [.int (nI (10)), .int (0)])), (a15, .inr (3, [.int (nI (10)), .int (0)])), (a18, .inr (3, [.int (nI (10)), .int (0)]))] := ⟨_, hM, hL.put 5 rfl _⟩
        refine lv_iinc (v := nI (3)) (lv' := [(1, .int (nI (3))), (0, .ref q)]) X.1 X.2.1 dX6_init_72 hl (k := 0) rfl (nI_add (2) 1) (by decide) rfl (fun ls hl => ?_)
        refine lv_goto (tgt := 50) X.1 X.2.1 dX6_init_75 (by decide) ?_
        refine lv_iload_n X.1 X.2.1 dX6_init_50 rfl (lv_at hl 0 rfl) ?_
        refine lv_aload_n X.1 X.2.1 dX6_init_51 rfl (lv_at hl 1 rfl) ?_
        refine mg_get X hM (ci := 7) (k := 4) rfl kwX6 (by decide) kf_X6_35 dX6_init_52 (hL.at 0 rfl) (v := .ref a9) rfl ?_
        refine mg_alen X hM 7 rfl dX6_init_55 (hL.at 5 rfl) ?_
        refine b_icmp_ge (tgt := 78) X dX6_init_56 (by decide) (a := ((3 : Nat) : Int)) (b := ((4 : Nat) : Int)) (nI_ti (by omega)) (nI_ti (by omega)) (fun c20 => ?_) (fun c20 => ?_)
        · skip
          exact absurd c20 (by first | decide | omega)
        · skip
          refine lv_aload_n X.1 X.2.1 dX6_init_59 rfl (lv_at hl 1 rfl) ?_
          refine mg_get X hM (ci := 7) (k := 4) rfl kwX6 (by decide) kf_X6_35 dX6_init_60 (hL.at 0 rfl) (v := .ref a9) rfl ?_
          refine lv_iload_n X.1 X.2.1 dX6_init_63 rfl (lv_at hl 0 rfl) ?_
          refine mg_new X hM (ci := 3) tyX2 tyX2_ok rfl kwX2 kcl_X6_33 kinst_X2 kini_X2 (fs := [.int (0), .int (0)]) (by decide) dX6_init_64 (Nat.le_of_ble_eq_true rfl) (Nat.le_of_ble_eq_true rfl) (fun a21 H hn22 hM => ?_)
          obtain ⟨M, hM, hL⟩ : ∃ M2, mW G A s.heap M2 H locs ∧ PL M2 [(q, .inr (7, [.ref a1, .ref a3, .ref a5, .ref a7, .ref a9, .int (0), .int (0), .int (0), .int (0), .null])), (a1, .inl (G.2 3, 16, .inr (.inr (.inr (.inr (fun _ => none)))))), (a3, .inl (G.2 4, 100, .inr (.inr (.inr (.inr (fun _ => none)))))), (a5, .inl (G.2 5, 12, .inr (.inr (.inr (.inr (fun _ => none)))))), (a7, .inl (G.2 6, 36, .inr (.inr (.inr (.inr (fun _ => none)))))), (a9, .inl (G.2 7, 4, .inr (.inr (.inr (.inr (va_up (va_up (va_up (fun _ => none) 0 (some a12)) 1 (some a15)) 2 (some a18))))))), (a12, .inr (3, [.int (nI (10)), .int (0)])), (a15, .inr (3, [.int (nI (10)), .int (0)])), (a18, .inr (3, [.int (nI (10)), .int (0)])), (a21, .inr (3, [.int (0), .int (0)]))] := ⟨_, hM, hL.new hn22 _⟩
          refine lv_dup X.1 X.2.1 dX6_init_67 rfl ?_
          refine m_callIN X hM ckN_X6_39 ki_X2_init rfl dX6_init_68 (b := a21) (As := []) (c_X2_init l G _ a21 (hL.at 9 rfl)) rfl hl rfl (Nat.le_of_ble_eq_true rfl) ⟨Nat.le_of_ble_eq_true rfl, Nat.le_of_ble_eq_true rfl⟩ ⟨Nat.le_of_ble_eq_true rfl, Nat.le_of_ble_eq_true rfl⟩ ?_
          rintro _ _ H locs ⟨rfl, rfl⟩ hM
          obtain ⟨M, hM, hL⟩ : ∃ M2, mW G A s.heap M2 H locs ∧ PL M2 [(q, .inr (7, [.ref a1, .ref a3, .ref a5, .ref a7, .ref a9, .int (0), .int (0), .int (0), .int (0), .null])), (a1, .inl (G.2 3, 16, .inr (.inr (.inr (.inr (fun _ => none)))))), (a3, .inl (G.2 4, 100, .inr (.inr (.inr (.inr (fun _ => none)))))), (a5, .inl (G.2 5, 12, .inr (.inr (.inr (.inr (fun _ => none)))))), (a7, .inl (G.2 6, 36, .inr (.inr (.inr (.inr (fun _ => none)))))), (a9, .inl (G.2 7, 4, .inr (.inr (.inr (.inr (va_up (va_up (va_up (fun _ => none) 0 (some a12)) 1 (some a15)) 2 (some a18))))))), (a12, .inr (3, [.int (nI (10)), .int (0)])), (a15, .inr (3, [.int (nI (10)), .int (0)])), (a18, .inr (3, [.int (nI (10)), .int (0)])), (a21, .inr (3, [.int (nI (10)), .int (0)]))] := ⟨_, hM, hL.put 9 rfl _⟩
          refine mx_aast X hM 7 (ci := 3) rfl rfl dX6_init_71 (hL.at 5 rfl) (hL.at 9 rfl) (i := 3) (by decide) (by decide) (fun H locs hM => ?_)
          obtain ⟨M, hM, hL⟩ : ∃ M2, mW G A s.heap M2 H locs ∧ PL M2 [(q, .inr (7, [.ref a1, .ref a3, .ref a5, .ref a7, .ref a9, .int (0), .int (0), .int (0), .int (0), .null])), (a1, .inl (G.2 3, 16, .inr (.inr (.inr (.inr (fun _ => none)))))), (a3, .inl (G.2 4, 100, .inr (.inr (.inr (.inr (fun _ => none)))))), (a5, .inl (G.2 5, 12, .inr (.inr (.inr (.inr (fun _ => none)))))), (a7, .inl (G.2 6, 36, .inr (.inr (.inr (.inr (fun _ => none)))))), (a9, .inl (G.2 7, 4, .inr (.inr (.inr (.inr (va_up (va_up (va_up (va_up (fun _ => none) 0 (some a12)) 1 (some a15)) 2 (some a18)) 3 (some a21))))))), (a12, .inr (3, [.int (nI (10)), .int (0)])), (a15, .inr (3, [.int (nI (10)), .int (0)])), (a18, .inr (3, [.int (nI (10)), .int (0)])), (a21, .inr (3, [.int (nI (10)), .int (0)]))] := ⟨_, hM, hL.put 5 rfl _⟩
          refine lv_iinc (v := nI (4)) (lv' := [(1, .int (nI (4))), (0, .ref q)]) X.1 X.2.1 dX6_init_72 hl (k := 0) rfl (nI_add (3) 1) (by decide) rfl (fun ls hl => ?_)
          refine lv_goto (tgt := 50) X.1 X.2.1 dX6_init_75 (by decide) ?_
          refine lv_iload_n X.1 X.2.1 dX6_init_50 rfl (lv_at hl 0 rfl) ?_
          refine lv_aload_n X.1 X.2.1 dX6_init_51 rfl (lv_at hl 1 rfl) ?_
          refine mg_get X hM (ci := 7) (k := 4) rfl kwX6 (by decide) kf_X6_35 dX6_init_52 (hL.at 0 rfl) (v := .ref a9) rfl ?_
          refine mg_alen X hM 7 rfl dX6_init_55 (hL.at 5 rfl) ?_
          refine b_icmp_ge (tgt := 78) X dX6_init_56 (by decide) (a := ((4 : Nat) : Int)) (b := ((4 : Nat) : Int)) (nI_ti (by omega)) (nI_ti (by omega)) (fun c23 => ?_) (fun c23 => ?_)
          · skip
            refine lv_aload_n X.1 X.2.1 dX6_init_78 rfl (lv_at hl 1 rfl) ?_
            refine mg_new X hM (ci := 5) tyX4 tyX4_ok rfl kwX4 kcl_X6_21 kinst_X4 kini_X4 (fs := [.int (0), .null, .null]) (by decide) dX6_init_79 (Nat.le_of_ble_eq_true rfl) (Nat.le_of_ble_eq_true rfl) (fun a24 H hn25 hM => ?_)
            obtain ⟨M, hM, hL⟩ : ∃ M2, mW G A s.heap M2 H locs ∧ PL M2 [(q, .inr (7, [.ref a1, .ref a3, .ref a5, .ref a7, .ref a9, .int (0), .int (0), .int (0), .int (0), .null])), (a1, .inl (G.2 3, 16, .inr (.inr (.inr (.inr (fun _ => none)))))), (a3, .inl (G.2 4, 100, .inr (.inr (.inr (.inr (fun _ => none)))))), (a5, .inl (G.2 5, 12, .inr (.inr (.inr (.inr (fun _ => none)))))), (a7, .inl (G.2 6, 36, .inr (.inr (.inr (.inr (fun _ => none)))))), (a9, .inl (G.2 7, 4, .inr (.inr (.inr (.inr (va_up (va_up (va_up (va_up (fun _ => none) 0 (some a12)) 1 (some a15)) 2 (some a18)) 3 (some a21))))))), (a12, .inr (3, [.int (nI (10)), .int (0)])), (a15, .inr (3, [.int (nI (10)), .int (0)])), (a18, .inr (3, [.int (nI (10)), .int (0)])), (a21, .inr (3, [.int (nI (10)), .int (0)])), (a24, .inr (5, [.int (0), .null, .null]))] := ⟨_, hM, hL.new hn25 _⟩
            refine lv_dup X.1 X.2.1 dX6_init_82 rfl ?_
            refine lv_iconst (v := nI (0)) X.1 X.2.1 dX6_init_83 (by decide) ?_
            have hc9 := (hL.at 10 rfl)
            refine m_callIN X hM ckN_X6_40 ki_X4_init rfl dX6_init_84 (b := a24) (As := [.int (nI (0))]) (c_X4_init l G _ a24 0 (hL.at 10 rfl)) rfl hl rfl (Nat.le_of_ble_eq_true rfl) ⟨Nat.le_of_ble_eq_true rfl, Nat.le_of_ble_eq_true rfl⟩ ⟨Nat.le_of_ble_eq_true rfl, Nat.le_of_ble_eq_true rfl⟩ ?_
            rintro _ _ H locs ⟨rfl, as2, bs2, ha2, hb2, hba, rfl⟩ hM
            have hL := hL.new ha2 (.inl (G.2 0, 16, .inl (fun _ => 0)))
            have hL := hL.put 10 rfl (.inr (5, [.int 0, .ref as2, .null]))
            have hL := hL.new (a := bs2) (by rw [mU_ne (mU_nn2 hb2 hc9), mU_ne hba]; exact hb2) (.inl (G.2 0, 16, .inl (fun _ => 0)))
            have hL := hL.put 10 rfl (.inr (5, [.int (nI 0), .ref as2, .ref bs2]))
            obtain ⟨M, hM, hL⟩ : ∃ M2, mW G A s.heap M2 H locs ∧ PL M2 [(q, .inr (7, [.ref a1, .ref a3, .ref a5, .ref a7, .ref a9, .int (0), .int (0), .int (0), .int (0), .null])), (a1, .inl (G.2 3, 16, .inr (.inr (.inr (.inr (fun _ => none)))))), (a3, .inl (G.2 4, 100, .inr (.inr (.inr (.inr (fun _ => none)))))), (a5, .inl (G.2 5, 12, .inr (.inr (.inr (.inr (fun _ => none)))))), (a7, .inl (G.2 6, 36, .inr (.inr (.inr (.inr (fun _ => none)))))), (a9, .inl (G.2 7, 4, .inr (.inr (.inr (.inr (va_up (va_up (va_up (va_up (fun _ => none) 0 (some a12)) 1 (some a15)) 2 (some a18)) 3 (some a21))))))), (a12, .inr (3, [.int (nI (10)), .int (0)])), (a15, .inr (3, [.int (nI (10)), .int (0)])), (a18, .inr (3, [.int (nI (10)), .int (0)])), (a21, .inr (3, [.int (nI (10)), .int (0)])), (a24, .inr (5, [.int (nI (0)), .ref as2, .ref bs2])), (as2, .inl (G.2 0, 16, .inl (fun _ => 0))), (bs2, .inl (G.2 0, 16, .inl (fun _ => 0)))] := ⟨_, hM, hL⟩
            refine mg_put X hM tyX6 tyX6_ok nmX6 (ci := 7) (k := 9) rfl kwX6 (by decide) kf_X6_43 rfl dX6_init_87 (hL.at 0 rfl) rfl rfl (Nat.le_of_ble_eq_true rfl) (fun H locs hM => ?_)
            obtain ⟨M, hM, hL⟩ : ∃ M2, mW G A s.heap M2 H locs ∧ PL M2 [(q, .inr (7, [.ref a1, .ref a3, .ref a5, .ref a7, .ref a9, .int (0), .int (0), .int (0), .int (0), .ref a24])), (a1, .inl (G.2 3, 16, .inr (.inr (.inr (.inr (fun _ => none)))))), (a3, .inl (G.2 4, 100, .inr (.inr (.inr (.inr (fun _ => none)))))), (a5, .inl (G.2 5, 12, .inr (.inr (.inr (.inr (fun _ => none)))))), (a7, .inl (G.2 6, 36, .inr (.inr (.inr (.inr (fun _ => none)))))), (a9, .inl (G.2 7, 4, .inr (.inr (.inr (.inr (va_up (va_up (va_up (va_up (fun _ => none) 0 (some a12)) 1 (some a15)) 2 (some a18)) 3 (some a21))))))), (a12, .inr (3, [.int (nI (10)), .int (0)])), (a15, .inr (3, [.int (nI (10)), .int (0)])), (a18, .inr (3, [.int (nI (10)), .int (0)])), (a21, .inr (3, [.int (nI (10)), .int (0)])), (a24, .inr (5, [.int (nI (0)), .ref as2, .ref bs2])), (as2, .inl (G.2 0, 16, .inl (fun _ => 0))), (bs2, .inl (G.2 0, 16, .inl (fun _ => 0)))] := ⟨_, hM, hL.put 0 rfl _⟩
            refine lv_aload_n X.1 X.2.1 dX6_init_90 rfl (lv_at hl 1 rfl) ?_
            refine mg_get X hM (ci := 7) (k := 2) rfl kwX6 (by decide) kf_X6_23 dX6_init_91 (hL.at 0 rfl) (v := .ref a5) rfl ?_
            refine lv_iconst (v := nI (0)) X.1 X.2.1 dX6_init_94 (by decide) ?_
            refine lv_aload_n X.1 X.2.1 dX6_init_95 rfl (lv_at hl 1 rfl) ?_
            refine mg_get X hM (ci := 7) (k := 9) rfl kwX6 (by decide) kf_X6_43 dX6_init_96 (hL.at 0 rfl) (v := .ref a24) rfl ?_
            refine mx_aast X hM 5 (ci := 5) rfl rfl dX6_init_99 (hL.at 3 rfl) (hL.at 10 rfl) (i := 0) (by decide) (by decide) (fun H locs hM => ?_)
            obtain ⟨M, hM, hL⟩ : ∃ M2, mW G A s.heap M2 H locs ∧ PL M2 [(q, .inr (7, [.ref a1, .ref a3, .ref a5, .ref a7, .ref a9, .int (0), .int (0), .int (0), .int (0), .ref a24])), (a1, .inl (G.2 3, 16, .inr (.inr (.inr (.inr (fun _ => none)))))), (a3, .inl (G.2 4, 100, .inr (.inr (.inr (.inr (fun _ => none)))))), (a5, .inl (G.2 5, 12, .inr (.inr (.inr (.inr (va_up (fun _ => none) 0 (some a24))))))), (a7, .inl (G.2 6, 36, .inr (.inr (.inr (.inr (fun _ => none)))))), (a9, .inl (G.2 7, 4, .inr (.inr (.inr (.inr (va_up (va_up (va_up (va_up (fun _ => none) 0 (some a12)) 1 (some a15)) 2 (some a18)) 3 (some a21))))))), (a12, .inr (3, [.int (nI (10)), .int (0)])), (a15, .inr (3, [.int (nI (10)), .int (0)])), (a18, .inr (3, [.int (nI (10)), .int (0)])), (a21, .inr (3, [.int (nI (10)), .int (0)])), (a24, .inr (5, [.int (nI (0)), .ref as2, .ref bs2])), (as2, .inl (G.2 0, 16, .inl (fun _ => 0))), (bs2, .inl (G.2 0, 16, .inl (fun _ => 0)))] := ⟨_, hM, hL.put 3 rfl _⟩
            exact m_vret X hr hlocks hM dX6_init_100 ⟨Nat.le_of_ble_eq_true rfl, Nat.le_of_ble_eq_true rfl⟩ (⟨rfl, cs0 hL⟩)
          · skip
            exact absurd c23 (by first | decide | omega)
