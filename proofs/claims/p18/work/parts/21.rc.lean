/-! The class's objects, by kind and number (ad: their addresses). N, F, B as in the reference; E: 0: how many of a kind there are (1 players, 2 matches, 3 seasons, 6 skins), how many places of a row are taken (10 .. 13); 1: a region's matches of today; 2 .. 4: a skin's sales: there, in the row, counted; P, Q: the points and games that a season's rows hold -/
def opA (ad : Nat → Nat → Nat) (v : Nat) : Option Nat := if v = 0 then none else some (ad 1 (v - 1))
def fiA (ad : Nat → Nat → Nat) (i v : Nat) : Option Nat := if v = 0 then none else some (ad 8 (20 * i + (v - 1)))
def rowA (ad : Nat → Nat → Nat) (k n : Nat) : Nat → Option Nat := fun j => if j < n then some (ad k j) else none
def rowS (ad : Nat → Nat → Nat) (i n : Nat) : Nat → Option Nat := fun j => if j < n then some (ad 8 (20 * i + j)) else none
def cellC (G : mG) (ad : Nat → Nat → Nat) (N : Nat → Nat) (F : Nat → Nat → Nat) (B : Nat → Int32) (E P Q : Nat → Nat → Nat) (k i : Nat) : va_E := match k with
  | 0 => .inr (7, [.ref (ad 10 0), .ref (ad 11 0), .ref (ad 12 0), .ref (ad 13 0), .ref (ad 14 0), .int (nI (N 1)), .int (nI (N 6)), .int (nI (N 13)), .int (nI (N 0)), .ref (ad 3 (N 12))])
  | 1 => .inr (2, [.int (nI i), .int (B i), .int (nI (F 2 i) - 1), .int (nI (F 3 i))])
  | 2 => .inr (1, [.ref (ad 1 (F 7 i)), .ref (ad 1 (F 8 i)), .ref (ad 3 (F 11 i)), .int (nI (F 10 i))])
  | 3 => .inr (5, [.int (nI i), .ref (ad 4 i), .ref (ad 5 i)])
  | 4 => .inl (G.2 0, 16, .inl (fun p => nI (P i p)))
  | 5 => .inl (G.2 0, 16, .inl (fun p => nI (Q i p)))
  | 6 => .inr (6, [.int (nI i), .ref (ad 3 (F 14 i)), .int (nI (F 15 i)), .ref (ad 7 i), .int (nI (E 4 i)), va_rf (fiA ad i (F 20 i)), va_rf (opA ad (F 16 i)), va_rf (opA ad (F 17 i)), va_rf (opA ad (F 18 i)), .int (nI (F 19 i))])
  | 7 => .inl (G.2 8, 20, .inr (.inr (.inr (.inr (rowS ad i (E 3 i))))))
  | 8 => .inr (4, [.ref (ad 1 (F 22 i)), .ref (ad 1 (F 23 i)), .int (nI (F 24 i))])
  | 9 => .inr (3, [.int (nI (F 5 i)), .int (nI (E 1 i))])
  | 10 => .inl (G.2 3, 16, .inr (.inr (.inr (.inr (rowA ad 1 (E 0 10))))))
  | 11 => .inl (G.2 4, 100, .inr (.inr (.inr (.inr (rowA ad 2 (E 0 11))))))
  | 12 => .inl (G.2 5, 12, .inr (.inr (.inr (.inr (rowA ad 3 (E 0 12))))))
  | 13 => .inl (G.2 6, 36, .inr (.inr (.inr (.inr (rowA ad 6 (E 0 13))))))
  | _ => .inl (G.2 7, 4, .inr (.inr (.inr (.inr (rowA ad 9 4)))))
def liveC (E : Nat → Nat → Nat) (k i : Nat) : Prop := match k with
  | 0 => i = 0
  | 1 => i < E 0 1
  | 2 => i < E 0 2
  | 3 => i < E 0 3
  | 4 => i < E 0 3
  | 5 => i < E 0 3
  | 6 => i < E 0 6
  | 7 => i < E 0 6
  | 8 => i / 20 < E 0 6 ∧ i % 20 < E 2 (i / 20)
  | 9 => i < 4
  | 10 => i = 0
  | 11 => i = 0
  | 12 => i = 0
  | 13 => i = 0
  | 14 => i = 0
  | _ => False
def RC (G : mG) (ad : Nat → Nat → Nat) (N : Nat → Nat) (F : Nat → Nat → Nat) (B : Nat → Int32) (E P Q : Nat → Nat → Nat) (M : Mem) : Prop :=
  (∀ k i, liveC E k i → M (ad k i) = some (cellC G ad N F B E P Q k i)) ∧ ∀ k i k' i', liveC E k i → liveC E k' i' → ad k i = ad k' i' → k = k' ∧ i = i'
theorem live8 {E : Nat → Nat → Nat} {k j : Nat} (hk : k < E 0 6) (hj : j < E 2 k) (h20 : j < 20) : liveC E 8 (20 * k + j) := by
  show (20 * k + j) / 20 < E 0 6 ∧ (20 * k + j) % 20 < E 2 ((20 * k + j) / 20)
  have h1 : (20 * k + j) / 20 = k := by omega
  have h2 : (20 * k + j) % 20 = j := by omega
  rw [h1, h2]
  exact ⟨hk, hj⟩
theorem RC.set {G : mG} {ad : Nat → Nat → Nat} {N N' : Nat → Nat} {F F' : Nat → Nat → Nat} {B B' : Nat → Int32} {E P Q E' P' Q' : Nat → Nat → Nat} {M : Mem} (R : RC G ad N F B E P Q M) (k i : Nat) (hl : liveC E k i) {e : va_E} (he : e = cellC G ad N' F' B' E' P' Q' k i)
    (hlive : ∀ k' i', liveC E' k' i' → liveC E k' i') (hk : ∀ i', liveC E' k i' → i' ≠ i → cellC G ad N' F' B' E' P' Q' k i' = cellC G ad N F B E P Q k i') (ho : ∀ k' i', k' ≠ k → liveC E' k' i' → cellC G ad N' F' B' E' P' Q' k' i' = cellC G ad N F B E P Q k' i') : RC G ad N' F' B' E' P' Q' (mU M (ad k i) e) := by
  refine ⟨fun k' i' h => ?_, fun k1 i1 k2 i2 h1 h2 => R.2 k1 i1 k2 i2 (hlive _ _ h1) (hlive _ _ h2)⟩
  by_cases hkk : k' = k
  · subst hkk
    by_cases hii : i' = i
    · subst hii
      rw [mU_eq, he]
    · rw [mU_ne (fun q => hii (R.2 k' i' k' i (hlive _ _ h) hl q).2), hk i' h hii]
      exact R.1 k' i' (hlive _ _ h)
  · rw [mU_ne (fun q => hkk (R.2 k' i' k i (hlive _ _ h) hl q).1), ho k' i' hkk h]
    exact R.1 k' i' (hlive _ _ h)
/-- a cell that is none of them -/
theorem RC.off {G : mG} {ad : Nat → Nat → Nat} {N : Nat → Nat} {F : Nat → Nat → Nat} {B : Nat → Int32} {E P Q : Nat → Nat → Nat} {M : Mem} (R : RC G ad N F B E P Q M) {q : Nat} (hq : ∀ k i, liveC E k i → ad k i ≠ q) (e : va_E) : RC G ad N F B E P Q (mU M q e) :=
  ⟨fun k i h => by rw [mU_ne (hq k i h)]; exact R.1 k i h, R.2⟩
theorem RC.new {G : mG} {ad : Nat → Nat → Nat} {N : Nat → Nat} {F : Nat → Nat → Nat} {B : Nat → Int32} {E P Q : Nat → Nat → Nat} {M : Mem} (R : RC G ad N F B E P Q M) {q : Nat} (hq : M q = none) : ∀ k i, liveC E k i → ad k i ≠ q := fun k i h e => by
  have := R.1 k i h
  rw [e, hq] at this
  cases this
theorem RC.fits {G : mG} {ad : Nat → Nat → Nat} {N N' : Nat → Nat} {F F' : Nat → Nat → Nat} {B B' : Nat → Int32} {E P Q E' P' Q' : Nat → Nat → Nat} {M : Mem} (R : RC G ad N F B E P Q M) (hlive : ∀ k' i', liveC E' k' i' → liveC E k' i') (ho : ∀ k' i', liveC E' k' i' → cellC G ad N' F' B' E' P' Q' k' i' = cellC G ad N F B E P Q k' i') : RC G ad N' F' B' E' P' Q' M :=
  ⟨fun k i h => by rw [ho k i h]; exact R.1 k i (hlive _ _ h), fun k1 i1 k2 i2 h1 h2 => R.2 k1 i1 k2 i2 (hlive _ _ h1) (hlive _ _ h2)⟩
/-- a new one is taken in: the i-th of kind k, at q -/
theorem RC.take {G : mG} {ad : Nat → Nat → Nat} {N N' : Nat → Nat} {F F' : Nat → Nat → Nat} {B B' : Nat → Int32} {E P Q E' P' Q' : Nat → Nat → Nat} {M : Mem} (R : RC G ad N F B E P Q M) (k i q : Nat) (hq : ∀ k' i', liveC E k' i' → ad k' i' ≠ q) (hM : M q = some (cellC G (set1 ad k i q) N' F' B' E' P' Q' k i))
    (hlive : ∀ k' i', liveC E' k' i' → liveC E k' i' ∨ (k' = k ∧ i' = i)) (hn : ¬ liveC E k i) (ho : ∀ k' i', liveC E k' i' → liveC E' k' i' → cellC G (set1 ad k i q) N' F' B' E' P' Q' k' i' = cellC G ad N F B E P Q k' i') : RC G (set1 ad k i q) N' F' B' E' P' Q' M := by
  have ha : ∀ k' i', liveC E k' i' → set1 ad k i q k' i' = ad k' i' := fun k' i' h => set1_off ad (by
    by_cases hk : k' = k
    · right; intro hi; subst hk; subst hi; exact hn h
    · left; exact hk)
  refine ⟨fun k' i' h => ?_, fun k1 i1 k2 i2 h1 h2 he => ?_⟩
  · rcases hlive k' i' h with h9 | ⟨rfl, rfl⟩
    · rw [ha k' i' h9, ho k' i' h9 h]
      exact R.1 k' i' h9
    · rw [set1_at]
      exact hM
  · rcases hlive k1 i1 h1 with g1 | ⟨rfl, rfl⟩ <;> rcases hlive k2 i2 h2 with g2 | ⟨rfl, rfl⟩
    · rw [ha k1 i1 g1, ha k2 i2 g2] at he
      exact R.2 k1 i1 k2 i2 g1 g2 he
    · rw [ha k1 i1 g1, set1_at] at he
      exact absurd he (hq k1 i1 g1)
    · rw [ha k2 i2 g2, set1_at] at he
      exact absurd he.symm (hq k2 i2 g2)
    · exact ⟨rfl, rfl⟩
theorem opA_inj {G : mG} {ad : Nat → Nat → Nat} {N : Nat → Nat} {F : Nat → Nat → Nat} {B : Nat → Int32} {E P Q : Nat → Nat → Nat} {M : Mem} (R : RC G ad N F B E P Q M) {a b : Nat} (ha : a ≤ E 0 1) (hb : b ≤ E 0 1) (h : opA ad a = opA ad b) : a = b := by
  unfold opA at h
  by_cases h1 : a = 0
  · by_cases h2 : b = 0
    · omega
    · rw [if_pos h1, if_neg h2] at h; cases h
  · by_cases h2 : b = 0
    · rw [if_neg h1, if_pos h2] at h; cases h
    · rw [if_neg h1, if_neg h2] at h
      have := (R.2 1 (a - 1) 1 (b - 1) (show a - 1 < E 0 1 by omega) (show b - 1 < E 0 1 by omega) (Option.some.inj h)).2
      omega
section CROWS
variable {p : Program} {l : Launch} {e : Env} {R : Room} {s : State} {m : MethodId} {args : Array Value} {below : List Frame} {meth : Method} {c : Code} {H : Heap} {locs : List Loc} {cells slots : Nat} {Q : State → Prop}
variable {cc : ByteArray} {pc nL : Nat} {ls : Array Slot} {rest : List Value}
theorem lw_aload_n (hexec : p.tables.exec = Jvm.exec) (hb : c.code = cc) {k : Fin 4} {i : Nat} {r : Option Nat} (hdg : decode cc pc = .ok (.aload_n k, 1)) (hi : (k : Nat) = i) (hl : ls[i]? = some (.val (va_rf r))) (kk : W p l e R s m args below meth c H locs cells slots Q (F0 m (pc + 1) ls (va_rf r :: rest))) : W p l e R s m args below meth c H locs cells slots Q (F0 m pc ls rest) := by
  cases r with
  | none => exact lv_aload_nN hexec hb hdg hi hl kk
  | some a => exact lv_aload_n hexec hb hdg hi hl kk
theorem lw_aload (hexec : p.tables.exec = Jvm.exec) (hb : c.code = cc) {i : Nat} {r : Option Nat} (hdg : decode cc pc = .ok (.aload i, 2)) (hl : ls[i]? = some (.val (va_rf r))) (kk : W p l e R s m args below meth c H locs cells slots Q (F0 m (pc + 2) ls (va_rf r :: rest))) : W p l e R s m args below meth c H locs cells slots Q (F0 m pc ls rest) := by
  cases r with
  | none => exact lv_aloadN hexec hb hdg hl kk
  | some a => exact lv_aload hexec hb hdg hl kk
theorem lw_astore_n (hexec : p.tables.exec = Jvm.exec) (hb : c.code = cc) {k : Fin 4} {i nL : Nat} {r : Option Nat} {lv lv' : List (Nat × Value)} (hdg : decode cc pc = .ok (.astore_n k, 1)) (hi : (k : Nat) = i) (h : lv_has ls nL lv) (hn : i < nL) (hl : (i, va_rf r) :: lv.filter (fun q => !(q.1 == i) && !(q.1 + 1 == i && q.2.category == 2)) = lv')
    (kk : ∀ ls' : Array Slot, lv_has ls' nL lv' → W p l e R s m args below meth c H locs cells slots Q (F0 m (pc + 1) ls' rest)) : W p l e R s m args below meth c H locs cells slots Q (F0 m pc ls (va_rf r :: rest)) := by
  cases r with
  | none => exact lv_astore_nN hexec hb hdg hi h hn hl kk
  | some a => exact lv_astore_n hexec hb hdg hi h hn hl kk
theorem lw_astore (hexec : p.tables.exec = Jvm.exec) (hb : c.code = cc) {i nL : Nat} {r : Option Nat} {lv lv' : List (Nat × Value)} (hdg : decode cc pc = .ok (.astore i, 2)) (h : lv_has ls nL lv) (hn : i < nL) (hl : (i, va_rf r) :: lv.filter (fun q => !(q.1 == i) && !(q.1 + 1 == i && q.2.category == 2)) = lv')
    (kk : ∀ ls' : Array Slot, lv_has ls' nL lv' → W p l e R s m args below meth c H locs cells slots Q (F0 m (pc + 2) ls' rest)) : W p l e R s m args below meth c H locs cells slots Q (F0 m pc ls (va_rf r :: rest)) := by
  cases r with
  | none => exact lv_astoreN hexec hb hdg h hn hl kk
  | some a => exact lv_astore hexec hb hdg h hn hl kk
end CROWS
