theorem f_pts (P : Nat → Nat → Nat) (j q v : Nat) : upd (fun p => nI (P j p)) q (nI v) = fun p => nI (set1 P j q v j p) := by
  funext z
  by_cases hz : z = q <;> simp [upd, set1, va_up, hz]
theorem rowA_push (ad : Nat → Nat → Nat) (k n : Nat) : va_up (rowA ad k n) n (some (ad k n)) = rowA ad k (n + 1) := by
  funext z
  simp only [rowA, va_up]
  by_cases hz : z = n
  · subst hz; simp
  · simp only [if_neg hz]
    by_cases h2 : z < n
    · rw [if_pos h2, if_pos (by omega)]
    · rw [if_neg h2, if_neg (by omega)]
theorem rowS_push (ad : Nat → Nat → Nat) (i n : Nat) : va_up (rowS ad i n) n (some (ad 8 (20 * i + n))) = rowS ad i (n + 1) := by
  funext z
  simp only [rowS, va_up]
  by_cases hz : z = n
  · subst hz; simp
  · simp only [if_neg hz]
    by_cases h2 : z < n
    · rw [if_pos h2, if_pos (by omega)]
    · rw [if_neg h2, if_neg (by omega)]
theorem rowS_drop {ad : Nat → Nat → Nat} {i m n : Nat} (h : m ≤ n + 1) : va_up (rowS ad i m) n none = rowS ad i (min m n) := by
  funext z
  simp only [rowS, va_up]
  by_cases hz : z = n
  · subst hz; rw [if_pos rfl, if_neg (by omega)]
  · simp only [if_neg hz]
    by_cases h2 : z < m
    · rw [if_pos h2, if_pos (by omega)]
    · rw [if_neg h2, if_neg (by omega)]
theorem RC.bal {G : mG} {ad : Nat → Nat → Nat} {N : Nat → Nat} {F : Nat → Nat → Nat} {B : Nat → Int32} {E P Q : Nat → Nat → Nat} {M : Mem} (R : RC G ad N F B E P Q M) {j : Nat} (h : j < E 0 1) (b : Int32) : RC G ad N F (upd B j b) E P Q (mU M (ad 1 j) (.inr (2, [.int (nI j), .int (b), .int (nI (F 2 j) - 1), .int (nI (F 3 j))]))) :=
  R.set 1 j h (by simp [cellC, upd, set1, va_up]) (fun _ _ h => h) (fun i' _ hne => by simp [cellC, upd, set1, va_up, hne]) (fun k' i' hne _ => by unfold cellC; split <;> first | rfl | exact absurd rfl hne)
theorem RC.since {G : mG} {ad : Nat → Nat → Nat} {N : Nat → Nat} {F : Nat → Nat → Nat} {B : Nat → Int32} {E P Q : Nat → Nat → Nat} {M : Mem} (R : RC G ad N F B E P Q M) {j : Nat} (h : j < E 0 1) (v : Nat) : RC G ad N (set1 F 2 j v) B E P Q (mU M (ad 1 j) (.inr (2, [.int (nI j), .int (B j), .int (nI (v) - 1), .int (nI (F 3 j))]))) :=
  R.set 1 j h (by simp [cellC, upd, set1, va_up]) (fun _ _ h => h) (fun i' _ hne => by simp [cellC, upd, set1, va_up, hne]) (fun k' i' hne _ => by unfold cellC; split <;> first | rfl | exact absurd rfl hne)
theorem RC.free {G : mG} {ad : Nat → Nat → Nat} {N : Nat → Nat} {F : Nat → Nat → Nat} {B : Nat → Int32} {E P Q : Nat → Nat → Nat} {M : Mem} (R : RC G ad N F B E P Q M) {j : Nat} (h : j < E 0 1) (v : Nat) : RC G ad N (set1 F 3 j v) B E P Q (mU M (ad 1 j) (.inr (2, [.int (nI j), .int (B j), .int (nI (F 2 j) - 1), .int (nI (v))]))) :=
  R.set 1 j h (by simp [cellC, upd, set1, va_up]) (fun _ _ h => h) (fun i' _ hne => by simp [cellC, upd, set1, va_up, hne]) (fun k' i' hne _ => by unfold cellC; split <;> first | rfl | exact absurd rfl hne)
theorem RC.roomA {G : mG} {ad : Nat → Nat → Nat} {N : Nat → Nat} {F : Nat → Nat → Nat} {B : Nat → Int32} {E P Q : Nat → Nat → Nat} {M : Mem} (R : RC G ad N F B E P Q M) {j : Nat} (h : j < 4) (v : Nat) : RC G ad N (set1 F 5 j v) B E P Q (mU M (ad 9 j) (.inr (3, [.int (nI (v)), .int (nI (E 1 j))]))) :=
  R.set 9 j h (by simp [cellC, upd, set1, va_up]) (fun _ _ h => h) (fun i' _ hne => by simp [cellC, upd, set1, va_up, hne]) (fun k' i' hne _ => by unfold cellC; split <;> first | rfl | exact absurd rfl hne)
theorem RC.today {G : mG} {ad : Nat → Nat → Nat} {N : Nat → Nat} {F : Nat → Nat → Nat} {B : Nat → Int32} {E P Q : Nat → Nat → Nat} {M : Mem} (R : RC G ad N F B E P Q M) {j : Nat} (h : j < 4) (v : Nat) : RC G ad N F B (set1 E 1 j v) P Q (mU M (ad 9 j) (.inr (3, [.int (nI (F 5 j)), .int (nI (v))]))) :=
  R.set 9 j h (by simp [cellC, upd, set1, va_up]) (fun _ _ h => h) (fun i' _ hne => by simp [cellC, upd, set1, va_up, hne]) (fun k' i' hne _ => by unfold cellC; split <;> first | rfl | exact absurd rfl hne)
theorem RC.ptsW {G : mG} {ad : Nat → Nat → Nat} {N : Nat → Nat} {F : Nat → Nat → Nat} {B : Nat → Int32} {E P Q : Nat → Nat → Nat} {M : Mem} (R : RC G ad N F B E P Q M) {j : Nat} (h : j < E 0 3) (q v : Nat) : RC G ad N F B E (set1 P j q v) Q (mU M (ad 4 j) (.inl (G.2 0, 16, .inl (upd (fun p => nI (P j p)) q (nI v))))) :=
  R.set 4 j h (by simp only [cellC, f_pts]) (fun _ _ h => h) (fun i' _ hne => by simp [cellC, upd, set1, va_up, hne]) (fun k' i' hne _ => by unfold cellC; split <;> first | rfl | exact absurd rfl hne)
theorem RC.gmsW {G : mG} {ad : Nat → Nat → Nat} {N : Nat → Nat} {F : Nat → Nat → Nat} {B : Nat → Int32} {E P Q : Nat → Nat → Nat} {M : Mem} (R : RC G ad N F B E P Q M) {j : Nat} (h : j < E 0 3) (q v : Nat) : RC G ad N F B E P (set1 Q j q v) (mU M (ad 5 j) (.inl (G.2 0, 16, .inl (upd (fun p => nI (Q j p)) q (nI v))))) :=
  R.set 5 j h (by simp only [cellC, f_pts]) (fun _ _ h => h) (fun i' _ hne => by simp [cellC, upd, set1, va_up, hne]) (fun k' i' hne _ => by unfold cellC; split <;> first | rfl | exact absurd rfl hne)
theorem RC.fif {G : mG} {ad : Nat → Nat → Nat} {N : Nat → Nat} {F : Nat → Nat → Nat} {B : Nat → Int32} {E P Q : Nat → Nat → Nat} {M : Mem} (R : RC G ad N F B E P Q M) {j : Nat} (h : j < E 0 6) (v : Nat) : RC G ad N (set1 F 20 j v) B E P Q (mU M (ad 6 j) (.inr (6, [.int (nI j), .ref (ad 3 (F 14 j)), .int (nI (F 15 j)), .ref (ad 7 j), .int (nI (E 4 j)), va_rf (fiA ad j (v)), va_rf (opA ad (F 16 j)), va_rf (opA ad (F 17 j)), va_rf (opA ad (F 18 j)), .int (nI (F 19 j))]))) :=
  R.set 6 j h (by simp [cellC, upd, set1, va_up]) (fun _ _ h => h) (fun i' _ hne => by simp [cellC, upd, set1, va_up, hne]) (fun k' i' hne _ => by unfold cellC; split <;> first | rfl | exact absurd rfl hne)
theorem RC.heir {G : mG} {ad : Nat → Nat → Nat} {N : Nat → Nat} {F : Nat → Nat → Nat} {B : Nat → Int32} {E P Q : Nat → Nat → Nat} {M : Mem} (R : RC G ad N F B E P Q M) {j : Nat} (h : j < E 0 6) (v : Nat) : RC G ad N (set1 F 16 j v) B E P Q (mU M (ad 6 j) (.inr (6, [.int (nI j), .ref (ad 3 (F 14 j)), .int (nI (F 15 j)), .ref (ad 7 j), .int (nI (E 4 j)), va_rf (fiA ad j (F 20 j)), va_rf (opA ad (v)), va_rf (opA ad (F 17 j)), va_rf (opA ad (F 18 j)), .int (nI (F 19 j))]))) :=
  R.set 6 j h (by simp [cellC, upd, set1, va_up]) (fun _ _ h => h) (fun i' _ hne => by simp [cellC, upd, set1, va_up, hne]) (fun k' i' hne _ => by unfold cellC; split <;> first | rfl | exact absurd rfl hne)
theorem RC.holder {G : mG} {ad : Nat → Nat → Nat} {N : Nat → Nat} {F : Nat → Nat → Nat} {B : Nat → Int32} {E P Q : Nat → Nat → Nat} {M : Mem} (R : RC G ad N F B E P Q M) {j : Nat} (h : j < E 0 6) (v : Nat) : RC G ad N (set1 F 17 j v) B E P Q (mU M (ad 6 j) (.inr (6, [.int (nI j), .ref (ad 3 (F 14 j)), .int (nI (F 15 j)), .ref (ad 7 j), .int (nI (E 4 j)), va_rf (fiA ad j (F 20 j)), va_rf (opA ad (F 16 j)), va_rf (opA ad (v)), va_rf (opA ad (F 18 j)), .int (nI (F 19 j))]))) :=
  R.set 6 j h (by simp [cellC, upd, set1, va_up]) (fun _ _ h => h) (fun i' _ hne => by simp [cellC, upd, set1, va_up, hne]) (fun k' i' hne _ => by unfold cellC; split <;> first | rfl | exact absurd rfl hne)
theorem RC.borr {G : mG} {ad : Nat → Nat → Nat} {N : Nat → Nat} {F : Nat → Nat → Nat} {B : Nat → Int32} {E P Q : Nat → Nat → Nat} {M : Mem} (R : RC G ad N F B E P Q M) {j : Nat} (h : j < E 0 6) (v : Nat) : RC G ad N (set1 F 18 j v) B E P Q (mU M (ad 6 j) (.inr (6, [.int (nI j), .ref (ad 3 (F 14 j)), .int (nI (F 15 j)), .ref (ad 7 j), .int (nI (E 4 j)), va_rf (fiA ad j (F 20 j)), va_rf (opA ad (F 16 j)), va_rf (opA ad (F 17 j)), va_rf (opA ad (v)), .int (nI (F 19 j))]))) :=
  R.set 6 j h (by simp [cellC, upd, set1, va_up]) (fun _ _ h => h) (fun i' _ hne => by simp [cellC, upd, set1, va_up, hne]) (fun k' i' hne _ => by unfold cellC; split <;> first | rfl | exact absurd rfl hne)
theorem RC.lent {G : mG} {ad : Nat → Nat → Nat} {N : Nat → Nat} {F : Nat → Nat → Nat} {B : Nat → Int32} {E P Q : Nat → Nat → Nat} {M : Mem} (R : RC G ad N F B E P Q M) {j : Nat} (h : j < E 0 6) (v : Nat) : RC G ad N (set1 F 19 j v) B E P Q (mU M (ad 6 j) (.inr (6, [.int (nI j), .ref (ad 3 (F 14 j)), .int (nI (F 15 j)), .ref (ad 7 j), .int (nI (E 4 j)), va_rf (fiA ad j (F 20 j)), va_rf (opA ad (F 16 j)), va_rf (opA ad (F 17 j)), va_rf (opA ad (F 18 j)), .int (nI (v))]))) :=
  R.set 6 j h (by simp [cellC, upd, set1, va_up]) (fun _ _ h => h) (fun i' _ hne => by simp [cellC, upd, set1, va_up, hne]) (fun k' i' hne _ => by unfold cellC; split <;> first | rfl | exact absurd rfl hne)
theorem RC.count {G : mG} {ad : Nat → Nat → Nat} {N : Nat → Nat} {F : Nat → Nat → Nat} {B : Nat → Int32} {E P Q : Nat → Nat → Nat} {M : Mem} (R : RC G ad N F B E P Q M) {j : Nat} (h : j < E 0 6) (v : Nat) : RC G ad N F B (set1 E 4 j v) P Q (mU M (ad 6 j) (.inr (6, [.int (nI j), .ref (ad 3 (F 14 j)), .int (nI (F 15 j)), .ref (ad 7 j), .int (nI (v)), va_rf (fiA ad j (F 20 j)), va_rf (opA ad (F 16 j)), va_rf (opA ad (F 17 j)), va_rf (opA ad (F 18 j)), .int (nI (F 19 j))]))) :=
  R.set 6 j h (by simp [cellC, upd, set1, va_up]) (fun _ _ h => h) (fun i' _ hne => by simp [cellC, upd, set1, va_up, hne]) (fun k' i' hne _ => by unfold cellC; split <;> first | rfl | exact absurd rfl hne)
theorem RC.rowPush {G : mG} {ad : Nat → Nat → Nat} {N : Nat → Nat} {F : Nat → Nat → Nat} {B : Nat → Int32} {E P Q : Nat → Nat → Nat} {M : Mem} (R : RC G ad N F B E P Q M) {j : Nat} (h : j < E 0 6) : RC G ad N F B (set1 E 3 j (E 3 j + 1)) P Q (mU M (ad 7 j) (.inl (G.2 8, 20, .inr (.inr (.inr (.inr (va_up (rowS ad j (E 3 j)) (E 3 j) (some (ad 8 (20 * j + E 3 j)))))))))) :=
  R.set 7 j h (by simp only [cellC, set1_at, rowS_push]) (fun _ _ h => h) (fun i' _ hne => by simp [cellC, upd, set1, va_up, hne]) (fun k' i' hne _ => by unfold cellC; split <;> first | rfl | exact absurd rfl hne)
theorem RC.rowDrop {G : mG} {ad : Nat → Nat → Nat} {N : Nat → Nat} {F : Nat → Nat → Nat} {B : Nat → Int32} {E P Q : Nat → Nat → Nat} {M : Mem} (R : RC G ad N F B E P Q M) {j n : Nat} (h : j < E 0 6) (hn : E 3 j ≤ n + 1) : RC G ad N F B (set1 E 3 j (min (E 3 j) n)) P Q (mU M (ad 7 j) (.inl (G.2 8, 20, .inr (.inr (.inr (.inr (va_up (rowS ad j (E 3 j)) n none))))))) :=
  R.set 7 j h (by simp only [cellC, set1_at, rowS_drop hn]) (fun _ _ h => h) (fun i' _ hne => by simp [cellC, upd, set1, va_up, hne]) (fun k' i' hne _ => by unfold cellC; split <;> first | rfl | exact absurd rfl hne)
theorem RC.nPl {G : mG} {ad : Nat → Nat → Nat} {N : Nat → Nat} {F : Nat → Nat → Nat} {B : Nat → Int32} {E P Q : Nat → Nat → Nat} {M : Mem} (R : RC G ad N F B E P Q M) (v : Nat) : RC G ad (va_up N 1 v) F B E P Q (mU M (ad 0 0) (.inr (7, [.ref (ad 10 0), .ref (ad 11 0), .ref (ad 12 0), .ref (ad 13 0), .ref (ad 14 0), .int (nI (v)), .int (nI (N 6)), .int (nI (N 13)), .int (nI (N 0)), .ref (ad 3 (N 12))]))) :=
  R.set 0 0 rfl (rfl) (fun _ _ h => h) (fun i' h hne => absurd (show i' = 0 from h) hne) (fun k' i' hne _ => by unfold cellC; split <;> first | rfl | exact absurd rfl hne)
theorem RC.nMa {G : mG} {ad : Nat → Nat → Nat} {N : Nat → Nat} {F : Nat → Nat → Nat} {B : Nat → Int32} {E P Q : Nat → Nat → Nat} {M : Mem} (R : RC G ad N F B E P Q M) (v : Nat) : RC G ad (va_up N 6 v) F B E P Q (mU M (ad 0 0) (.inr (7, [.ref (ad 10 0), .ref (ad 11 0), .ref (ad 12 0), .ref (ad 13 0), .ref (ad 14 0), .int (nI (N 1)), .int (nI (v)), .int (nI (N 13)), .int (nI (N 0)), .ref (ad 3 (N 12))]))) :=
  R.set 0 0 rfl (rfl) (fun _ _ h => h) (fun i' h hne => absurd (show i' = 0 from h) hne) (fun k' i' hne _ => by unfold cellC; split <;> first | rfl | exact absurd rfl hne)
theorem RC.nSk {G : mG} {ad : Nat → Nat → Nat} {N : Nat → Nat} {F : Nat → Nat → Nat} {B : Nat → Int32} {E P Q : Nat → Nat → Nat} {M : Mem} (R : RC G ad N F B E P Q M) (v : Nat) : RC G ad (va_up N 13 v) F B E P Q (mU M (ad 0 0) (.inr (7, [.ref (ad 10 0), .ref (ad 11 0), .ref (ad 12 0), .ref (ad 13 0), .ref (ad 14 0), .int (nI (N 1)), .int (nI (N 6)), .int (nI (v)), .int (nI (N 0)), .ref (ad 3 (N 12))]))) :=
  R.set 0 0 rfl (rfl) (fun _ _ h => h) (fun i' h hne => absurd (show i' = 0 from h) hne) (fun k' i' hne _ => by unfold cellC; split <;> first | rfl | exact absurd rfl hne)
theorem RC.nDay {G : mG} {ad : Nat → Nat → Nat} {N : Nat → Nat} {F : Nat → Nat → Nat} {B : Nat → Int32} {E P Q : Nat → Nat → Nat} {M : Mem} (R : RC G ad N F B E P Q M) (v : Nat) : RC G ad (va_up N 0 v) F B E P Q (mU M (ad 0 0) (.inr (7, [.ref (ad 10 0), .ref (ad 11 0), .ref (ad 12 0), .ref (ad 13 0), .ref (ad 14 0), .int (nI (N 1)), .int (nI (N 6)), .int (nI (N 13)), .int (nI (v)), .ref (ad 3 (N 12))]))) :=
  R.set 0 0 rfl (rfl) (fun _ _ h => h) (fun i' h hne => absurd (show i' = 0 from h) hne) (fun k' i' hne _ => by unfold cellC; split <;> first | rfl | exact absurd rfl hne)
theorem RC.nSe {G : mG} {ad : Nat → Nat → Nat} {N : Nat → Nat} {F : Nat → Nat → Nat} {B : Nat → Int32} {E P Q : Nat → Nat → Nat} {M : Mem} (R : RC G ad N F B E P Q M) (v : Nat) : RC G ad (va_up N 12 v) F B E P Q (mU M (ad 0 0) (.inr (7, [.ref (ad 10 0), .ref (ad 11 0), .ref (ad 12 0), .ref (ad 13 0), .ref (ad 14 0), .int (nI (N 1)), .int (nI (N 6)), .int (nI (N 13)), .int (nI (N 0)), .ref (ad 3 (v))]))) :=
  R.set 0 0 rfl (rfl) (fun _ _ h => h) (fun i' h hne => absurd (show i' = 0 from h) hne) (fun k' i' hne _ => by unfold cellC; split <;> first | rfl | exact absurd rfl hne)
theorem RC.rowPl {G : mG} {ad : Nat → Nat → Nat} {N : Nat → Nat} {F : Nat → Nat → Nat} {B : Nat → Int32} {E P Q : Nat → Nat → Nat} {M : Mem} (R : RC G ad N F B E P Q M)  : RC G ad N F B (set1 E 0 10 (E 0 10 + 1)) P Q (mU M (ad 10 0) (.inl (G.2 3, 16, .inr (.inr (.inr (.inr (va_up (rowA ad 1 (E 0 10)) (E 0 10) (some (ad 1 (E 0 10)))))))))) :=
  R.set 10 0 rfl (by simp only [cellC, set1_at, rowA_push]) (fun _ _ h => h) (fun i' h hne => absurd (show i' = 0 from h) hne) (fun k' i' hne _ => by unfold cellC; split <;> first | rfl | exact absurd rfl hne)
theorem RC.rowMa {G : mG} {ad : Nat → Nat → Nat} {N : Nat → Nat} {F : Nat → Nat → Nat} {B : Nat → Int32} {E P Q : Nat → Nat → Nat} {M : Mem} (R : RC G ad N F B E P Q M)  : RC G ad N F B (set1 E 0 11 (E 0 11 + 1)) P Q (mU M (ad 11 0) (.inl (G.2 4, 100, .inr (.inr (.inr (.inr (va_up (rowA ad 2 (E 0 11)) (E 0 11) (some (ad 2 (E 0 11)))))))))) :=
  R.set 11 0 rfl (by simp only [cellC, set1_at, rowA_push]) (fun _ _ h => h) (fun i' h hne => absurd (show i' = 0 from h) hne) (fun k' i' hne _ => by unfold cellC; split <;> first | rfl | exact absurd rfl hne)
theorem RC.rowSe {G : mG} {ad : Nat → Nat → Nat} {N : Nat → Nat} {F : Nat → Nat → Nat} {B : Nat → Int32} {E P Q : Nat → Nat → Nat} {M : Mem} (R : RC G ad N F B E P Q M)  : RC G ad N F B (set1 E 0 12 (E 0 12 + 1)) P Q (mU M (ad 12 0) (.inl (G.2 5, 12, .inr (.inr (.inr (.inr (va_up (rowA ad 3 (E 0 12)) (E 0 12) (some (ad 3 (E 0 12)))))))))) :=
  R.set 12 0 rfl (by simp only [cellC, set1_at, rowA_push]) (fun _ _ h => h) (fun i' h hne => absurd (show i' = 0 from h) hne) (fun k' i' hne _ => by unfold cellC; split <;> first | rfl | exact absurd rfl hne)
theorem RC.rowSk {G : mG} {ad : Nat → Nat → Nat} {N : Nat → Nat} {F : Nat → Nat → Nat} {B : Nat → Int32} {E P Q : Nat → Nat → Nat} {M : Mem} (R : RC G ad N F B E P Q M)  : RC G ad N F B (set1 E 0 13 (E 0 13 + 1)) P Q (mU M (ad 13 0) (.inl (G.2 6, 36, .inr (.inr (.inr (.inr (va_up (rowA ad 6 (E 0 13)) (E 0 13) (some (ad 6 (E 0 13)))))))))) :=
  R.set 13 0 rfl (by simp only [cellC, set1_at, rowA_push]) (fun _ _ h => h) (fun i' h hne => absurd (show i' = 0 from h) hne) (fun k' i' hne _ => by unfold cellC; split <;> first | rfl | exact absurd rfl hne)
section XROWS
variable {p : Program} {l : Launch} {e : Env} {R : Room} {s : State} {m : MethodId} {args : Array Value} {below : List Frame} {meth : Method} {c : Code} {H : Heap} {locs : List Loc} {cells slots : Nat} {Q : State → Prop}
variable {cc : ByteArray} {pc nL : Nat} {ls : Array Slot} {rest : List Value} {G : mG} {A : Nat → Prop} {a : Nat} {M : Mem} {own : String} {H0 : Heap}
theorem mx_iald (X : Cx p c s m cc own nL G) (hM : mW G A H0 M H locs) {n : Nat} {f : Nat → Int32} (hdg : decode cc pc = .ok (.iaload, 1)) (hc : M a = some (.inl (G.2 0, n, .inl f))) {i : Nat} (hi : i < n) (hn : n < 2 ^ 31) {v : Int32} (hv : f i = v) (kk : W p l e R s m args below meth c H locs cells slots Q (F0 m (pc + 1) ls (.int v :: rest))) : W p l e R s m args below meth c H locs cells slots Q (F0 m pc ls (.int (nI i) :: .ref a :: rest)) := by
  refine mg_iald X hM hdg hc (vp_in_nI hi hn) ?_
  rw [nI_clamp (by omega), hv]
  exact kk
theorem mx_iast (X : Cx p c s m cc own nL G) (hM : mW G A H0 M H locs) {n : Nat} {f : Nat → Int32} (hdg : decode cc pc = .ok (.iastore, 1)) (hc : M a = some (.inl (G.2 0, n, .inl f))) {i : Nat} {x : Int32} (hi : i < n) (hn : n < 2 ^ 31) (kk : ∀ (H1 : Heap) (locs1 : List Loc), mW G A H0 (mU M a (.inl (G.2 0, n, .inl (upd f i x)))) H1 locs1 → W p l e R s m args below meth c H1 locs1 cells slots Q (F0 m (pc + 1) ls rest)) : W p l e R s m args below meth c H locs cells slots Q (F0 m pc ls (.int x :: .int (nI i) :: .ref a :: rest)) := by
  refine mg_iast X hM hdg hc (vp_in_nI hi hn) ?_
  rw [nI_clamp (by omega)]
  exact kk
theorem mx_aald (X : Cx p c s m cc own nL G) (hM : mW G A H0 M H locs) {n : Nat} {f : Nat → Option Nat} (t0 : Nat) {cA : ClassId} {C : String} (ht : (mTys G)[t0]? = some (cA, .object C)) (hdg : decode cc pc = .ok (.aaload, 1)) (hc : M a = some (.inl (cA, n, .inr (.inr (.inr (.inr f)))))) {i : Nat} (hi : i < n) (hn : n < 2 ^ 31) {r : Option Nat} (hv : f i = r) (kk : W p l e R s m args below meth c H locs cells slots Q (F0 m (pc + 1) ls (va_rf r :: rest))) : W p l e R s m args below meth c H locs cells slots Q (F0 m pc ls (.int (nI i) :: .ref a :: rest)) := by
  refine mg_aald X hM t0 ht hdg hc (vp_in_nI hi hn) ?_
  rw [nI_clamp (by omega), hv]
  exact kk
theorem mx_aast (X : Cx p c s m cc own nL G) (hM : mW G A H0 M H locs) {n v ci : Nat} {vs : List Value} {f : Nat → Option Nat} (t0 : Nat) {cA : ClassId} {r : vw_C} (ht : (mTys G)[t0]? = some (cA, .object r.1)) (hci : vwCl[ci]? = some r) (hdg : decode cc pc = .ok (.aastore, 1)) (hc : M a = some (.inl (cA, n, .inr (.inr (.inr (.inr f)))))) (hv : M v = some (.inr (ci, vs))) {i : Nat} (hi : i < n) (hn : n < 2 ^ 31)
    (kk : ∀ (H1 : Heap) (locs1 : List Loc), mW G A H0 (mU M a (.inl (cA, n, .inr (.inr (.inr (.inr (va_up f i (some v)))))))) H1 locs1 → W p l e R s m args below meth c H1 locs1 cells slots Q (F0 m (pc + 1) ls rest)) : W p l e R s m args below meth c H locs cells slots Q (F0 m pc ls (.ref v :: .int (nI i) :: .ref a :: rest)) := by
  refine mg_aast X hM t0 ht hci hdg hc hv (vp_in_nI hi hn) ?_
  rw [nI_clamp (by omega)]
  exact kk
theorem mx_aastN (X : Cx p c s m cc own nL G) (hM : mW G A H0 M H locs) {n : Nat} {f : Nat → Option Nat} (t0 : Nat) {cA : ClassId} {C : String} (ht : (mTys G)[t0]? = some (cA, .object C)) (hdg : decode cc pc = .ok (.aastore, 1)) (hc : M a = some (.inl (cA, n, .inr (.inr (.inr (.inr f)))))) {i : Nat} (hi : i < n) (hn : n < 2 ^ 31)
    (kk : ∀ (H1 : Heap) (locs1 : List Loc), mW G A H0 (mU M a (.inl (cA, n, .inr (.inr (.inr (.inr (va_up f i none))))))) H1 locs1 → W p l e R s m args below meth c H1 locs1 cells slots Q (F0 m (pc + 1) ls rest)) : W p l e R s m args below meth c H locs cells slots Q (F0 m pc ls (.null :: .int (nI i) :: .ref a :: rest)) := by
  refine mg_aastN X hM t0 ht hdg hc (vp_in_nI hi hn) ?_
  rw [nI_clamp (by omega)]
  exact kk
end XROWS
theorem mU_mU (M : Mem) (q : Nat) (e f : va_E) : mU (mU M q e) q f = mU M q f := by
  funext a
  by_cases h : a = q <;> simp [mU, h]
theorem nar_rf (C : String) (r : Option Nat) : narrow (.object C) (va_rf r) = va_rf r := by cases r <;> rfl
theorem fit_rf (C : String) (r : Option Nat) : fits (.object C) (va_rf r) = true := by cases r <;> rfl
