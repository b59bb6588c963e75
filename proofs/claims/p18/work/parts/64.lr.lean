/-! What the law's arrays tell, read by read -/
section LRR
variable {N : Nat → Nat} {F : Nat → Nat → Nat} {B : Nat → Int32} {V : Nat → Nat → Int32}
theorem LR.p0 (h : LR N F B V) {i : Nat} (hi : i < N 1) : V 0 i = nI (F 2 i) - 1 := h.1.1 i hi
theorem LR.ban (h : LR N F B V) {i : Nat} (hi : i < 16) : V 0 (16 + i) = nI (F 3 i) := h.1.2.1 i hi
theorem LR.mon (h : LR N F B V) {i : Nat} (hi : i < 16) : V 0 (32 + i) = B i := h.1.2.2 i hi
theorem LR.m1 (h : LR N F B V) {j : Nat} (hj : j < N 6) : V 1 j = nI (mvS F j) := h.2.1.1 j hj
theorem LR.d2 (h : LR N F B V) {j : Nat} (hj : j < N 6) : V 2 j = nI (F 10 j) := h.2.1.2 j hj
theorem LR.k3 (h : LR N F B V) {k : Nat} (hk : k < N 13) : V 3 k = nI (kvS F k) := h.2.2.1.1 k hk
theorem LR.h4 (h : LR N F B V) {k : Nat} (hk : k < N 13) : V 4 k = nI (hvS F k) := h.2.2.1.2.1 k hk
theorem LR.u5 (h : LR N F B V) {k : Nat} (hk : k < 36) : V 5 k = nI (F 19 k) := h.2.2.1.2.2 k hk
theorem LR.f6 (h : LR N F B V) {k : Nat} (hk : k < N 13) (h36 : k < 36) : V 6 k = nI (F 20 k) := by rw [h.2.2.2.1.1 k h36, if_pos hk]
theorem LR.n7 (h : LR N F B V) {k : Nat} (hk : k < N 13) (h36 : k < 36) : V 7 k = nI (F 21 k) := by rw [h.2.2.2.1.2 k h36, if_pos hk]
theorem LR.s8 (h : LR N F B V) {k i : Nat} (hk : k < N 13) (hi : i < F 21 k) : V 8 (10 * k + i) = nI (svS F (20 * k + i)) := h.2.2.2.2.1 k i hk hi
theorem LR.g0 (h : LR N F B V) : V 9 0 = nI (N 0) := h.2.2.2.2.2.1.1
theorem LR.g1 (h : LR N F B V) : V 9 1 = nI (N 1) := h.2.2.2.2.2.1.2.1
theorem LR.g2 (h : LR N F B V) : V 9 2 = nI (N 6) := h.2.2.2.2.2.1.2.2.1
theorem LR.g3 (h : LR N F B V) : V 9 3 = nI (N 12) := h.2.2.2.2.2.1.2.2.2.1
theorem LR.g4 (h : LR N F B V) : V 9 4 = nI (N 13) := h.2.2.2.2.2.1.2.2.2.2.1
theorem LR.g5 (h : LR N F B V) {r : Nat} (hr : r < 4) : V 9 (5 + r) = nI (F 5 r) := h.2.2.2.2.2.1.2.2.2.2.2 r hr
theorem LR.n6 (h : LR N F B V) : N 6 ≤ 60 := h.2.2.2.2.2.2.1
theorem LR.sl (h : LR N F B V) {k : Nat} (hk : k < N 13) : F 21 k ≤ 10 ∧ (5 < k → F 21 k = 0) := h.2.2.2.2.2.2.2 k hk
/-- what the players and the matches alone keep -/
def Ih (N : Nat → Nat) (F : Nat → Nat → Nat) : Prop := (N 1 ≤ 16 ∧ N 6 ≤ 100 ∧ N 12 ≤ 11 ∧ N 0 ≤ 250000) ∧ (∀ p, F 2 p ≤ 250001 ∧ F 3 p ≤ 260000) ∧ ∀ m, m < N 6 → IvM N F m
theorem Iv.ih (h : Iv N F) : Ih N F := ⟨⟨h.n.1, h.n.2.1, h.n.2.2.1, h.n.2.2.2.2⟩, h.2.1, h.2.2.2.1⟩
theorem Ih.n (h : Ih N F) : N 1 ≤ 16 ∧ N 6 ≤ 100 ∧ N 12 ≤ 11 ∧ N 0 ≤ 250000 := h.1
theorem Ih.p (h : Ih N F) (p : Nat) : F 2 p ≤ 250001 ∧ F 3 p ≤ 260000 := h.2.1 p
theorem Ih.m (h : Ih N F) {m : Nat} (hm : m < N 6) : F 7 m < N 1 ∧ F 8 m < N 1 ∧ F 7 m ≠ F 8 m ∧ F 9 m < 4 ∧ F 10 m ≤ N 0 ∧ F 11 m ≤ N 12 := h.2.2 m hm
theorem mv_b (hI : Ih N F) {j : Nat} (hj : j < N 6) : mvS F j < 20000 ∧ mvS F j % 16 = F 7 j ∧ mvS F j / 16 % 16 = F 8 j ∧ mvS F j / 256 % 4 = F 9 j ∧ mvS F j / 1024 = F 11 j ∧ F 7 j < 16 ∧ F 8 j < 16 ∧ F 7 j < N 1 ∧ F 8 j < N 1 ∧ F 9 j < 4 ∧ F 11 j ≤ 11 ∧ F 10 j ≤ 250000 ∧ F 7 j ≠ F 8 j := by
  have h1 := hI.m hj
  have h2 := hI.n
  unfold mvS
  omega
theorem kv_b (hI : Iv N F) {k : Nat} (hk : k < N 13) : kvS F k < 100 ∧ kvS F k % 16 = F 14 k ∧ kvS F k / 16 = F 15 k ∧ F 14 k < 11 ∧ F 14 k < N 12 ∧ 1 ≤ F 15 k ∧ F 15 k ≤ 3 := by
  have h1 := hI.k hk
  have h2 := hI.n
  unfold kvS
  omega
theorem hv_b (hI : Iv N F) {k : Nat} (hk : k < N 13) : hvS F k < 20000 ∧ hvS F k % 32 = F 16 k ∧ hvS F k / 32 % 32 = F 17 k ∧ hvS F k / 1024 = F 18 k ∧ F 16 k ≤ 16 ∧ F 17 k ≤ 16 ∧ F 18 k ≤ 16 ∧ F 16 k ≤ N 1 ∧ F 17 k ≤ N 1 ∧ F 18 k ≤ N 1 ∧ hvS F k / 32 = F 17 k + 32 * F 18 k ∧ hvS F k % 1024 = F 16 k + 32 * F 17 k := by
  have h1 := hI.k hk
  have h2 := hI.n
  unfold hvS
  omega
theorem sv_b (hI : Iv N F) {k i : Nat} (hk : k < N 13) (hi : i < F 21 k) : svS F (20 * k + i) < 3000000 ∧ svS F (20 * k + i) % 16 = F 22 (20 * k + i) ∧ svS F (20 * k + i) / 16 % 16 = F 23 (20 * k + i) ∧ svS F (20 * k + i) / 256 = F 24 (20 * k + i) ∧ F 22 (20 * k + i) < N 1 ∧ F 23 (20 * k + i) < N 1 ∧ F 24 (20 * k + i) ≤ 10000 := by
  have h1 := hI.s hk hi
  have h2 := hI.n
  unfold svS
  omega
end LRR
theorem nI_n0 {n : Nat} (h : 0 < n) (hn : n < 2 ^ 31) : ¬ nI n = 0 := fun q => by
  have h1 := nI_toInt hn
  rw [q] at h1
  have h2 : (0 : Int32).toInt = 0 := by decide
  omega
theorem qM.n6 {G : mG} {A : Nat → Prop} {s : State} {x : Nat} {ar : Nat → Nat} {C : LSt} {N : Nat → Nat} {F : Nat → Nat → Nat} {B : Nat → Int32} {H : Heap} {locs : List Loc} (h : qM G A s x ar C (N, F, B) H locs) : N 6 ≤ 60 := by
  obtain ⟨M, -, MC, ML, V, -, -, -, -, lr⟩ := h
  exact LR.n6 lr
theorem qM.sl {G : mG} {A : Nat → Prop} {s : State} {x : Nat} {ar : Nat → Nat} {C : LSt} {N : Nat → Nat} {F : Nat → Nat → Nat} {B : Nat → Int32} {H : Heap} {locs : List Loc} (h : qM G A s x ar C (N, F, B) H locs) {k : Nat} (hk : k < N 13) : F 21 k ≤ 10 ∧ (5 < k → F 21 k = 0) := by
  obtain ⟨M, -, MC, ML, V, -, -, -, -, lr⟩ := h
  exact LR.sl lr hk
section PTS
variable {F : Nat → Nat → Nat} {s p m v : Nat}
theorem ptC_0 (h : ¬ (F 11 m = s ∧ goodS F m = true)) : 0 = ptC F s p m := (if_neg h).symm
theorem ptC_3 (h1 : F 11 m = s) (h2 : goodS F m = true) (h3 : F 7 m = p) (h4 : F 7 m ≠ F 8 m) : 3 = ptC F s p m := by
  rw [ptC, if_pos ⟨h1, h2⟩, if_pos h3, if_neg (fun q => h4 (h3.trans q.symm))]
theorem ptC_1 (h1 : F 11 m = s) (h2 : goodS F m = true) (h3 : ¬ F 7 m = p) (h4 : F 8 m = p) : 1 = ptC F s p m := by
  rw [ptC, if_pos ⟨h1, h2⟩, if_neg h3, if_pos h4]
theorem ptC_n (h3 : ¬ F 7 m = p) (h4 : ¬ F 8 m = p) : 0 = ptC F s p m := by
  unfold ptC
  split
  · first | rfl | rw [if_neg h3, if_neg h4]
  · rfl
theorem gmC_0 (h : ¬ (F 11 m = s ∧ goodS F m = true)) : 0 = gmC F s p m := (if_neg h).symm
theorem gmC_3 (h1 : F 11 m = s) (h2 : goodS F m = true) (h3 : F 7 m = p) (h4 : F 7 m ≠ F 8 m) : 1 = gmC F s p m := by
  rw [gmC, if_pos ⟨h1, h2⟩, if_pos h3, if_neg (fun q => h4 (h3.trans q.symm))]
theorem gmC_1 (h1 : F 11 m = s) (h2 : goodS F m = true) (h3 : ¬ F 7 m = p) (h4 : F 8 m = p) : 1 = gmC F s p m := by
  rw [gmC, if_pos ⟨h1, h2⟩, if_neg h3, if_pos h4]
theorem gmC_n (h3 : ¬ F 7 m = p) (h4 : ¬ F 8 m = p) : 0 = gmC F s p m := by
  unfold gmC
  split
  · first | rfl | rw [if_neg h3, if_neg h4]
  · rfl
theorem pts_at (h : v = ptC F s p m) : nI (pts F s p m) + nI v = nI (pts F s p (m + 1)) := by
  rw [nI_add, h]; rfl
theorem gms_at (h : v = gmC F s p m) : nI (gms F s p m) + nI v = nI (gms F s p (m + 1)) := by
  rw [nI_add, h]; rfl
end PTS
/-! the arrays themselves, where more than one is written before they agree again -/
def qV (G : mG) (A : Nat → Prop) (s : State) (x : Nat) (ar : Nat → Nat) (C : LSt) (V : Nat → Nat → Int32) (H : Heap) (locs : List Loc) : Prop := ∃ (MC ML : Mem), mW G A s.heap (mJ MC ML) H locs ∧ mDj MC ML ∧ CS G x C.1 C.2.1 C.2.2 MC ∧ LA G ar V ML
abbrev vS (V : Nat → Nat → Int32) (k i : Nat) (w : Int32) : Nat → Nat → Int32 := va_up V k (upd (V k) i w)
theorem qM.opn {G : mG} {A : Nat → Prop} {s : State} {x : Nat} {ar : Nat → Nat} {C : LSt} {N : Nat → Nat} {F : Nat → Nat → Nat} {B : Nat → Int32} {H : Heap} {locs : List Loc} (h : qM G A s x ar C (N, F, B) H locs) : ∃ V, LR N F B V ∧ qV G A s x ar C V H locs := by
  obtain ⟨M, hM, MC, ML, V, rfl, d, cs, la, lr⟩ := h
  exact ⟨V, lr, MC, ML, hM, d, cs, la⟩
theorem qV.close {G : mG} {A : Nat → Prop} {s : State} {x : Nat} {ar : Nat → Nat} {C : LSt} {N : Nat → Nat} {F : Nat → Nat → Nat} {B : Nat → Int32} {V : Nat → Nat → Int32} {H : Heap} {locs : List Loc} (h : qV G A s x ar C V H locs) (lr : LR N F B V) : qM G A s x ar C (N, F, B) H locs := by
  obtain ⟨MC, ML, hM, d, cs, la⟩ := h
  exact ⟨_, hM, MC, ML, V, rfl, d, cs, la, lr⟩
section VROWS
variable {p : Program} {l : Launch} {e : Env} {R : Room} {s : State} {m : MethodId} {args : Array Value} {below : List Frame} {meth : Method} {c : Code} {H : Heap} {locs : List Loc} {cells slots : Nat} {Q : State → Prop}
variable {cc : ByteArray} {pc nL : Nat} {ls : Array Slot} {rest : List Value} {G : mG} {A : Nat → Prop} {own : String} {x : Nat} {ar : Nat → Nat} {C : LSt} {V : Nat → Nat → Int32}
theorem v_ald (X : Cx p c s m cc own nL G) (h : qV G A s x ar C V H locs) (k : Nat) (hk : k < 10) (hdg : decode cc pc = .ok (.iaload, 1)) {i : Nat} {xi v : Int32} (hx : xi = nI i) (hi : i < lenL k) (hv : V k i = v)
    (kk : W p l e R s m args below meth c H locs cells slots Q (F0 m (pc + 1) ls (.int v :: rest))) : W p l e R s m args below meth c H locs cells slots Q (F0 m pc ls (.int xi :: .ref (ar k) :: rest)) := by
  obtain ⟨MC, ML, hM, d, cs, la⟩ := h
  subst hx
  have hl := lenL_le k
  refine mg_iald X hM hdg (mJ_r d (la.1 k hk)) (vp_in_nI hi (by omega)) ?_
  rw [nI_clamp (by omega), hv]
  exact kk
theorem v_ast (X : Cx p c s m cc own nL G) (h : qV G A s x ar C V H locs) (k : Nat) (hk : k < 10) (hdg : decode cc pc = .ok (.iastore, 1)) {i : Nat} {xi w : Int32} (hx : xi = nI i) (hi : i < lenL k)
    (kk : ∀ (H1 : Heap) (locs1 : List Loc), qV G A s x ar C (vS V k i w) H1 locs1 → W p l e R s m args below meth c H1 locs1 cells slots Q (F0 m (pc + 1) ls rest)) : W p l e R s m args below meth c H locs cells slots Q (F0 m pc ls (.int w :: .int xi :: .ref (ar k) :: rest)) := by
  obtain ⟨MC, ML, hM, d, cs, la⟩ := h
  subst hx
  have hl := lenL_le k
  refine mg_iast X hM hdg (mJ_r d (la.1 k hk)) (vp_in_nI hi (by omega)) (fun H1 locs1 h1 => kk H1 locs1 ?_)
  have hn := d.off (la.1 k hk)
  rw [nI_clamp (by omega), mJ_put hn] at h1
  exact ⟨MC, _, h1, d.put hn, cs, la.put hk _⟩
end VROWS
