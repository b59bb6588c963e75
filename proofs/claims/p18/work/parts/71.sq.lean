/-! The class's answers as the law asks for them -/
theorem lMet.mono {l : Launch} {y : MethodName} {bc : ByteArray} {nL : Nat} {ret : Option FieldType} {hh : List (Nat × Nat × Nat × Nat)} {rm : Room} {G : mG} {av : List Value} {M : Mem} {Post Post' : Option Value → Mem → Prop} (h : lMet l y bc nL ret hh rm G av M Post) (hp : ∀ r M', Post r M' → Post' r M') : lMet l y bc nL ret hh rm G av M Post' := by
  intro A sz p e ha hc hk s m args below hf happ hP hT
  obtain ⟨n, o, q1, q2, q3, ⟨⟨r, M2, ho, hp2, hP2, hI2⟩, hF⟩, L, hE, hL⟩ := h A sz p e ha hc hk s m args below hf happ hP hT
  exact ⟨n, o, q1, q2, q3, ⟨⟨r, M2, ho, hp r M2 hp2, hP2, hI2⟩, hF⟩, L, hE, hL⟩
theorem QLMet.k {l : Launch} {y : MethodName} {bc : ByteArray} {nL : Nat} {ret : Option FieldType} {hh : List (Nat × Nat × Nat × Nat)} {rm : Room} {G : mG} {x : Nat} {ar : Nat → Nat} {av : List Value} {C D C1 : LSt} {K : Nat} {v e1 e2 e3 : Int32}
    (h : QLMet l y bc nL ret hh rm G x ar av C D (fun r C' D' => r = some (.int (dV K v e1 e2 e3)) ∧ C' = (if K = 0 then C1 else C) ∧ D = D')) {k : Nat} (hK : K = k) {w : Int32} (hw : dV k v e1 e2 e3 = w) {C2 : LSt} (hC : (if k = 0 then C1 else C) = C2) :
    QLMet l y bc nL ret hh rm G x ar av C D (fun r C' D' => r = some (.int w) ∧ C2 = C' ∧ D = D') := by
  subst hK
  subst hw
  subst hC
  intro M hq
  refine lMet.mono (h M hq) (fun r M' hp => ?_)
  obtain ⟨C', D', ⟨h1, h2, h3⟩, h4⟩ := hp
  exact ⟨C', D', ⟨h1, h2.symm, h3⟩, h4⟩
section SQ
variable {N : Nat → Nat} {F : Nat → Nat → Nat} {B : Nat → Int32}
theorem kOne_0 {j n : Nat} (hj : j < n) (hn : n < 2 ^ 31) : kOne (iR (nI j) n) = 0 := by rw [iR_lt hj hn]; rfl
theorem kOne_1 {n : Nat} (hn : n < 2 ^ 31) : kOne (iR (nI n) n) = 1 := by
  rw [iR_nI hn]
  simp [kOne]
theorem kRanked_0 {sn q w : Nat} (hs : sn ≤ N 12) (hq : q < N 1) (hw : w ≤ 2) (h12 : N 12 ≤ 11) (h1 : N 1 ≤ 16) : kRanked N (nI sn) (nI q) (nI w) = 0 := by
  rw [kRanked, iR_lt (show sn < N 12 + 1 by omega) (by omega), iR_lt hq (by omega), if_neg (by decide), nI_toInt (by omega), if_pos (by omega)]
theorem kSkinOf_0 {k w : Nat} (hk : k < N 13) (hw : w ≤ 6) (h13 : N 13 ≤ 33) : kSkinOf N (nI k) (nI w) = 0 := by
  rw [kSkinOf, iR_lt hk (by omega), if_neg (by decide), nI_toInt (by omega), if_pos (by omega)]
theorem kLabel_0 {k a : Nat} (hk : k < N 13) (ha : a < 1000) (h13 : N 13 ≤ 33) : kLabel N (nI k) (nI a) = 0 := by
  rw [kLabel, iR_lt hk (by omega), nI_toInt (by omega), if_pos ⟨rfl, by omega⟩]
theorem no_1 {K : Nat} (h : K = 0) : ∀ E9 : String, ¬ (E9 = EIO ∧ K = 1) := fun E9 z => absurd (h.symm.trans z.2) (by decide)
theorem no_2 {K : Nat} (h : K = 0) : ∀ E9 : String, ¬ ((E9 = EIO ∧ K = 1) ∨ (E9 = EIA ∧ K = 2)) := fun E9 z => by
  rcases z with z | z
  · exact absurd (h.symm.trans z.2) (by decide)
  · exact absurd (h.symm.trans z.2) (by decide)
def fS (F : Nat → Nat → Nat) (k : Nat) : Nat := if F 20 k = 0 then 0 else 1
theorem fS_sp (F : Nat → Nat → Nat) (k : Nat) : (F 20 k = 0 → fS F k = 0) ∧ (0 < F 20 k → fS F k = 1) ∧ fS F k ≤ 1 := by
  unfold fS; split <;> omega
def rkS (N : Nat → Nat) (F : Nat → Nat → Nat) (sn q : Nat) : Nat := plM (fun p => pts F sn p (N 6)) (fun p => gms F sn p (N 6)) (N 1) q
def skV (N : Nat → Nat) (F : Nat → Nat → Nat) (k : Nat) : Nat → Int32
  | 0 => nI (F 17 k) - 1
  | 1 => nI (F 16 k) - 1
  | 2 => nI (userS N F k) - 1
  | 3 => nI (F 14 k)
  | 4 => nI (F 15 k)
  | 5 => nI (F 21 k)
  | _ => nI (fS F k)
theorem skV_is {k w : Nat} (hw : w ≤ 6) : vSkinOf N F k w = skV N F k w := by
  unfold vSkinOf
  match w, hw with
  | 0, _ => rfl
  | 1, _ => rfl
  | 2, _ => rfl
  | 3, _ => rfl
  | 4, _ => rfl
  | 5, _ => rfl
  | 6, _ =>
    show (if F 20 k = 0 then 0 else 1) = nI (fS F k)
    unfold fS
    split <;> rfl
def rkV (N : Nat → Nat) (F : Nat → Nat → Nat) (sn q : Nat) : Nat → Nat
  | 0 => pts F sn q (N 6)
  | 1 => gms F sn q (N 6)
  | _ => rkS N F sn q
theorem rkV_is {sn q w : Nat} (hw : w ≤ 2) : vRanked N F sn q w = rkV N F sn q w := by
  unfold vRanked
  match w, hw with
  | 0, _ => rfl
  | 1, _ => rfl
  | 2, _ => rfl
variable {l : Launch} {G : mG} {x : Nat} {M : Mem}
theorem x_stands (cs : CS G x N F B M) (hst : l.stackTraces = false) (hI : Iv N F) {j : Nat} (hj : j < N 6) : xMet l yX6_stands cX6_stands 2 (some FieldType.boolean) ({ frames := 7, cells := 1, slots := 6, locals := 104 } : Room) G [.ref x, .int (nI j)] M (fun r M' => kOne (iR (nI j) (N 6)) = 0 ∧ r = some (.int (bI (goodS F j))) ∧ CS G x N F B M') (fun E9 M' => CS G x N F B M' ∧ (E9 = EIO ∧ kOne (iR (nI j) (N 6)) = 1)) := by
  have hn := hI.n
  have h := c_X6_stands l G x N F B M cs (nI j) hst hI
  rw [ix_nI (by omega)] at h
  exact h
theorem x_money (cs : CS G x N F B M) (hst : l.stackTraces = false) (hI : Iv N F) {j : Nat} (hj : j < N 1) : xMet l yX6_money cX6_money 2 (some FieldType.int) ({ frames := 7, cells := 1, slots := 6, locals := 104 } : Room) G [.ref x, .int (nI j)] M (fun r M' => kOne (iR (nI j) (N 1)) = 0 ∧ r = some (.int (B j)) ∧ CS G x N F B M') (fun E9 M' => CS G x N F B M' ∧ (E9 = EIO ∧ kOne (iR (nI j) (N 1)) = 1)) := by
  have hn := hI.n
  have h := c_X6_money l G x N F B M cs (nI j) hst hI
  rw [ix_nI (by omega)] at h
  exact h
theorem x_ranked (cs : CS G x N F B M) (hst : l.stackTraces = false) (hI : Iv N F) {sn q w : Nat} (hs : sn ≤ N 12) (hq : q < N 1) (hw : w ≤ 2) : xMet l yX6_ranked cX6_ranked 6 (some FieldType.int) ({ frames := 7, cells := 3, slots := 18, locals := 104 } : Room) G [.ref x, .int (nI sn), .int (nI q), .int (nI w)] M (fun r M' => kRanked N (nI sn) (nI q) (nI w) = 0 ∧ r = some (.int (nI (rkV N F sn q w))) ∧ CS G x N F B M') (fun E9 M' => CS G x N F B M' ∧ ((E9 = EIO ∧ kRanked N (nI sn) (nI q) (nI w) = 1) ∨ (E9 = EIA ∧ kRanked N (nI sn) (nI q) (nI w) = 2))) := by
  have hn := hI.n
  have h := c_X6_ranked l G x N F B M cs (nI sn) (nI q) (nI w) hst hI
  rw [ix_nI (by omega), ix_nI (by omega), ix_nI (by omega), rkV_is hw] at h
  exact h
theorem x_skinOf (cs : CS G x N F B M) (hst : l.stackTraces = false) (hI : Iv N F) (hJ : Jv N F B) {k w : Nat} (hk : k < N 13) (hw : w ≤ 6) : xMet l yX6_skinOf cX6_skinOf 4 (some FieldType.int) ({ frames := 7, cells := 2, slots := 12, locals := 104 } : Room) G [.ref x, .int (nI k), .int (nI w)] M (fun r M' => kSkinOf N (nI k) (nI w) = 0 ∧ r = some (.int (skV N F k w)) ∧ CS G x N F B M') (fun E9 M' => CS G x N F B M' ∧ ((E9 = EIO ∧ kSkinOf N (nI k) (nI w) = 1) ∨ (E9 = EIA ∧ kSkinOf N (nI k) (nI w) = 2))) := by
  have hn := hI.n
  have h := c_X6_skinOf l G x N F B M cs (nI k) (nI w) hst hI hJ
  rw [ix_nI (by omega), ix_nI (by omega), skV_is hw] at h
  exact h
theorem x_label (cs : CS G x N F B M) (hst : l.stackTraces = false) (hI : Iv N F) {k a w : Nat} (hk : k < N 13) (ha : a < 1000) (hw : (labL F k).getD a 0 = w) : xMet l yX6_label cX6_label 5 (some FieldType.char) ({ frames := 7, cells := 3, slots := 26, locals := 104 } : Room) G [.ref x, .int (nI k), .int (nI a)] M (fun r M' => kLabel N (nI k) (nI a) = 0 ∧ r = some (.int (nI w)) ∧ CS G x N F B M') (fun E9 M' => CS G x N F B M' ∧ (E9 = EIO ∧ kLabel N (nI k) (nI a) = 1)) := by
  have hn := hI.n
  have h := c_X6_label l G x N F B M cs (nI k) (nI a) hst hI
  rw [ix_nI (by omega), ix_nI (by omega), vLabel, hw] at h
  exact h
/-! where a label's letters stand -/
theorem lab_1 {k a1 : Nat} (hk : k < 100) (ha : a1 = if 9 < k then 2 else 1) (hs : F 14 k < 100) : (k < 10 → (labL F k).getD 0 0 = 48 + k) ∧ (10 ≤ k → (labL F k).getD 0 0 = 48 + k / 10 ∧ (labL F k).getD 1 0 = 48 + k % 10) ∧ (labL F k).getD a1 0 = 58 ∧
    (F 14 k < 10 → (labL F k).getD (a1 + 1) 0 = 48 + F 14 k) ∧ (10 ≤ F 14 k → (labL F k).getD (a1 + 1) 0 = 48 + F 14 k / 10 ∧ (labL F k).getD (a1 + 1 + 1) 0 = 48 + F 14 k % 10) := by
  subst ha
  unfold labL dgs
  by_cases h1 : 9 < k
  · by_cases h2 : 9 < F 14 k
    · simp [h1, h2]; omega
    · simp [h1, h2]; omega
  · by_cases h2 : 9 < F 14 k
    · simp [h1, h2]; omega
    · simp [h1, h2]; omega
theorem lab_2 {k a1 a2 : Nat} (ha : a1 = if 9 < k then 2 else 1) (h2 : a2 = a1 + if 9 < F 14 k then 3 else 2) (hp : F 15 k ≤ 3) (h17 : F 17 k < 100) : (labL F k).getD a2 0 = 47 ∧ (labL F k).getD (a2 + 1) 0 = 48 + F 15 k ∧ (F 17 k = 0 → (labL F k).getD (a2 + 2) 0 = 0) ∧
    (0 < F 17 k → (labL F k).getD (a2 + 2) 0 = 64 ∧ (F 17 k - 1 < 10 → (labL F k).getD (a2 + 3) 0 = 48 + (F 17 k - 1) ∧ (labL F k).getD (a2 + 4) 0 = 0) ∧ (10 ≤ F 17 k - 1 → (labL F k).getD (a2 + 3) 0 = 48 + (F 17 k - 1) / 10 ∧ (labL F k).getD (a2 + 3 + 1) 0 = 48 + (F 17 k - 1) % 10 ∧ (labL F k).getD (a2 + 5) 0 = 0)) := by
  subst ha
  subst h2
  have h3 : ¬ 9 < F 15 k := by omega
  unfold labL dgs
  by_cases h1 : 9 < k
  · by_cases h2 : 9 < F 14 k
    · by_cases h4 : F 17 k = 0
      · simp [h1, h2, h3, h4]; omega
      · by_cases h5 : 9 < F 17 k - 1
        · simp [h1, h2, h3, h4, h5]; omega
        · simp [h1, h2, h3, h4, h5]; omega
    · by_cases h4 : F 17 k = 0
      · simp [h1, h2, h3, h4]; omega
      · by_cases h5 : 9 < F 17 k - 1
        · simp [h1, h2, h3, h4, h5]; omega
        · simp [h1, h2, h3, h4, h5]; omega
  · by_cases h2 : 9 < F 14 k
    · by_cases h4 : F 17 k = 0
      · simp [h1, h2, h3, h4]; omega
      · by_cases h5 : 9 < F 17 k - 1
        · simp [h1, h2, h3, h4, h5]; omega
        · simp [h1, h2, h3, h4, h5]; omega
    · by_cases h4 : F 17 k = 0
      · simp [h1, h2, h3, h4]; omega
      · by_cases h5 : 9 < F 17 k - 1
        · simp [h1, h2, h3, h4, h5]; omega
        · simp [h1, h2, h3, h4, h5]; omega
theorem ctw_t {W : Nat → Nat} {i b : Nat} (h : W i < b) : nI (1 + cnt W i b) + nI 1 = nI (1 + cnt W (i + 1) b) := by
  rw [nI_add]
  exact congrArg nI (by
    show _ = 1 + (cnt W i b + if W i < b then 1 else 0)
    rw [if_pos h]; omega)
theorem ctw_f {W : Nat → Nat} {i b : Nat} (h : ¬ W i < b) : nI (1 + cnt W i b) + nI 0 = nI (1 + cnt W (i + 1) b) := by
  rw [nI_add]
  exact congrArg nI (by
    show _ = 1 + (cnt W i b + if W i < b then 1 else 0)
    rw [if_neg h]; omega)
theorem cnt_le {W : Nat → Nat} {n b : Nat} : cnt W n b ≤ n := by
  have h := sumN_le (f := fun q => if W q < b then 1 else 0) (c := 1) (n := n) (fun i _ => by
    show (if _ then 1 else 0) ≤ 1
    split <;> omega)
  unfold cnt; omega
theorem rkS_b (hI : Iv N F) (h6 : N 6 ≤ 60) {sn q : Nat} (hq : q < N 1) : (wS F sn (N 6) q = 1000000 → rkS N F sn q = 0) ∧ (¬ wS F sn (N 6) q = 1000000 → rkS N F sn q = 1 + cnt (wW N F sn) (N 1) (wS F sn (N 6) q)) ∧ rkS N F sn q ≤ 17 := by
  have hn := hI.n
  have h := wW_pl hI.ih h6 sn hq
  have hc := cnt_le (W := wW N F sn) (n := N 1) (b := wS F sn (N 6) q)
  have h' : rkS N F sn q = if wS F sn (N 6) q = 1000000 then 0 else 1 + cnt (wW N F sn) (N 1) (wS F sn (N 6) q) := h
  refine ⟨fun z => by rw [h', if_pos z], fun z => by rw [h', if_neg z], ?_⟩
  rw [h']
  split <;> omega
end SQ
theorem kRanked_1 {N : Nat → Nat} (h12 : N 12 ≤ 11) (a b : Int32) : kRanked N (nI (N 12 + 1)) a b = 1 := by
  rw [kRanked, iR_nI (by omega), show decide (N 12 + 1 < N 12 + 1) = false from decide_eq_false (by omega)]
  rfl
theorem kSkinOf_1 {N : Nat → Nat} (h13 : N 13 ≤ 33) (b : Int32) : kSkinOf N (nI (N 13)) b = 1 := by
  rw [kSkinOf, iR_nI (by omega), show decide (N 13 < N 13) = false from decide_eq_false (by omega)]
  rfl
