/-! The law's calls, case by case: what goes on behind each -/
def LK (p : Program) (l : Launch) (e : Env) (s : State) (m : MethodId) (below : List Frame) (meth : Method) (c : Code) (G : mG) (x : Nat) (ar : Nat → Nat) (j b one two : Nat) : Prop :=
  ∀ (N : Nat → Nat) (F : Nat → Nat → Nat) (B : Nat → Int32) (H : Heap) (locs : List Loc) (ls : Array Slot), LI (j + 1) N F B → qM G (lA s) s x ar (N, F, B) (N, F, B) H locs →
    lv_has ls 23 [(12, .int (nI 1)), (13, .int (nI j)), (15, .int (nI one)), (16, .int (nI two)), (0, .ref b), (1, .ref x), (2, .ref (ar 0)), (3, .ref (ar 1)), (4, .ref (ar 2)), (5, .ref (ar 3)), (6, .ref (ar 4)), (7, .ref (ar 5)), (8, .ref (ar 6)), (9, .ref (ar 7)), (10, .ref (ar 8)), (11, .ref (ar 9))] →
    W p l e room_1 s m #[Value.ref b] below meth c H locs (1000 + 1100 * j + 40) (10000 + 7000 * j + 400) (lw_Z below #[Value.ref b] s) (F0 m 1241 ls [])
section LKS
variable {N : Nat → Nat} {F : Nat → Nat → Nat} {B : Nat → Int32} {V : Nat → Nat → Int32}
theorem va_up_id (N : Nat → Nat) (k : Nat) : va_up N k (N k) = N := by
  funext i
  by_cases h : i = k
  · subst h; rw [va_up_at]
  · rw [va_up_off _ _ h]
theorem va_up_2 (N : Nat → Nat) (k v w : Nat) : va_up (va_up N k v) k w = va_up N k w := by
  funext i
  by_cases h : i = k
  · subst h; rw [va_up_at, va_up_at]
  · rw [va_up_off _ _ h, va_up_off _ _ h, va_up_off _ _ h]
theorem set1_id (F : Nat → Nat → Nat) (k i : Nat) : set1 F k i (F k i) = F := by
  funext a b
  by_cases h : a = k ∧ b = i
  · rw [h.1, h.2, set1_at]
  · rw [set1_off _ (by omega)]
theorem LR.gsame (h : LR N F B V) : LR N F B (vS V 9 3 (nI (N 12 + 0))) := by
  have h1 := h.wsea (N 12)
  rw [va_up_id] at h1
  exact h1
theorem LR.wbans (h : LR N F B V) (hn : N 1 ≤ 16) {q : Nat} (hq : q < 16) : LR N F B (vS V 0 (16 + q) (nI (F 3 q))) := by
  have h1 := h.wban hn hq (F 3 q)
  rw [set1_id] at h1
  exact h1
theorem LR.wrs (h : LR N F B V) {q : Nat} (hq : q < 4) : LR N F B (vS V 9 (5 + q) (nI (F 5 q))) := by
  have h1 := h.wr hq (F 5 q)
  rw [set1_id] at h1
  exact h1
theorem kPlayer_0 (h : ¬ N 1 = 16) : kPlayer N = 0 := if_neg h
theorem kPlayer_1 (h : N 1 = 16) : kPlayer N = 1 := if_pos h
theorem kEnd_0 (h : ¬ N 12 = 11) : kEnd N = 0 := if_neg h
theorem kEnd_1 (h : N 12 = 11) : kEnd N = 1 := if_pos h
theorem kProof_1 {q : Nat} {d : Int32} (hq : q ≤ 16) (h1 : N 1 ≤ 16) (h : ¬ q < N 1) : kProof N (nI q) d = 1 := by
  rw [kProof, iR_nI (by omega), decide_eq_false h, if_pos rfl]
theorem kProof_v {q d : Nat} (hq : q < N 1) (hd : d < 2 ^ 30) (h1 : N 1 ≤ 16) : kProof N (nI q) (nI d) = if d ≤ N 0 then 0 else 2 := by
  rw [kProof, iR_lt hq (by omega), if_neg (by decide), nI_toInt (by omega)]
  by_cases h : d ≤ N 0
  · rw [if_pos h, if_pos (by omega)]
  · rw [if_neg h, if_neg (by omega)]
theorem kClear_1 {q : Nat} (hq : q ≤ 16) (h1 : N 1 ≤ 16) (h : ¬ q < N 1) : kClear N F (nI q) = 1 := by
  rw [kClear, iR_nI (by omega), decide_eq_false h, if_pos rfl]
theorem kClear_v {q : Nat} (hq : q < N 1) (h1 : N 1 ≤ 16) : kClear N F (nI q) = if F 2 q = 0 then 2 else 0 := by
  rw [kClear, iR_lt hq (by omega), if_neg (by decide), ix_nI (by omega)]
theorem kBan_1 {q : Nat} {d : Int32} (hq : q ≤ 16) (h1 : N 1 ≤ 16) (h : ¬ q < N 1) : kBan N (nI q) d = 1 := by
  rw [kBan, iR_nI (by omega), decide_eq_false h, if_pos rfl]
theorem kBan_v {q d : Nat} (hq : q < N 1) (hd : d < 2 ^ 30) (h1 : N 1 ≤ 16) : kBan N (nI q) (nI d) = if d ≤ 1000 then 0 else 2 := by
  rw [kBan, iR_lt hq (by omega), if_neg (by decide), nI_toInt (by omega)]
  by_cases h : d ≤ 1000
  · rw [if_pos h, if_pos (by omega)]
  · rw [if_neg h, if_neg (by omega)]
theorem kRoom_v {r d : Nat} (hr : r < 4) (hd : d < 2 ^ 30) : kRoom (nI r) (nI d) = if d ≤ 50 then 0 else 2 := by
  rw [kRoom, iR_lt hr (by decide), if_neg (by decide), nI_toInt (by omega)]
  by_cases h : d ≤ 50
  · rw [if_pos h, if_pos (by omega)]
  · rw [if_neg h, if_neg (by omega)]
theorem kPass_0 {d : Nat} (h1 : 1 ≤ d) (h2 : d ≤ 400) : kPass (nI d) = 0 := by
  rw [kPass, nI_toInt (by omega), if_pos (by omega)]
theorem awS_of2 (N : Nat → Nat) (F : Nat → Nat → Nat) {a : Nat} (h : a ≠ 14 ∧ a ≠ 15 ∧ a ≠ 16 ∧ a ≠ 17 ∧ a ≠ 18 ∧ a ≠ 20 ∧ a ≠ 21) : ∀ n, (awS N F n).2 a = F a
  | 0 => rfl
  | n + 1 => by
    rw [awS]
    split
    · exact awS_of2 N F h n
    · funext i
      show awF _ _ _ _ _ a i = F a i
      rw [awF_off _ _ _ _ _ (Or.inr h), awS_of2 N F h n]
theorem awS_le (N : Nat → Nat) (F : Nat → Nat → Nat) : ∀ n, (awS N F n).1 ≤ n
  | 0 => Nat.le_refl _
  | n + 1 => by
    have := awS_le N F n
    rw [awS]
    split
    · omega
    · show (awS N F n).1 + 1 ≤ n + 1; omega
theorem Ih.aw (h : Ih N F) {n c v : Nat} {F1 : Nat → Nat → Nat} (hA : awS N F n = (c, F1)) : Ih (va_up N 13 v) F1 := by
  have f : ∀ a, (a ≠ 14 ∧ a ≠ 15 ∧ a ≠ 16 ∧ a ≠ 17 ∧ a ≠ 18 ∧ a ≠ 20 ∧ a ≠ 21) → F1 a = F a := fun a ha => by
    have := awS_of2 N F ha n
    rw [hA] at this; exact this
  refine ⟨h.1, ?_, ?_⟩
  · rw [f 2 (by decide), f 3 (by decide)]; exact h.2.1
  · intro q hq
    have h9 := h.2.2 q hq
    unfold IvM at h9 ⊢
    rw [f 7 (by decide), f 8 (by decide), f 9 (by decide), f 10 (by decide), f 11 (by decide)]; exact h9
theorem heirS_aw {n c v : Nat} {F1 : Nat → Nat → Nat} (hA : awS N F n = (c, F1)) (sn pl : Nat) : heirS (va_up N 13 v) F1 sn pl = heirS N F sn pl := by
  have f : ∀ a, (a ≠ 14 ∧ a ≠ 15 ∧ a ≠ 16 ∧ a ≠ 17 ∧ a ≠ 18 ∧ a ≠ 20 ∧ a ≠ 21) → F1 a = F a := fun a ha => by
    have := awS_of2 N F ha n
    rw [hA] at this; exact this
  exact heirS_congr rfl rfl (f 2 (by decide)) (f 7 (by decide)) (f 8 (by decide)) (f 10 (by decide)) (f 11 (by decide)) _ _
theorem aw_no {n c v : Nat} {F1 : Nat → Nat → Nat} (hA : awS N F n = (c, F1)) (hv : heirS N F (N 12) (n + 1) = v) (h0 : v = 0) : awS N F (n + 1) = (c, F1) := by
  rw [awS, hv, if_pos h0, hA]
theorem aw_yes {n c v : Nat} {F1 : Nat → Nat → Nat} (hA : awS N F n = (c, F1)) (hv : heirS N F (N 12) (n + 1) = v) (h0 : ¬ v = 0) : awS N F (n + 1) = (c + 1, awF F1 (N 13 + c) (N 12) (n + 1) v) := by
  rw [awS, hv, if_neg h0, hA]
theorem badN_look (N : Nat → Nat) (F : Nat → Nat → Nat) (B : Nat → Int32) (k : Nat) : badN (lookS N F B k).1 = badN F :=
  badN_congr (lookS_off N F B (by decide) k) (lookS_off N F B (by decide) k) (lookS_off N F B (by decide) k)
theorem badN_at {n v : Nat} (h : badN F n + v = badN F (n + 1)) : nI (badN F n) + nI v = nI (badN F (n + 1)) := by rw [nI_add, h]
/-- what the class says of proofs: rows that a look keeps -/
theorem Ih.look (h : Ih N F) (k : Nat) : Ih N (lookS N F B k).1 := by
  refine ⟨h.1, ?_, ?_⟩
  · rw [lookS_off N F B (by decide), lookS_off N F B (by decide)]; exact h.2.1
  · intro q hq
    have h9 := h.2.2 q hq
    unfold IvM at h9 ⊢
    rw [lookS_off N F B (by decide), lookS_off N F B (by decide), lookS_off N F B (by decide), lookS_off N F B (by decide), lookS_off N F B (by decide)]; exact h9
theorem lr0 {V : Nat → Nat → Int32} (h : ∀ k i, k ≠ 9 → V k i = 0) (h9 : ∀ i, i < 5 → V 9 i = 0) (h5 : ∀ r, r < 4 → V 9 (5 + r) = nI 10) : LR N0i F0i B0i V := by
  refine ⟨⟨fun i hi => absurd hi (Nat.not_lt_zero i), fun i _ => h 0 _ (by decide), fun i _ => h 0 _ (by decide)⟩, ⟨fun i hi => absurd hi (Nat.not_lt_zero i), fun i hi => absurd hi (Nat.not_lt_zero i)⟩, ⟨fun i hi => absurd hi (Nat.not_lt_zero i), fun i hi => absurd hi (Nat.not_lt_zero i), fun i _ => h 5 _ (by decide)⟩, ⟨fun i _ => ?_, fun i _ => ?_⟩, fun k i hk _ => absurd hk (Nat.not_lt_zero k), ⟨h9 0 (by decide), h9 1 (by decide), h9 2 (by decide), h9 3 (by decide), h9 4 (by decide), fun r hr => ?_⟩, Nat.zero_le _, fun k hk => absurd hk (Nat.not_lt_zero k)⟩
  · rw [h 6 i (by decide), if_neg (show ¬ i < N0i 13 from Nat.not_lt_zero i)]; rfl
  · rw [h 7 i (by decide), if_neg (show ¬ i < N0i 13 from Nat.not_lt_zero i)]; rfl
  · rw [h5 r hr]
    unfold F0i
    rw [if_neg (by decide), if_pos ⟨rfl, hr⟩]
end LKS
