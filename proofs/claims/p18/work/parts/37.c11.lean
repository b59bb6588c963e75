theorem RC.rowPlc {G : mG} {ad : Nat → Nat → Nat} {N : Nat → Nat} {F : Nat → Nat → Nat} {B : Nat → Int32} {E P Q : Nat → Nat → Nat} {M : Mem} (R : RC G ad N F B E P Q M) {n : Nat} (hn : E 0 10 = n) : RC G ad N F B (set1 E 0 10 (n + 1)) P Q (mU M (ad 10 0) (.inl (G.2 3, 16, .inr (.inr (.inr (.inr (va_up (rowA ad 1 (E 0 10)) n (some (ad 1 n))))))))) := by
  subst hn
  exact R.rowPl
theorem RC.rowMac {G : mG} {ad : Nat → Nat → Nat} {N : Nat → Nat} {F : Nat → Nat → Nat} {B : Nat → Int32} {E P Q : Nat → Nat → Nat} {M : Mem} (R : RC G ad N F B E P Q M) {n : Nat} (hn : E 0 11 = n) : RC G ad N F B (set1 E 0 11 (n + 1)) P Q (mU M (ad 11 0) (.inl (G.2 4, 100, .inr (.inr (.inr (.inr (va_up (rowA ad 2 (E 0 11)) n (some (ad 2 n))))))))) := by
  subst hn
  exact R.rowMa
theorem RC.rowSec {G : mG} {ad : Nat → Nat → Nat} {N : Nat → Nat} {F : Nat → Nat → Nat} {B : Nat → Int32} {E P Q : Nat → Nat → Nat} {M : Mem} (R : RC G ad N F B E P Q M) {n : Nat} (hn : E 0 12 = n) : RC G ad N F B (set1 E 0 12 (n + 1)) P Q (mU M (ad 12 0) (.inl (G.2 5, 12, .inr (.inr (.inr (.inr (va_up (rowA ad 3 (E 0 12)) n (some (ad 3 n))))))))) := by
  subst hn
  exact R.rowSe
theorem RC.rowSkc {G : mG} {ad : Nat → Nat → Nat} {N : Nat → Nat} {F : Nat → Nat → Nat} {B : Nat → Int32} {E P Q : Nat → Nat → Nat} {M : Mem} (R : RC G ad N F B E P Q M) {n : Nat} (hn : E 0 13 = n) : RC G ad N F B (set1 E 0 13 (n + 1)) P Q (mU M (ad 13 0) (.inl (G.2 6, 36, .inr (.inr (.inr (.inr (va_up (rowA ad 6 (E 0 13)) n (some (ad 6 n))))))))) := by
  subst hn
  exact R.rowSk
theorem nI_inj2 {a b : Nat} (ha : a < 2 ^ 31) (hb : b < 2 ^ 31) (h : nI a = nI b) : a = b := by
  have e := congrArg ix h
  rwa [ix_nI ha, ix_nI hb] at e
theorem NrP.pl {N : Nat → Nat} {F P Q : Nat → Nat → Nat} (hI : Iv N F) (v : Nat) (h : NrP N F P Q) : NrP (va_up N 1 v) (set1 F 2 (N 1) 0) P Q := fun s p hs hp => by
  obtain ⟨a, b⟩ := h s p hs hp
  have e : ∀ m, m < N 6 → goodS (set1 F 2 (N 1) 0) m = goodS F m := fun m hm => by
    have h7 : F 7 m ≠ N 1 := by have := hI.m hm; omega
    unfold goodS
    simp [set1, va_up, h7]
  rw [a, b]
  refine ⟨sumN_cong (fun m hm => ?_), sumN_cong (fun m hm => ?_)⟩
  · show ptC F s p m = ptC (set1 F 2 (N 1) 0) s p m
    unfold ptC
    rw [e m hm]
    rfl
  · show gmC F s p m = gmC (set1 F 2 (N 1) 0) s p m
    unfold gmC
    rw [e m hm]
    rfl
theorem good_at {F F' : Nat → Nat → Nat} {i : Nat} (h2 : F' 2 = F 2) (h7 : F' 7 i = F 7 i) (h10 : F' 10 i = F 10 i) : goodS F' i = goodS F i := by unfold goodS; rw [h2, h7, h10]
theorem NrP.mt {N : Nat → Nat} {F F' P Q : Nat → Nat → Nat} (h : NrP N F P Q) (hn : N 1 ≤ 16 ∧ N 6 ≤ 100 ∧ N 12 ≤ 11 ∧ N 13 ≤ 3 * N 12 ∧ N 0 ≤ 250000) (ho : ∀ i, i ≠ N 6 → F' 7 i = F 7 i ∧ F' 8 i = F 8 i ∧ F' 10 i = F 10 i ∧ F' 11 i = F 11 i) (h2 : F' 2 = F 2) (h7 : F' 7 (N 6) < 16) (h8 : F' 8 (N 6) < 16) (h11 : F' 11 (N 6) < N 12 + 1) : NrP (va_up N 6 (N 6 + 1)) F' (adP F' P (N 6)) (adQ F' Q (N 6)) := by
  have e1 : ∀ s p, s < N 12 + 1 → p < 16 → P s p = pts F' s p (N 6) := fun s p hs hp => by
    rw [(h s p hs hp).1]
    refine sumN_cong (fun m hm => ?_)
    obtain ⟨a, b, c, d⟩ := ho m (by omega)
    unfold ptC
    rw [good_at h2 a c, a, b, d]
  have e2 : ∀ s p, s < N 12 + 1 → p < 16 → Q s p = gms F' s p (N 6) := fun s p hs hp => by
    rw [(h s p hs hp).2]
    refine sumN_cong (fun m hm => ?_)
    obtain ⟨a, b, c, d⟩ := ho m (by omega)
    unfold gmC
    rw [good_at h2 a c, a, b, d]
  exact fun s p hs hp => ⟨adP_step e1 h11 h7 h8 s p hs hp, adQ_step e2 h11 h7 h8 s p hs hp⟩
theorem NrT.mt {N : Nat → Nat} {F F' E E' : Nat → Nat → Nat} {r0 : Nat} (h : NrT N F E) (h0 : va_up N 6 (N 6 + 1) 0 = N 0) (h6 : va_up N 6 (N 6 + 1) 6 = N 6 + 1) (ho : ∀ i, i ≠ N 6 → F' 9 i = F 9 i ∧ F' 10 i = F 10 i) (h9 : F' 9 (N 6) = r0) (h10 : F' 10 (N 6) = N 0) (hE : ∀ r, E' 1 r = if r = r0 then E 1 r0 + 1 else E 1 r) : NrT (va_up N 6 (N 6 + 1)) F' E' := fun r hr => by
  rw [h0, h6, hE r]
  have e : tdy F' (N 0) r (N 6) = tdy F (N 0) r (N 6) := sumN_cong (fun m hm => by
    obtain ⟨a, b⟩ := ho m (by omega)
    unfold tdC
    rw [a, b])
  show _ = sumN _ (N 6) + tdC F' (N 0) r (N 6)
  have e2 : sumN (tdC F' (N 0) r) (N 6) = E 1 r := e.trans (h r hr).symm
  rw [e2]
  unfold tdC
  by_cases hrr : r = r0
  · subst hrr; rw [if_pos rfl, if_pos ⟨h9, h10⟩]
  · rw [if_neg hrr, if_neg (fun z => hrr (z.1.symm.trans h9))]
    rfl
set_option maxHeartbeats 4000000 in
set_option maxRecDepth 100000 in
theorem c_X6_player (l : Launch) (G : mG) (x : Nat) (N : Nat → Nat) (F : Nat → Nat → Nat) (B : Nat → Int32) (M : Mem) (cs : CS G x N F B M)  (hst : l.stackTraces = false) (hI : Iv N F) (hJ : Jv N F B) : xMet l yX6_player cX6_player 2 (some FieldType.int) ({ frames := 6, cells := 1, slots := 6, locals := 82 } : Room) G [.ref x] M (fun r M' => kPlayer N = 0 ∧ r = some (.int (nI (N 1))) ∧ CS G x (va_up N 1 (N 1 + 1)) (set1 F 2 (N 1) 0) (B) M') (fun E9 M' => CS G x N F B M' ∧ ((E9 = EIS ∧ kPlayer N = 1))) := by
  obtain ⟨ad, E, P, Q, rfl, R, hE, hT, hP⟩ := cs
  refine xMet.of (by decide) (Nat.le_of_ble_eq_true rfl) ?_
  intro p e s m args below meth c A ls X hr hlocks hname hM hl hS hZ ht
  have hl : lv_has ls 2 [(0, .ref (ad 0 0))] := hl
  have hn := hI.n
  obtain ⟨⟨e1, e10, e2, e11, e3, e12, e6, e13⟩, x2, x3, x4⟩ := id hE
  refine lv_aload_n X.1 X.2.1 dX6_player_0 rfl (lv_at hl 0 rfl) ?_
  refine mg_get X hM (ci := 7) (k := 5) rfl kwX6 (by decide) kf_X6_47 dX6_player_1 (R.1 0 (0) rfl) (v := .int (nI (N 1))) rfl ?_
  refine lv_aload_n X.1 X.2.1 dX6_player_4 rfl (lv_at hl 0 rfl) ?_
  refine mg_get X hM (ci := 7) (k := 0) rfl kwX6 (by decide) kf_X6_11 dX6_player_5 (R.1 0 (0) rfl) (v := .ref (ad 10 0)) rfl ?_
  refine mg_alen X hM 3 rfl dX6_player_8 (R.1 10 (0) rfl) ?_
  refine b_icmp_lt (tgt := 22) X dX6_player_9 (by decide) (a := ((N 1 : Nat) : Int)) (b := ((16 : Nat) : Int)) (nI_ti (by omega)) (nI_ti (by omega)) (fun c1 => ?_) (fun c1 => ?_)
  · skip
    refine lv_aload_n X.1 X.2.1 dX6_player_22 rfl (lv_at hl 0 rfl) ?_
    refine mg_get X hM (ci := 7) (k := 5) rfl kwX6 (by decide) kf_X6_47 dX6_player_23 (R.1 0 (0) rfl) (v := .int (nI (N 1))) rfl ?_
    refine lv_istore_n (lv' := [(1, .int (nI (N 1))), (0, .ref (ad 0 0))]) X.1 X.2.1 dX6_player_26 rfl hl (by decide) rfl (fun ls hl => ?_)
    refine lv_aload_n X.1 X.2.1 dX6_player_27 rfl (lv_at hl 1 rfl) ?_
    refine mg_get X hM (ci := 7) (k := 0) rfl kwX6 (by decide) kf_X6_11 dX6_player_28 (R.1 0 (0) rfl) (v := .ref (ad 10 0)) rfl ?_
    refine lv_iload_n X.1 X.2.1 dX6_player_31 rfl (lv_at hl 0 rfl) ?_
    refine mg_new X hM (ci := 2) tyX1 tyX1_ok rfl kwX1 kcl_X6_9 kinst_X1 kini_X1 (fs := [.int (0), .int (0), .int (0), .int (0)]) (by decide) dX6_player_32 (Nat.le_of_ble_eq_true rfl) (Nat.le_of_ble_eq_true rfl) (fun a2 H hn3 hM => ?_)
    have hq4 := R.new hn3
    obtain ⟨M, hc5, hM, R⟩ : ∃ M2, M2 a2 = some (.inr (2, [.int (0), .int (0), .int (0), .int (0)])) ∧ mW G A s.heap M2 H [] ∧ RC G ad N F B E P Q M2 := ⟨_, mU_eq _ _ _, hM, R.off hq4 _⟩
    refine lv_dup X.1 X.2.1 dX6_player_35 rfl ?_
    refine lv_iload_n X.1 X.2.1 dX6_player_36 rfl (lv_at hl 0 rfl) ?_
    refine m_callIN X hM ckN_X6_58 ki_X1_init rfl dX6_player_37 (b := a2) (As := [.int (nI (N 1))]) (c_X1_init l G _ a2 (N 1) hc5) rfl hl rfl (Nat.le_of_ble_eq_true rfl) ⟨Nat.le_of_ble_eq_true rfl, Nat.le_of_ble_eq_true rfl⟩ ⟨Nat.le_of_ble_eq_true rfl, Nat.le_of_ble_eq_true rfl⟩ ?_
    rintro _ _ H locs ⟨rfl, rfl⟩ hM
    obtain ⟨M, hc5, hM, R⟩ : ∃ M2, M2 a2 = some (.inr (2, [.int (nI (N 1)), .int (0), .int (nI (0) - 1), .int (0)])) ∧ mW G A s.heap M2 H locs ∧ RC G ad N F B E P Q M2 := ⟨_, mU_eq _ _ _, hM, R.off hq4 _⟩
    obtain ⟨ad, h0, h10, ea, R⟩ : ∃ ad2 : Nat → Nat → Nat, ad 0 = ad2 0 ∧ ad 10 = ad2 10 ∧ a2 = ad2 1 (N 1) ∧ RC G ad2 N (set1 F 2 (N 1) 0) B (set1 E 0 1 (N 1 + 1)) P Q M := ⟨set1 ad 1 (N 1) a2, rfl, rfl, (set1_at _ _ _ _).symm, R.player hI hJ hE hq4 hc5⟩
    have hl : lv_has ls 2 [(1, .int (nI (N 1))), (0, .ref (ad 0 0))] := by rw [h0] at hl; exact hl
    rw [ea, h10]
    have e10a : E 0 10 = N 1 := e10
    refine mx_aast X hM 3 (ci := 2) rfl rfl dX6_player_40 (R.1 10 (0) rfl) (R.1 1 (N 1) (show N 1 < N 1 + 1 by omega)) (i := N 1) (by omega) (by decide) (fun H locs hM => ?_)
    obtain ⟨M, hM, R⟩ : ∃ M2, mW G A s.heap M2 H locs ∧ RC G ad N (set1 F 2 (N 1) (0)) B (set1 (set1 E 0 (1) (N 1 + 1)) 0 (10) (N 1 + 1)) P Q M2 := ⟨_, hM, R.rowPlc (n := N 1) (by first | rfl | exact e10)⟩
    refine lv_aload_n X.1 X.2.1 dX6_player_41 rfl (lv_at hl 1 rfl) ?_
    refine lv_dup X.1 X.2.1 dX6_player_42 rfl ?_
    refine mg_get X hM (ci := 7) (k := 5) rfl kwX6 (by decide) kf_X6_47 dX6_player_43 (R.1 0 (0) rfl) (v := .int (nI (N 1))) (by first | rfl | simp [set1, va_up, upd]) ?_
    refine lv_iconst (v := nI (1)) X.1 X.2.1 dX6_player_46 (by decide) ?_
    refine lv_iadd X.1 X.2.1 dX6_player_47 ?_
    refine lv_top (y := nI (N 1 + 1)) (nI_add _ _) ?_
    refine mg_put X hM tyX6 tyX6_ok nmX6 (ci := 7) (k := 5) rfl kwX6 (by decide) kf_X6_47 rfl dX6_player_48 (R.1 0 (0) rfl) rfl rfl (Nat.le_of_ble_eq_true rfl) (fun H locs hM => ?_)
    obtain ⟨M, hM, R⟩ : ∃ M2, mW G A s.heap M2 H locs ∧ RC G ad (va_up N 1 (N 1 + 1)) (set1 F 2 (N 1) (0)) B (set1 (set1 E 0 (1) (N 1 + 1)) 0 (10) (N 1 + 1)) P Q M2 := ⟨_, hM, R.nPl (N 1 + 1)⟩
    refine lv_iload_n X.1 X.2.1 dX6_player_51 rfl (lv_at hl 0 rfl) ?_
    exact x_iret X hr hlocks hM dX6_player_52 ⟨Nat.le_of_ble_eq_true rfl, Nat.le_of_ble_eq_true rfl⟩ (⟨by unfold kPlayer; rw [if_neg (by omega)], congrArg (fun z => some (Value.int z)) (rfl), by exact ⟨ad, (set1 (set1 E 0 1 (N 1 + 1)) 0 10 (N 1 + 1)), P, Q, (congrFun h0 0).symm, R, ⟨⟨rfl, rfl, e2, e11, e3, e12, e6, e13⟩, x2, x3, x4⟩, NrT.congr rfl rfl hT, NrP.pl hI _ hP⟩⟩)
  · skip
    exact x_throw (cls := EIS) (text := "no more players") X hst hS hZ ht hlocks hM hl (by decide +kernel) (by decide) xh_55 xg_55 dX6_player_12 dX6_player_15 dX6_player_16 dX6_player_18 dX6_player_21 ⟨Nat.le_of_ble_eq_true rfl, Nat.le_of_ble_eq_true rfl⟩ ⟨Nat.le_of_ble_eq_true rfl, Nat.le_of_ble_eq_true rfl⟩ ⟨Nat.le_of_ble_eq_true rfl, Nat.le_of_ble_eq_true rfl⟩ (⟨⟨ad, E, P, Q, rfl, R, hE, hT, hP⟩, ⟨rfl, by unfold kPlayer; rw [if_pos (by omega)]⟩⟩)
set_option maxHeartbeats 4000000 in
set_option maxRecDepth 100000 in
theorem c_X6_match (l : Launch) (G : mG) (x : Nat) (N : Nat → Nat) (F : Nat → Nat → Nat) (B : Nat → Int32) (M : Mem) (cs : CS G x N F B M) (m0 : Int32) (m1 : Int32) (m2 : Int32) (hst : l.stackTraces = false) (hI : Iv N F) : xMet l yX6_match cX6_match 9 (some FieldType.int) ({ frames := 7, cells := 4, slots := 24, locals := 104 } : Room) G [.ref x, .int (m0), .int (m1), .int (m2)] M (fun r M' => kMatch N F m0 m1 m2 = 0 ∧ r = some (.int (nI (N 6))) ∧ CS G x (va_up N 6 (N 6 + 1)) (fMatch N F m0 m1 m2) (B) M') (fun E9 M' => CS G x N F B M' ∧ ((E9 = EIO ∧ kMatch N F m0 m1 m2 = 1) ∨ (E9 = EIA ∧ kMatch N F m0 m1 m2 = 2) ∨ (E9 = EIS ∧ kMatch N F m0 m1 m2 = 3))) := by
  obtain ⟨ad, E, P, Q, rfl, R, hE, hT, hP⟩ := cs
  refine xMet.of (by decide) (Nat.le_of_ble_eq_true rfl) ?_
  intro p e s m args below meth c A ls X hr hlocks hname hM hl hS hZ ht
  have hl : lv_has ls 9 [(0, .ref (ad 0 0)), (1, .int (m0)), (2, .int (m1)), (3, .int (m2))] := hl
  have hn := hI.n
  obtain ⟨⟨e1, e10, e2, e11, e3, e12, e6, e13⟩, x2, x3, x4⟩ := id hE
  refine lv_aload_n X.1 X.2.1 dX6_match_0 rfl (lv_at hl 0 rfl) ?_
  refine lv_iload_n X.1 X.2.1 dX6_match_1 rfl (lv_at hl 1 rfl) ?_
  refine xm_callV X hM hS hZ ck_X6_74 ki_X6_playerAt ks_X6_playerAt (ci := 7) rfl dX6_match_2 (As := [.int (m0)]) (c_X6_playerAt l G ad N F B E P Q _ R m0 hst (show E 0 10 ≤ 16 by omega)) (R.1 0 (0) rfl) rfl hl rfl (Nat.le_of_ble_eq_true rfl) ⟨Nat.le_of_ble_eq_true rfl, Nat.le_of_ble_eq_true rfl⟩ ⟨Nat.le_of_ble_eq_true rfl, Nat.le_of_ble_eq_true rfl⟩ (fun E9 ce q9 M1 H1 locs1 hp hM1 h1 h2 h3 => x_out ht hlocks hM1 h1 h2 h3 ⟨Nat.le_of_ble_eq_true rfl, Nat.le_of_ble_eq_true rfl⟩ (by obtain ⟨rfl, h9, rfl⟩ := hp; exact ⟨⟨ad, E, P, Q, rfl, R, hE, hT, hP⟩, Or.inl ⟨rfl, by unfold kMatch; rw [if_pos (by rw [← e10, h9]; rfl)]⟩⟩)) ?_
  rintro _ _ H locs ⟨rfl, h9, rfl⟩ hM
  obtain ⟨jm0, hjm0, rfl⟩ := iR_t h9 (by omega)
  refine lv_topv (y := .ref (ad 1 (jm0))) (by rw [ix_nI (by omega)]) ?_
  have hjm0 : jm0 < N 1 := by omega
  have pq1 := hI.p jm0
  refine lv_astore (lv' := [(4, .ref (ad 1 (jm0))), (0, .ref (ad 0 0)), (1, .int (nI (jm0))), (2, .int (m1)), (3, .int (m2))]) X.1 X.2.1 dX6_match_5 hl (by decide) rfl (fun ls hl => ?_)
  refine lv_aload_n X.1 X.2.1 dX6_match_7 rfl (lv_at hl 1 rfl) ?_
  refine lv_iload_n X.1 X.2.1 dX6_match_8 rfl (lv_at hl 3 rfl) ?_
  refine xm_callV X hM hS hZ ck_X6_74 ki_X6_playerAt ks_X6_playerAt (ci := 7) rfl dX6_match_9 (As := [.int (m1)]) (c_X6_playerAt l G ad N F B E P Q _ R m1 hst (show E 0 10 ≤ 16 by omega)) (R.1 0 (0) rfl) rfl hl rfl (Nat.le_of_ble_eq_true rfl) ⟨Nat.le_of_ble_eq_true rfl, Nat.le_of_ble_eq_true rfl⟩ ⟨Nat.le_of_ble_eq_true rfl, Nat.le_of_ble_eq_true rfl⟩ (fun E9 ce q9 M1 H1 locs1 hp hM1 h1 h2 h3 => x_out ht hlocks hM1 h1 h2 h3 ⟨Nat.le_of_ble_eq_true rfl, Nat.le_of_ble_eq_true rfl⟩ (by obtain ⟨rfl, h9, rfl⟩ := hp; exact ⟨⟨ad, E, P, Q, rfl, R, hE, hT, hP⟩, Or.inl ⟨rfl, by unfold kMatch; rw [if_pos (by rw [iR_lt (show jm0 < N 1 by omega) (by omega), ← e10, h9]; rfl)]⟩⟩)) ?_
  rintro _ _ H locs ⟨rfl, h9, rfl⟩ hM
  obtain ⟨jm1, hjm1, rfl⟩ := iR_t h9 (by omega)
  refine lv_topv (y := .ref (ad 1 (jm1))) (by rw [ix_nI (by omega)]) ?_
  have hjm1 : jm1 < N 1 := by omega
  have pq2 := hI.p jm1
  refine lv_astore (lv' := [(5, .ref (ad 1 (jm1))), (4, .ref (ad 1 (jm0))), (0, .ref (ad 0 0)), (1, .int (nI (jm0))), (2, .int (nI (jm1))), (3, .int (m2))]) X.1 X.2.1 dX6_match_12 hl (by decide) rfl (fun ls hl => ?_)
  refine lv_aload_n X.1 X.2.1 dX6_match_14 rfl (lv_at hl 2 rfl) ?_
  refine lv_iload_n X.1 X.2.1 dX6_match_15 rfl (lv_at hl 5 rfl) ?_
  refine xm_callV X hM hS hZ ck_X6_59 ki_X6_regionAt ks_X6_regionAt (ci := 7) rfl dX6_match_16 (As := [.int (m2)]) (c_X6_regionAt l G ad N F B E P Q _ R m2 hst) (R.1 0 (0) rfl) rfl hl rfl (Nat.le_of_ble_eq_true rfl) ⟨Nat.le_of_ble_eq_true rfl, Nat.le_of_ble_eq_true rfl⟩ ⟨Nat.le_of_ble_eq_true rfl, Nat.le_of_ble_eq_true rfl⟩ (fun E9 ce q9 M1 H1 locs1 hp hM1 h1 h2 h3 => x_out ht hlocks hM1 h1 h2 h3 ⟨Nat.le_of_ble_eq_true rfl, Nat.le_of_ble_eq_true rfl⟩ (by obtain ⟨rfl, h9, rfl⟩ := hp; exact ⟨⟨ad, E, P, Q, rfl, R, hE, hT, hP⟩, Or.inl ⟨rfl, by unfold kMatch; rw [if_pos (by rw [iR_lt (show jm0 < N 1 by omega) (by omega), iR_lt (show jm1 < N 1 by omega) (by omega), h9]; rfl)]⟩⟩)) ?_
  rintro _ _ H locs ⟨rfl, h9, rfl⟩ hM
  obtain ⟨jm2, hjm2, rfl⟩ := iR_t h9 (by omega)
  refine lv_topv (y := .ref (ad 9 (jm2))) (by rw [ix_nI (by omega)]) ?_
  have pq3 := hI.r jm2
  have r8 := hT jm2 (by omega)
  have r9 := tdy_le F (N 0) jm2 (N 6)
  refine lv_astore (lv' := [(6, .ref (ad 9 (jm2))), (5, .ref (ad 1 (jm1))), (4, .ref (ad 1 (jm0))), (0, .ref (ad 0 0)), (1, .int (nI (jm0))), (2, .int (nI (jm1))), (3, .int (nI (jm2)))]) X.1 X.2.1 dX6_match_19 hl (by decide) rfl (fun ls hl => ?_)
  refine lv_iload_n X.1 X.2.1 dX6_match_21 rfl (lv_at hl 4 rfl) ?_
  refine lv_iload_n X.1 X.2.1 dX6_match_22 rfl (lv_at hl 5 rfl) ?_
  refine b_icmp_ne (tgt := 36) X dX6_match_23 (by decide) (a := ((jm0 : Nat) : Int)) (b := ((jm1 : Nat) : Int)) (nI_ti (by omega)) (nI_ti (by omega)) (fun c4 => ?_) (fun c4 => ?_)
  · skip
    refine lv_aload_n X.1 X.2.1 dX6_match_36 rfl (lv_at hl 3 rfl) ?_
    refine mg_get X hM (ci := 7) (k := 6) rfl kwX6 (by decide) kf_X6_80 dX6_match_37 (R.1 0 (0) rfl) (v := .int (nI (N 6))) rfl ?_
    refine lv_aload_n X.1 X.2.1 dX6_match_40 rfl (lv_at hl 3 rfl) ?_
    refine mg_get X hM (ci := 7) (k := 1) rfl kwX6 (by decide) kf_X6_17 dX6_match_41 (R.1 0 (0) rfl) (v := .ref (ad 11 0)) rfl ?_
    refine mg_alen X hM 4 rfl dX6_match_44 (R.1 11 (0) rfl) ?_
    refine b_icmp_ge (tgt := 56) X dX6_match_45 (by decide) (a := ((N 6 : Nat) : Int)) (b := ((100 : Nat) : Int)) (nI_ti (by omega)) (nI_ti (by omega)) (fun c5 => ?_) (fun c5 => ?_)
    · skip
      exact x_throw (cls := EIS) (text := "no room for the match") X hst hS hZ ht hlocks hM hl (by decide +kernel) (by decide) xh_55 xg_55 dX6_match_56 dX6_match_59 dX6_match_60 dX6_match_62 dX6_match_65 ⟨Nat.le_of_ble_eq_true rfl, Nat.le_of_ble_eq_true rfl⟩ ⟨Nat.le_of_ble_eq_true rfl, Nat.le_of_ble_eq_true rfl⟩ ⟨Nat.le_of_ble_eq_true rfl, Nat.le_of_ble_eq_true rfl⟩ (⟨⟨ad, E, P, Q, rfl, R, hE, hT, hP⟩, Or.inr (Or.inr ⟨rfl, by unfold kMatch; rw [if_neg (by rw [iR_lt (show jm0 < N 1 by omega) (by omega), iR_lt (show jm1 < N 1 by omega) (by omega), iR_lt (show jm2 < 4 by omega) (by omega)]; decide), if_neg (fun y => absurd (nI_inj2 (by omega) (by omega) y) (by omega)), ix_nI (by omega), ix_nI (by omega), ix_nI (by omega), if_neg (fun y => by have y2 := of_decide_eq_true y; omega)]⟩)⟩)
    · skip
      refine lv_aload X.1 X.2.1 dX6_match_48 (lv_at hl 0 rfl) ?_
      have r7 := hT jm2 (by omega)
      refine m_callVN X hM ckN_X6_83 ki_X2_isFull ks_X2_isFull (ci := 3) rfl dX6_match_50 (As := []) (c_X2_isFull l G ad N F B E P Q _ R jm2 (by omega) (by omega) (by omega)) (R.1 9 (jm2) (show jm2 < 4 by omega)) rfl hl rfl (Nat.le_of_ble_eq_true rfl) ⟨Nat.le_of_ble_eq_true rfl, Nat.le_of_ble_eq_true rfl⟩ ⟨Nat.le_of_ble_eq_true rfl, Nat.le_of_ble_eq_true rfl⟩ ?_
      rintro _ _ H locs ⟨rfl, rfl⟩ hM
      refine b_bool_eq (tgt := 66) X dX6_match_53 (by decide) (fun c6 => ?_) (fun c6 => ?_)
      · skip
        have c6 := of_decide_eq_false c6
        refine lv_aload X.1 X.2.1 dX6_match_66 (lv_at hl 2 rfl) ?_
        refine lv_aload_n X.1 X.2.1 dX6_match_68 rfl (lv_at hl 3 rfl) ?_
        refine mg_get X hM (ci := 7) (k := 8) rfl kwX6 (by decide) kf_X6_89 dX6_match_69 (R.1 0 (0) rfl) (v := .int (nI (N 0))) rfl ?_
        refine m_callVN X hM ckN_X6_92 ki_X1_isBanned ks_X1_isBanned (ci := 2) rfl dX6_match_72 (As := [.int (nI (N 0))]) (c_X1_isBanned l G ad N F B E P Q _ R jm0 (N 0) (show _ < E 0 1 by omega) (by omega) (by omega)) (R.1 1 (jm0) (show jm0 < E 0 1 by omega)) rfl hl rfl (Nat.le_of_ble_eq_true rfl) ⟨Nat.le_of_ble_eq_true rfl, Nat.le_of_ble_eq_true rfl⟩ ⟨Nat.le_of_ble_eq_true rfl, Nat.le_of_ble_eq_true rfl⟩ ?_
        rintro _ _ H locs ⟨rfl, rfl⟩ hM
        refine b_bool_ne (tgt := 90) X dX6_match_75 (by decide) (fun c7 => ?_) (fun c7 => ?_)
        · skip
          have c7 := of_decide_eq_true c7
          exact x_throw (cls := EIS) (text := "a player is banned") X hst hS hZ ht hlocks hM hl (by decide +kernel) (by decide) xh_55 xg_55 dX6_match_90 dX6_match_93 dX6_match_94 dX6_match_96 dX6_match_99 ⟨Nat.le_of_ble_eq_true rfl, Nat.le_of_ble_eq_true rfl⟩ ⟨Nat.le_of_ble_eq_true rfl, Nat.le_of_ble_eq_true rfl⟩ ⟨Nat.le_of_ble_eq_true rfl, Nat.le_of_ble_eq_true rfl⟩ (⟨⟨ad, E, P, Q, rfl, R, hE, hT, hP⟩, Or.inr (Or.inr ⟨rfl, by unfold kMatch; rw [if_neg (by rw [iR_lt (show jm0 < N 1 by omega) (by omega), iR_lt (show jm1 < N 1 by omega) (by omega), iR_lt (show jm2 < 4 by omega) (by omega)]; decide), if_neg (fun y => absurd (nI_inj2 (by omega) (by omega) y) (by omega)), ix_nI (by omega), ix_nI (by omega), ix_nI (by omega), if_neg (fun y => by have y2 := of_decide_eq_true y; omega)]⟩)⟩)
        · skip
          have c7 := of_decide_eq_false c7
          refine lv_aload X.1 X.2.1 dX6_match_78 (lv_at hl 1 rfl) ?_
          refine lv_aload_n X.1 X.2.1 dX6_match_80 rfl (lv_at hl 3 rfl) ?_
          refine mg_get X hM (ci := 7) (k := 8) rfl kwX6 (by decide) kf_X6_89 dX6_match_81 (R.1 0 (0) rfl) (v := .int (nI (N 0))) rfl ?_
          refine m_callVN X hM ckN_X6_92 ki_X1_isBanned ks_X1_isBanned (ci := 2) rfl dX6_match_84 (As := [.int (nI (N 0))]) (c_X1_isBanned l G ad N F B E P Q _ R jm1 (N 0) (show _ < E 0 1 by omega) (by omega) (by omega)) (R.1 1 (jm1) (show jm1 < E 0 1 by omega)) rfl hl rfl (Nat.le_of_ble_eq_true rfl) ⟨Nat.le_of_ble_eq_true rfl, Nat.le_of_ble_eq_true rfl⟩ ⟨Nat.le_of_ble_eq_true rfl, Nat.le_of_ble_eq_true rfl⟩ ?_
          rintro _ _ H locs ⟨rfl, rfl⟩ hM
          refine b_bool_eq (tgt := 100) X dX6_match_87 (by decide) (fun c8 => ?_) (fun c8 => ?_)
          · skip
            have c8 := of_decide_eq_false c8
            refine lv_aload_n X.1 X.2.1 dX6_match_100 rfl (lv_at hl 3 rfl) ?_
            refine mg_get X hM (ci := 7) (k := 6) rfl kwX6 (by decide) kf_X6_80 dX6_match_101 (R.1 0 (0) rfl) (v := .int (nI (N 6))) rfl ?_
            refine lv_istore (lv' := [(7, .int (nI (N 6))), (6, .ref (ad 9 (jm2))), (5, .ref (ad 1 (jm1))), (4, .ref (ad 1 (jm0))), (0, .ref (ad 0 0)), (1, .int (nI (jm0))), (2, .int (nI (jm1))), (3, .int (nI (jm2)))]) X.1 X.2.1 dX6_match_104 hl (by decide) rfl (fun ls hl => ?_)
            refine mg_new X hM (ci := 1) tyX0 tyX0_ok rfl kwX0 kcl_X6_15 kinst_X0 kini_X0 (fs := [.null, .null, .null, .int (0)]) (by decide) dX6_match_106 (Nat.le_of_ble_eq_true rfl) (Nat.le_of_ble_eq_true rfl) (fun a9 H hn10 hM => ?_)
            have hq11 := R.new hn10
            obtain ⟨M, hc12, hM, R⟩ : ∃ M2, M2 a9 = some (.inr (1, [.null, .null, .null, .int (0)])) ∧ mW G A s.heap M2 H locs ∧ RC G ad N F B E P Q M2 := ⟨_, mU_eq _ _ _, hM, R.off hq11 _⟩
            refine lv_dup X.1 X.2.1 dX6_match_109 rfl ?_
            refine lv_aload X.1 X.2.1 dX6_match_110 (lv_at hl 3 rfl) ?_
            refine lv_aload X.1 X.2.1 dX6_match_112 (lv_at hl 2 rfl) ?_
            refine lv_aload_n X.1 X.2.1 dX6_match_114 rfl (lv_at hl 4 rfl) ?_
            refine mg_get X hM (ci := 7) (k := 9) rfl kwX6 (by decide) kf_X6_43 dX6_match_115 (R.1 0 (0) rfl) (v := .ref (ad 3 (N 12))) rfl ?_
            refine lv_aload_n X.1 X.2.1 dX6_match_118 rfl (lv_at hl 4 rfl) ?_
            refine mg_get X hM (ci := 7) (k := 8) rfl kwX6 (by decide) kf_X6_89 dX6_match_119 (R.1 0 (0) rfl) (v := .int (nI (N 0))) rfl ?_
            refine m_callIN X hM ckN_X6_98 ki_X0_init rfl dX6_match_122 (b := a9) (As := [.ref (ad 1 (jm0)), .ref (ad 1 (jm1)), .ref (ad 3 (N 12)), .int (nI (N 0))]) (c_X0_init l G _ a9 (ad 1 (jm0)) (ad 1 (jm1)) (ad 3 (N 12)) (N 0) hc12) rfl hl rfl (Nat.le_of_ble_eq_true rfl) ⟨Nat.le_of_ble_eq_true rfl, Nat.le_of_ble_eq_true rfl⟩ ⟨Nat.le_of_ble_eq_true rfl, Nat.le_of_ble_eq_true rfl⟩ ?_
            rintro _ _ H locs ⟨rfl, rfl⟩ hM
            obtain ⟨M, hc12, hM, R⟩ : ∃ M2, M2 a9 = some (.inr (1, [.ref (ad 1 (jm0)), .ref (ad 1 (jm1)), .ref (ad 3 (N 12)), .int (nI (N 0))])) ∧ mW G A s.heap M2 H locs ∧ RC G ad N F B E P Q M2 := ⟨_, mU_eq _ _ _, hM, R.off hq11 _⟩
            refine lv_astore (lv' := [(8, .ref a9), (7, .int (nI (N 6))), (6, .ref (ad 9 (jm2))), (5, .ref (ad 1 (jm1))), (4, .ref (ad 1 (jm0))), (0, .ref (ad 0 0)), (1, .int (nI (jm0))), (2, .int (nI (jm1))), (3, .int (nI (jm2)))]) X.1 X.2.1 dX6_match_125 hl (by decide) rfl (fun ls hl => ?_)
            obtain ⟨ad, h0, h1, h9, ea, R⟩ : ∃ ad2 : Nat → Nat → Nat, ad 0 = ad2 0 ∧ ad 1 = ad2 1 ∧ ad 9 = ad2 9 ∧ a9 = ad2 2 (N 6) ∧ RC G ad2 N (set1 (set1 (set1 (set1 (set1 F 7 (N 6) (jm0)) 8 (N 6) (jm1)) 9 (N 6) (jm2)) 10 (N 6) (N 0)) 11 (N 6) (N 12)) B (set1 E 0 2 (N 6 + 1)) P Q M := ⟨set1 ad 2 (N 6) a9, rfl, rfl, rfl, (set1_at _ _ _ _).symm, R.match (a := jm0) (b := jm1) (s := N 12) (d := N 0) hE (fun k h7 h8 h9 h10 h11 => by simp [set1, va_up, h7, h8, h9, h10, h11]) ⟨by simp [set1, va_up], by simp [set1, va_up], by simp [set1, va_up], by simp [set1, va_up]⟩ (fun i hi => ⟨by simp [set1, va_up, hi], by simp [set1, va_up, hi], by simp [set1, va_up, hi], by simp [set1, va_up, hi]⟩) hq11 hc12⟩
            have hl : lv_has ls 9 [(8, .ref (ad 2 (N 6))), (7, .int (nI (N 6))), (6, .ref (ad 9 (jm2))), (5, .ref (ad 1 (jm1))), (4, .ref (ad 1 (jm0))), (0, .ref (ad 0 0)), (1, .int (nI (jm0))), (2, .int (nI (jm1))), (3, .int (nI (jm2)))] := by rw [h0, h1, h9, ea] at hl; exact hl
            refine lv_aload_n X.1 X.2.1 dX6_match_127 rfl (lv_at hl 5 rfl) ?_
            refine mg_get X hM (ci := 7) (k := 1) rfl kwX6 (by decide) kf_X6_17 dX6_match_128 (R.1 0 (0) rfl) (v := .ref (ad 11 0)) (by first | rfl | simp [set1, va_up, upd]) ?_
            refine lv_iload X.1 X.2.1 dX6_match_131 (lv_at hl 1 rfl) ?_
            refine lv_aload X.1 X.2.1 dX6_match_133 (lv_at hl 0 rfl) ?_
            refine mx_aast X hM 4 (ci := 1) rfl rfl dX6_match_135 (R.1 11 (0) rfl) (R.1 2 (N 6) (show N 6 < N 6 + 1 by omega)) (i := N 6) (by omega) (by decide) (fun H locs hM => ?_)
            obtain ⟨M, hM, R⟩ : ∃ M2, mW G A s.heap M2 H locs ∧ RC G ad N (set1 (set1 (set1 (set1 (set1 F 7 (N 6) (jm0)) 8 (N 6) (jm1)) 9 (N 6) (jm2)) 10 (N 6) (N 0)) 11 (N 6) (N 12)) B (set1 (set1 E 0 (2) (N 6 + 1)) 0 (11) (N 6 + 1)) P Q M2 := ⟨_, hM, R.rowMac (n := N 6) (by first | rfl | exact e11)⟩
            refine lv_aload_n X.1 X.2.1 dX6_match_136 rfl (lv_at hl 5 rfl) ?_
            refine lv_dup X.1 X.2.1 dX6_match_137 rfl ?_
            refine mg_get X hM (ci := 7) (k := 6) rfl kwX6 (by decide) kf_X6_80 dX6_match_138 (R.1 0 (0) rfl) (v := .int (nI (N 6))) (by first | rfl | simp [set1, va_up, upd]) ?_
            refine lv_iconst (v := nI (1)) X.1 X.2.1 dX6_match_141 (by decide) ?_
            refine lv_iadd X.1 X.2.1 dX6_match_142 ?_
            refine lv_top (y := nI (N 6 + 1)) (nI_add _ _) ?_
            refine mg_put X hM tyX6 tyX6_ok nmX6 (ci := 7) (k := 6) rfl kwX6 (by decide) kf_X6_80 rfl dX6_match_143 (R.1 0 (0) rfl) rfl rfl (Nat.le_of_ble_eq_true rfl) (fun H locs hM => ?_)
            obtain ⟨M, hM, R⟩ : ∃ M2, mW G A s.heap M2 H locs ∧ RC G ad (va_up N 6 (N 6 + 1)) (set1 (set1 (set1 (set1 (set1 F 7 (N 6) (jm0)) 8 (N 6) (jm1)) 9 (N 6) (jm2)) 10 (N 6) (N 0)) 11 (N 6) (N 12)) B (set1 (set1 E 0 (2) (N 6 + 1)) 0 (11) (N 6 + 1)) P Q M2 := ⟨_, hM, R.nMa (N 6 + 1)⟩
            refine lv_aload X.1 X.2.1 dX6_match_146 (lv_at hl 2 rfl) ?_
            refine lv_dup X.1 X.2.1 dX6_match_148 rfl ?_
            refine mg_getN X hM (ci := 3) (k := 1) rfl kwX2 (by decide) kn_X6_71 dX6_match_149 (R.1 9 (jm2) (show jm2 < 4 by omega)) (v := .int (nI (E 1 (jm2)))) (by first | rfl | simp [set1, va_up, upd]) ?_
            refine lv_iconst (v := nI (1)) X.1 X.2.1 dX6_match_152 (by decide) ?_
            refine lv_iadd X.1 X.2.1 dX6_match_153 ?_
            refine lv_top (y := nI (E 1 (jm2) + 1)) (nI_add _ _) ?_
            refine mg_putN X hM tyX2 tyX2_ok nmX2 (ci := 3) (k := 1) rfl kwX2 (by decide) kn_X6_71 rfl dX6_match_154 (R.1 9 (jm2) (show jm2 < 4 by omega)) rfl rfl (Nat.le_of_ble_eq_true rfl) (fun H locs hM => ?_)
            obtain ⟨M, hM, R⟩ : ∃ M2, mW G A s.heap M2 H locs ∧ RC G ad (va_up N 6 (N 6 + 1)) (set1 (set1 (set1 (set1 (set1 F 7 (N 6) (jm0)) 8 (N 6) (jm1)) 9 (N 6) (jm2)) 10 (N 6) (N 0)) 11 (N 6) (N 12)) B (set1 (set1 (set1 E 0 (2) (N 6 + 1)) 0 (11) (N 6 + 1)) 1 (jm2) (E 1 (jm2) + 1)) P Q M2 := ⟨_, hM, R.today (show jm2 < 4 by omega) (E 1 (jm2) + 1)⟩
            refine lv_aload X.1 X.2.1 dX6_match_157 (lv_at hl 0 rfl) ?_
            have g7 : (set1 (set1 (set1 (set1 (set1 F 7 (N 6) (jm0)) 8 (N 6) (jm1)) 9 (N 6) (jm2)) 10 (N 6) (N 0)) 11 (N 6) (N 12)) 7 (N 6) = jm0 := (by simp [set1, va_up])
            have g8 : (set1 (set1 (set1 (set1 (set1 F 7 (N 6) (jm0)) 8 (N 6) (jm1)) 9 (N 6) (jm2)) 10 (N 6) (N 0)) 11 (N 6) (N 12)) 8 (N 6) = jm1 := (by simp [set1, va_up])
            have g10 : (set1 (set1 (set1 (set1 (set1 F 7 (N 6) (jm0)) 8 (N 6) (jm1)) 9 (N 6) (jm2)) 10 (N 6) (N 0)) 11 (N 6) (N 12)) 10 (N 6) = N 0 := (by simp [set1, va_up])
            have g11 : (set1 (set1 (set1 (set1 (set1 F 7 (N 6) (jm0)) 8 (N 6) (jm1)) 9 (N 6) (jm2)) 10 (N 6) (N 0)) 11 (N 6) (N 12)) 11 (N 6) = N 12 := (by simp [set1, va_up])
            refine m_callVN X hM ckN_X6_101 ki_X0_addPoints ks_X0_addPoints (ci := 1) rfl dX6_match_159 (As := []) (c_X0_addPoints l G ad (va_up N 6 (N 6 + 1)) (set1 (set1 (set1 (set1 (set1 F 7 (N 6) (jm0)) 8 (N 6) (jm1)) 9 (N 6) (jm2)) 10 (N 6) (N 0)) 11 (N 6) (N 12)) B (set1 (set1 (set1 E 0 (2) (N 6 + 1)) 0 (11) (N 6 + 1)) 1 (jm2) (E 1 (jm2) + 1)) P Q _ R (N 6) (by show N 6 < N 6 + 1; omega) (by rw [g7]; exact (show jm0 < E 0 1 by omega)) (by rw [g10]; omega) (by rw [g7]; exact (show F 2 jm0 < _ by omega)) (by rw [g8]; exact ⟨show jm1 < E 0 1 by omega, show E 0 1 ≤ 16 by omega⟩) (by rw [g11]; exact (show N 12 < E 0 3 by omega))) (R.1 2 (N 6) (show N 6 < N 6 + 1 by omega)) rfl hl rfl (Nat.le_of_ble_eq_true rfl) ⟨Nat.le_of_ble_eq_true rfl, Nat.le_of_ble_eq_true rfl⟩ ⟨Nat.le_of_ble_eq_true rfl, Nat.le_of_ble_eq_true rfl⟩ ?_
            rintro _ M H locs ⟨rfl, R⟩ hM
            refine lv_iload X.1 X.2.1 dX6_match_162 (lv_at hl 1 rfl) ?_
            exact x_iret X hr hlocks hM dX6_match_164 ⟨Nat.le_of_ble_eq_true rfl, Nat.le_of_ble_eq_true rfl⟩ (⟨by unfold kMatch; rw [if_neg (by rw [iR_lt (show jm0 < N 1 by omega) (by omega), iR_lt (show jm1 < N 1 by omega) (by omega), iR_lt (show jm2 < 4 by omega) (by omega)]; decide), if_neg (fun y => absurd (nI_inj2 (by omega) (by omega) y) (by omega)), ix_nI (by omega), ix_nI (by omega), ix_nI (by omega), if_pos (show cMatch N F jm0 jm1 jm2 = true from decide_eq_true (by omega))], congrArg (fun z => some (Value.int z)) (rfl), by unfold fMatch; rw [ix_nI (by omega), ix_nI (by omega), ix_nI (by omega)]; exact ⟨ad, (set1 (set1 (set1 E 0 (2) (N 6 + 1)) 0 (11) (N 6 + 1)) 1 (jm2) (E 1 (jm2) + 1)), (adP (set1 (set1 (set1 (set1 (set1 F 7 (N 6) (jm0)) 8 (N 6) (jm1)) 9 (N 6) (jm2)) 10 (N 6) (N 0)) 11 (N 6) (N 12)) P (N 6)), (adQ (set1 (set1 (set1 (set1 (set1 F 7 (N 6) (jm0)) 8 (N 6) (jm1)) 9 (N 6) (jm2)) 10 (N 6) (N 0)) 11 (N 6) (N 12)) Q (N 6)), (congrFun h0 0).symm, R, ⟨⟨e1, e10, rfl, rfl, e3, e12, e6, e13⟩, x2, x3, x4⟩, NrT.mt (r0 := jm2) hT rfl rfl (fun i hi => ⟨by simp [set1, va_up, hi], by simp [set1, va_up, hi]⟩) (by simp [set1, va_up]) (by simp [set1, va_up]) (by intro r; by_cases hr : r = jm2 <;> simp [set1, va_up, hr]), NrP.mt hP hn (fun i hi => ⟨by simp [set1, va_up, hi], by simp [set1, va_up, hi], by simp [set1, va_up, hi], by simp [set1, va_up, hi]⟩) rfl (by rw [g7]; omega) (by rw [g8]; omega) (by rw [g11]; omega)⟩⟩)
          · skip
            have c8 := of_decide_eq_true c8
            exact x_throw (cls := EIS) (text := "a player is banned") X hst hS hZ ht hlocks hM hl (by decide +kernel) (by decide) xh_55 xg_55 dX6_match_90 dX6_match_93 dX6_match_94 dX6_match_96 dX6_match_99 ⟨Nat.le_of_ble_eq_true rfl, Nat.le_of_ble_eq_true rfl⟩ ⟨Nat.le_of_ble_eq_true rfl, Nat.le_of_ble_eq_true rfl⟩ ⟨Nat.le_of_ble_eq_true rfl, Nat.le_of_ble_eq_true rfl⟩ (⟨⟨ad, E, P, Q, rfl, R, hE, hT, hP⟩, Or.inr (Or.inr ⟨rfl, by unfold kMatch; rw [if_neg (by rw [iR_lt (show jm0 < N 1 by omega) (by omega), iR_lt (show jm1 < N 1 by omega) (by omega), iR_lt (show jm2 < 4 by omega) (by omega)]; decide), if_neg (fun y => absurd (nI_inj2 (by omega) (by omega) y) (by omega)), ix_nI (by omega), ix_nI (by omega), ix_nI (by omega), if_neg (fun y => by have y2 := of_decide_eq_true y; omega)]⟩)⟩)
      · skip
        have c6 := of_decide_eq_true c6
        exact x_throw (cls := EIS) (text := "no room for the match") X hst hS hZ ht hlocks hM hl (by decide +kernel) (by decide) xh_55 xg_55 dX6_match_56 dX6_match_59 dX6_match_60 dX6_match_62 dX6_match_65 ⟨Nat.le_of_ble_eq_true rfl, Nat.le_of_ble_eq_true rfl⟩ ⟨Nat.le_of_ble_eq_true rfl, Nat.le_of_ble_eq_true rfl⟩ ⟨Nat.le_of_ble_eq_true rfl, Nat.le_of_ble_eq_true rfl⟩ (⟨⟨ad, E, P, Q, rfl, R, hE, hT, hP⟩, Or.inr (Or.inr ⟨rfl, by unfold kMatch; rw [if_neg (by rw [iR_lt (show jm0 < N 1 by omega) (by omega), iR_lt (show jm1 < N 1 by omega) (by omega), iR_lt (show jm2 < 4 by omega) (by omega)]; decide), if_neg (fun y => absurd (nI_inj2 (by omega) (by omega) y) (by omega)), ix_nI (by omega), ix_nI (by omega), ix_nI (by omega), if_neg (fun y => by have y2 := of_decide_eq_true y; omega)]⟩)⟩)
  · skip
    exact x_throw (cls := EIA) (text := "winner and loser are the same") X hst hS hZ ht hlocks hM hl (by decide +kernel) (by decide) xh_67 xg_67 dX6_match_26 dX6_match_29 dX6_match_30 dX6_match_32 dX6_match_35 ⟨Nat.le_of_ble_eq_true rfl, Nat.le_of_ble_eq_true rfl⟩ ⟨Nat.le_of_ble_eq_true rfl, Nat.le_of_ble_eq_true rfl⟩ ⟨Nat.le_of_ble_eq_true rfl, Nat.le_of_ble_eq_true rfl⟩ (⟨⟨ad, E, P, Q, rfl, R, hE, hT, hP⟩, Or.inr (Or.inl ⟨rfl, by unfold kMatch; rw [if_neg (by rw [iR_lt (show jm0 < N 1 by omega) (by omega), iR_lt (show jm1 < N 1 by omega) (by omega), iR_lt (show jm2 < 4 by omega) (by omega)]; decide), if_pos (congrArg nI (show jm0 = jm1 by omega))]⟩)⟩)
