/-! The law's wrappers: the class's call, its answer or its exception's number -/
def mO (G : mG) (o : Nat) (f : Nat → Int64) : Mem := fun q => if q = o then some (.inl (G.2 1, 1, .inr (.inl f))) else none
theorem mO_at {G : mG} {o : Nat} {f : Nat → Int64} : mO G o f o = some (.inl (G.2 1, 1, .inr (.inl f))) := by simp [mO]
theorem mO_dj {G : mG} {o : Nat} {f : Nat → Int64} {M : Mem} (h : M o = none) : mDj M (mO G o f) := fun q e hq => by
  unfold mO
  split
  · rename_i hqo; subst hqo; rw [h] at hq; cases hq
  · rfl
theorem mO_put {G : mG} {o : Nat} {f g : Nat → Int64} {M : Mem} (h : M o = none) : mU (mJ M (mO G o f)) o (.inl (G.2 1, 1, .inr (.inl g))) = mJ M (mO G o g) := by
  funext q
  by_cases hq : q = o
  · subst hq
    rw [mU_eq, mJ_n h, mO_at]
  · rw [mU_ne hq]
    cases h0 : M q with
    | some e => rw [mJ_l h0, mJ_l h0]
    | none => rw [mJ_n h0, mJ_n h0]; simp [mO, hq]
theorem mO_val (f : Nat → Int64) (v : Int64) : vp_updL f (nI 0).toNatClampNeg v 0 = v := by rw [nI_clamp (by decide)]; simp [vp_updL]
theorem CS.cell {G : mG} {x : Nat} {N : Nat → Nat} {F : Nat → Nat → Nat} {B : Nat → Int32} {M : Mem} (h : CS G x N F B M) : ∃ fs : List Value, M x = some (.inr (7, fs)) := by
  obtain ⟨ad, E, P, Q, hx, R, -⟩ := h
  exact ⟨_, by rw [← hx]; exact R.1 0 0 rfl⟩
/-- behind a wrapper: its answer k; the class's state, the answer in the row -/
def WPo (G : mG) (x o k : Nat) (v : Int64) (N1 : Nat → Nat) (F1 : Nat → Nat → Nat) (B1 : Nat → Int32) (N : Nat → Nat) (F : Nat → Nat → Nat) (B : Nat → Int32) : Option Value → Mem → Prop := fun r M' =>
  r = some (.int (nI k)) ∧ ∃ (MC : Mem) (g : Nat → Int64), M' = mJ MC (mO G o g) ∧ MC o = none ∧ (k = 0 → CS G x N1 F1 B1 MC ∧ g 0 = v) ∧ (k ≠ 0 → CS G x N F B MC)
set_option maxHeartbeats 4000000 in
set_option maxRecDepth 100000 in
theorem c_L_player (l : Launch) (G : mG) (x o : Nat) (N : Nat → Nat) (F : Nat → Nat → Nat) (B : Nat → Int32) (MC : Mem) (cs : CS G x N F B MC) (ho : MC o = none) (f : Nat → Int64) (hst : l.stackTraces = false) (hI : Iv N F) (hJ : Jv N F B) : lMet l yL_player cL_player 3 (some FieldType.int) hh_L_player ({ frames := 7, cells := 1, slots := 6, locals := 103 } : Room) G [.ref x, .ref o] (mJ MC (mO G o f)) (WPo G x o (kPlayer N) (nI (N 1)).toInt64 (va_up N 1 (N 1 + 1)) (set1 F 2 (N 1) 0) (B) N F B) := by
  refine lMet.of (by decide) (Nat.le_of_ble_eq_true rfl) ?_
  intro p e s m args below meth c A ls X hr hlocks hM hl hS hZ hN ht
  have hl : lv_has ls 3 [(0, .ref x), (1, .ref o)] := hl
  obtain ⟨fs, hcx⟩ := cs.cell
  refine lv_aload_n X.1 X.2.1 dL_player_0 rfl (lv_at hl 1 rfl) ?_
  refine lv_iconst (v := nI 0) X.1 X.2.1 dL_player_1 (by decide) ?_
  refine lv_aload_n X.1 X.2.1 dL_player_2 rfl (lv_at hl 0 rfl) ?_
  refine xm_callV X hM hS hZ ck_L_7 ki_X6_player ks_X6_player (ci := 7) rfl dL_player_3 ((c_X6_player l G x N F B MC cs hst hI hJ).fr (mO_dj ho)) (mJ_l hcx) (As := []) rfl hl rfl (Nat.le_of_ble_eq_true rfl) ⟨Nat.le_of_ble_eq_true rfl, Nat.le_of_ble_eq_true rfl⟩ ⟨Nat.le_of_ble_eq_true rfl, Nat.le_of_ble_eq_true rfl⟩ (fun E9 ce q9 M1 H locs hp hM h1 h2 h3 => ?_) (fun r M1 H locs hp hM => ?_)
  · obtain ⟨M2, ⟨hcs, hk⟩, dj, rfl⟩ := hp
    obtain ⟨rfl, hk⟩ := hk
    refine l_catch X ht [] (0, 8, 11, 13) [] rfl (fun z hz => absurd hz List.not_mem_nil) ⟨by decide, by decide⟩ (by decide) kclx_L_13 kca_EIS h1 h2 h3 rfl ?_
    refine lv_astore_n (lv' := [(2, .ref q9), (0, .ref x), (1, .ref o)]) X.1 X.2.1 dL_player_11 rfl hl (by decide) rfl (fun ls hl => ?_)
    refine lv_iconst (v := nI 1) X.1 X.2.1 dL_player_12 (by decide) ?_
    exact m_iret X hr hlocks hM dL_player_13 ⟨Nat.le_of_ble_eq_true rfl, Nat.le_of_ble_eq_true rfl⟩ ⟨by rw [hk], M2, f, rfl, dj.off mO_at, fun h => absurd (hk.symm.trans h) (by decide), fun _ => hcs⟩
  · obtain ⟨M2, ⟨hk, rfl, hcs⟩, dj, rfl⟩ := hp
    refine lv_i2l (v := (nI (N 1)).toInt64) X.1 X.2.1 dL_player_6 rfl ?_
    refine mg_last X hM dL_player_7 (mJ_r dj mO_at) (vp_in_nI (by decide) (by decide)) (fun H locs hM => ?_)
    rw [mO_put (dj.off mO_at)] at hM
    refine lv_goto (tgt := 14) X.1 X.2.1 dL_player_8 (by decide) ?_
    refine lv_iconst (v := nI 0) X.1 X.2.1 dL_player_14 (by decide) ?_
    exact m_iret X hr hlocks hM dL_player_15 ⟨Nat.le_of_ble_eq_true rfl, Nat.le_of_ble_eq_true rfl⟩ ⟨by rw [hk], M2, _, rfl, dj.off mO_at, fun _ => ⟨hcs, mO_val _ _⟩, fun h => absurd hk h⟩
set_option maxHeartbeats 4000000 in
set_option maxRecDepth 100000 in
theorem c_L_room (l : Launch) (G : mG) (x o : Nat) (N : Nat → Nat) (F : Nat → Nat → Nat) (B : Nat → Int32) (MC : Mem) (cs : CS G x N F B MC) (ho : MC o = none) (f : Nat → Int64) (m0 : Int32) (m1 : Int32) (hst : l.stackTraces = false) (hI : Iv N F) : lMet l yL_room cL_room 5 (some FieldType.int) hh_L_room ({ frames := 8, cells := 2, slots := 12, locals := 127 } : Room) G [.ref x, .int m0, .int m1, .ref o] (mJ MC (mO G o f)) (WPo G x o (kRoom m0 m1) (nI (tdy F (N 0) (ix m0) (N 6))).toInt64 (N) (fRoom F m0 m1) (B) N F B) := by
  refine lMet.of (by decide) (Nat.le_of_ble_eq_true rfl) ?_
  intro p e s m args below meth c A ls X hr hlocks hM hl hS hZ hN ht
  have hl : lv_has ls 5 [(0, .ref x), (1, .int m0), (2, .int m1), (3, .ref o)] := hl
  obtain ⟨fs, hcx⟩ := cs.cell
  refine lv_aload_n X.1 X.2.1 dL_room_0 rfl (lv_at hl 3 rfl) ?_
  refine lv_iconst (v := nI 0) X.1 X.2.1 dL_room_1 (by decide) ?_
  refine lv_aload_n X.1 X.2.1 dL_room_2 rfl (lv_at hl 0 rfl) ?_
  refine lv_iload_n X.1 X.2.1 dL_room_3 rfl (lv_at hl 1 rfl) ?_
  refine lv_iload_n X.1 X.2.1 dL_room_4 rfl (lv_at hl 2 rfl) ?_
  refine xm_callV X hM hS hZ ck_L_15 ki_X6_room ks_X6_room (ci := 7) rfl dL_room_5 ((c_X6_room l G x N F B MC cs m0 m1 hst hI).fr (mO_dj ho)) (mJ_l hcx) (As := [.int m0, .int m1]) rfl hl rfl (Nat.le_of_ble_eq_true rfl) ⟨Nat.le_of_ble_eq_true rfl, Nat.le_of_ble_eq_true rfl⟩ ⟨Nat.le_of_ble_eq_true rfl, Nat.le_of_ble_eq_true rfl⟩ (fun E9 ce q9 M1 H locs hp hM h1 h2 h3 => ?_) (fun r M1 H locs hp hM => ?_)
  · obtain ⟨M2, ⟨hcs, hk⟩, dj, rfl⟩ := hp
    rcases hk with ⟨rfl, hk⟩ | ⟨rfl, hk⟩
    · refine l_catch X ht [] (0, 10, 13, 19) [(0, 10, 17, 21)] rfl (fun z hz => absurd hz List.not_mem_nil) ⟨by decide, by decide⟩ (by decide) kclx_L_19 kca_EIO h1 h2 h3 rfl ?_
      refine lv_astore (lv' := [(4, .ref q9), (0, .ref x), (1, .int m0), (2, .int m1), (3, .ref o)]) X.1 X.2.1 dL_room_13 hl (by decide) rfl (fun ls hl => ?_)
      refine lv_iconst (v := nI 1) X.1 X.2.1 dL_room_15 (by decide) ?_
      exact m_iret X hr hlocks hM dL_room_16 ⟨Nat.le_of_ble_eq_true rfl, Nat.le_of_ble_eq_true rfl⟩ ⟨by rw [hk], M2, f, rfl, dj.off mO_at, fun h => absurd (hk.symm.trans h) (by decide), fun _ => hcs⟩
    · refine l_catch X ht [(0, 10, 13, 19)] (0, 10, 17, 21) [] rfl (fun z hz => by rw [List.mem_singleton.mp hz]; exact ⟨by decide, EIO, kclx_L_19, hN.1⟩) ⟨by decide, by decide⟩ (by decide) kclx_L_21 kca_EIA h1 h2 h3 rfl ?_
      refine lv_astore (lv' := [(4, .ref q9), (0, .ref x), (1, .int m0), (2, .int m1), (3, .ref o)]) X.1 X.2.1 dL_room_17 hl (by decide) rfl (fun ls hl => ?_)
      refine lv_iconst (v := nI 2) X.1 X.2.1 dL_room_19 (by decide) ?_
      exact m_iret X hr hlocks hM dL_room_20 ⟨Nat.le_of_ble_eq_true rfl, Nat.le_of_ble_eq_true rfl⟩ ⟨by rw [hk], M2, f, rfl, dj.off mO_at, fun h => absurd (hk.symm.trans h) (by decide), fun _ => hcs⟩
  · obtain ⟨M2, ⟨hk, rfl, hcs⟩, dj, rfl⟩ := hp
    refine lv_i2l (v := (nI (tdy F (N 0) (ix m0) (N 6))).toInt64) X.1 X.2.1 dL_room_8 rfl ?_
    refine mg_last X hM dL_room_9 (mJ_r dj mO_at) (vp_in_nI (by decide) (by decide)) (fun H locs hM => ?_)
    rw [mO_put (dj.off mO_at)] at hM
    refine lv_goto (tgt := 21) X.1 X.2.1 dL_room_10 (by decide) ?_
    refine lv_iconst (v := nI 0) X.1 X.2.1 dL_room_21 (by decide) ?_
    exact m_iret X hr hlocks hM dL_room_22 ⟨Nat.le_of_ble_eq_true rfl, Nat.le_of_ble_eq_true rfl⟩ ⟨by rw [hk], M2, _, rfl, dj.off mO_at, fun _ => ⟨hcs, mO_val _ _⟩, fun h => absurd hk h⟩
set_option maxHeartbeats 4000000 in
set_option maxRecDepth 100000 in
theorem c_L_match (l : Launch) (G : mG) (x o : Nat) (N : Nat → Nat) (F : Nat → Nat → Nat) (B : Nat → Int32) (MC : Mem) (cs : CS G x N F B MC) (ho : MC o = none) (f : Nat → Int64) (m0 : Int32) (m1 : Int32) (m2 : Int32) (hst : l.stackTraces = false) (hI : Iv N F) : lMet l yL_match cL_match 6 (some FieldType.int) hh_L_match ({ frames := 8, cells := 4, slots := 24, locals := 132 } : Room) G [.ref x, .int m0, .int m1, .int m2, .ref o] (mJ MC (mO G o f)) (WPo G x o (kMatch N F m0 m1 m2) (nI (N 6)).toInt64 (va_up N 6 (N 6 + 1)) (fMatch N F m0 m1 m2) (B) N F B) := by
  refine lMet.of (by decide) (Nat.le_of_ble_eq_true rfl) ?_
  intro p e s m args below meth c A ls X hr hlocks hM hl hS hZ hN ht
  have hl : lv_has ls 6 [(0, .ref x), (1, .int m0), (2, .int m1), (3, .int m2), (4, .ref o)] := hl
  obtain ⟨fs, hcx⟩ := cs.cell
  refine lv_aload X.1 X.2.1 dL_match_0 (lv_at hl 4 rfl) ?_
  refine lv_iconst (v := nI 0) X.1 X.2.1 dL_match_2 (by decide) ?_
  refine lv_aload_n X.1 X.2.1 dL_match_3 rfl (lv_at hl 0 rfl) ?_
  refine lv_iload_n X.1 X.2.1 dL_match_4 rfl (lv_at hl 1 rfl) ?_
  refine lv_iload_n X.1 X.2.1 dL_match_5 rfl (lv_at hl 2 rfl) ?_
  refine lv_iload_n X.1 X.2.1 dL_match_6 rfl (lv_at hl 3 rfl) ?_
  refine xm_callV X hM hS hZ ck_L_23 ki_X6_match ks_X6_match (ci := 7) rfl dL_match_7 ((c_X6_match l G x N F B MC cs m0 m1 m2 hst hI).fr (mO_dj ho)) (mJ_l hcx) (As := [.int m0, .int m1, .int m2]) rfl hl rfl (Nat.le_of_ble_eq_true rfl) ⟨Nat.le_of_ble_eq_true rfl, Nat.le_of_ble_eq_true rfl⟩ ⟨Nat.le_of_ble_eq_true rfl, Nat.le_of_ble_eq_true rfl⟩ (fun E9 ce q9 M1 H locs hp hM h1 h2 h3 => ?_) (fun r M1 H locs hp hM => ?_)
  · obtain ⟨M2, ⟨hcs, hk⟩, dj, rfl⟩ := hp
    rcases hk with ⟨rfl, hk⟩ | ⟨rfl, hk⟩ | ⟨rfl, hk⟩
    · refine l_catch X ht [] (0, 12, 15, 19) [(0, 12, 19, 21), (0, 12, 23, 13)] rfl (fun z hz => absurd hz List.not_mem_nil) ⟨by decide, by decide⟩ (by decide) kclx_L_19 kca_EIO h1 h2 h3 rfl ?_
      refine lv_astore (lv' := [(5, .ref q9), (0, .ref x), (1, .int m0), (2, .int m1), (3, .int m2), (4, .ref o)]) X.1 X.2.1 dL_match_15 hl (by decide) rfl (fun ls hl => ?_)
      refine lv_iconst (v := nI 1) X.1 X.2.1 dL_match_17 (by decide) ?_
      exact m_iret X hr hlocks hM dL_match_18 ⟨Nat.le_of_ble_eq_true rfl, Nat.le_of_ble_eq_true rfl⟩ ⟨by rw [hk], M2, f, rfl, dj.off mO_at, fun h => absurd (hk.symm.trans h) (by decide), fun _ => hcs⟩
    · refine l_catch X ht [(0, 12, 15, 19)] (0, 12, 19, 21) [(0, 12, 23, 13)] rfl (fun z hz => by rw [List.mem_singleton.mp hz]; exact ⟨by decide, EIO, kclx_L_19, hN.1⟩) ⟨by decide, by decide⟩ (by decide) kclx_L_21 kca_EIA h1 h2 h3 rfl ?_
      refine lv_astore (lv' := [(5, .ref q9), (0, .ref x), (1, .int m0), (2, .int m1), (3, .int m2), (4, .ref o)]) X.1 X.2.1 dL_match_19 hl (by decide) rfl (fun ls hl => ?_)
      refine lv_iconst (v := nI 2) X.1 X.2.1 dL_match_21 (by decide) ?_
      exact m_iret X hr hlocks hM dL_match_22 ⟨Nat.le_of_ble_eq_true rfl, Nat.le_of_ble_eq_true rfl⟩ ⟨by rw [hk], M2, f, rfl, dj.off mO_at, fun h => absurd (hk.symm.trans h) (by decide), fun _ => hcs⟩
    · refine l_catch X ht [(0, 12, 15, 19), (0, 12, 19, 21)] (0, 12, 23, 13) [] rfl (fun z hz => by rcases List.mem_cons.mp hz with rfl | hz; exact ⟨by decide, EIO, kclx_L_19, hN.2.1⟩; rw [List.mem_singleton.mp hz]; exact ⟨by decide, EIA, kclx_L_21, hN.2.2⟩) ⟨by decide, by decide⟩ (by decide) kclx_L_13 kca_EIS h1 h2 h3 rfl ?_
      refine lv_astore (lv' := [(5, .ref q9), (0, .ref x), (1, .int m0), (2, .int m1), (3, .int m2), (4, .ref o)]) X.1 X.2.1 dL_match_23 hl (by decide) rfl (fun ls hl => ?_)
      refine lv_iconst (v := nI 3) X.1 X.2.1 dL_match_25 (by decide) ?_
      exact m_iret X hr hlocks hM dL_match_26 ⟨Nat.le_of_ble_eq_true rfl, Nat.le_of_ble_eq_true rfl⟩ ⟨by rw [hk], M2, f, rfl, dj.off mO_at, fun h => absurd (hk.symm.trans h) (by decide), fun _ => hcs⟩
  · obtain ⟨M2, ⟨hk, rfl, hcs⟩, dj, rfl⟩ := hp
    refine lv_i2l (v := (nI (N 6)).toInt64) X.1 X.2.1 dL_match_10 rfl ?_
    refine mg_last X hM dL_match_11 (mJ_r dj mO_at) (vp_in_nI (by decide) (by decide)) (fun H locs hM => ?_)
    rw [mO_put (dj.off mO_at)] at hM
    refine lv_goto (tgt := 27) X.1 X.2.1 dL_match_12 (by decide) ?_
    refine lv_iconst (v := nI 0) X.1 X.2.1 dL_match_27 (by decide) ?_
    exact m_iret X hr hlocks hM dL_match_28 ⟨Nat.le_of_ble_eq_true rfl, Nat.le_of_ble_eq_true rfl⟩ ⟨by rw [hk], M2, _, rfl, dj.off mO_at, fun _ => ⟨hcs, mO_val _ _⟩, fun h => absurd hk h⟩
set_option maxHeartbeats 4000000 in
set_option maxRecDepth 100000 in
theorem c_L_end (l : Launch) (G : mG) (x o : Nat) (N : Nat → Nat) (F : Nat → Nat → Nat) (B : Nat → Int32) (MC : Mem) (cs : CS G x N F B MC) (ho : MC o = none) (f : Nat → Int64) (hst : l.stackTraces = false) (hI : Iv N F) (hJ : Jv N F B) : lMet l yL_end cL_end 3 (some FieldType.int) hh_L_end ({ frames := 7, cells := 9, slots := 125, locals := 136 } : Room) G [.ref x, .ref o] (mJ MC (mO G o f)) (WPo G x o (kEnd N) (nI (awS N F 3).1).toInt64 (nEnd N F) ((awS N F 3).2) (B) N F B) := by
  refine lMet.of (by decide) (Nat.le_of_ble_eq_true rfl) ?_
  intro p e s m args below meth c A ls X hr hlocks hM hl hS hZ hN ht
  have hl : lv_has ls 3 [(0, .ref x), (1, .ref o)] := hl
  obtain ⟨fs, hcx⟩ := cs.cell
  refine lv_aload_n X.1 X.2.1 dL_end_0 rfl (lv_at hl 1 rfl) ?_
  refine lv_iconst (v := nI 0) X.1 X.2.1 dL_end_1 (by decide) ?_
  refine lv_aload_n X.1 X.2.1 dL_end_2 rfl (lv_at hl 0 rfl) ?_
  refine xm_callV X hM hS hZ ck_L_27 ki_X6_end ks_X6_end (ci := 7) rfl dL_end_3 ((c_X6_end l G x N F B MC cs hst hI hJ).fr (mO_dj ho)) (mJ_l hcx) (As := []) rfl hl rfl (Nat.le_of_ble_eq_true rfl) ⟨Nat.le_of_ble_eq_true rfl, Nat.le_of_ble_eq_true rfl⟩ ⟨Nat.le_of_ble_eq_true rfl, Nat.le_of_ble_eq_true rfl⟩ (fun E9 ce q9 M1 H locs hp hM h1 h2 h3 => ?_) (fun r M1 H locs hp hM => ?_)
  · obtain ⟨M2, ⟨hcs, hk⟩, dj, rfl⟩ := hp
    obtain ⟨rfl, hk⟩ := hk
    refine l_catch X ht [] (0, 8, 11, 13) [] rfl (fun z hz => absurd hz List.not_mem_nil) ⟨by decide, by decide⟩ (by decide) kclx_L_13 kca_EIS h1 h2 h3 rfl ?_
    refine lv_astore_n (lv' := [(2, .ref q9), (0, .ref x), (1, .ref o)]) X.1 X.2.1 dL_end_11 rfl hl (by decide) rfl (fun ls hl => ?_)
    refine lv_iconst (v := nI 1) X.1 X.2.1 dL_end_12 (by decide) ?_
    exact m_iret X hr hlocks hM dL_end_13 ⟨Nat.le_of_ble_eq_true rfl, Nat.le_of_ble_eq_true rfl⟩ ⟨by rw [hk], M2, f, rfl, dj.off mO_at, fun h => absurd (hk.symm.trans h) (by decide), fun _ => hcs⟩
  · obtain ⟨M2, ⟨hk, rfl, hcs⟩, dj, rfl⟩ := hp
    refine lv_i2l (v := (nI (awS N F 3).1).toInt64) X.1 X.2.1 dL_end_6 rfl ?_
    refine mg_last X hM dL_end_7 (mJ_r dj mO_at) (vp_in_nI (by decide) (by decide)) (fun H locs hM => ?_)
    rw [mO_put (dj.off mO_at)] at hM
    refine lv_goto (tgt := 14) X.1 X.2.1 dL_end_8 (by decide) ?_
    refine lv_iconst (v := nI 0) X.1 X.2.1 dL_end_14 (by decide) ?_
    exact m_iret X hr hlocks hM dL_end_15 ⟨Nat.le_of_ble_eq_true rfl, Nat.le_of_ble_eq_true rfl⟩ ⟨by rw [hk], M2, _, rfl, dj.off mO_at, fun _ => ⟨hcs, mO_val _ _⟩, fun h => absurd hk h⟩
set_option maxHeartbeats 4000000 in
set_option maxRecDepth 100000 in
theorem c_L_sell (l : Launch) (G : mG) (x o : Nat) (N : Nat → Nat) (F : Nat → Nat → Nat) (B : Nat → Int32) (MC : Mem) (cs : CS G x N F B MC) (ho : MC o = none) (f : Nat → Int64) (m0 : Int32) (m1 : Int32) (m2 : Int32) (hst : l.stackTraces = false) (hI : Iv N F) : lMet l yL_sell cL_sell 6 (some FieldType.int) hh_L_sell ({ frames := 8, cells := 3, slots := 18, locals := 129 } : Room) G [.ref x, .int m0, .int m1, .int m2, .ref o] (mJ MC (mO G o f)) (WPo G x o (kSell N F m0 m1 m2) (bI (faithS F (ix m0) (ix m1))).toInt64 (N) (fSell F (ix m0) (ix m1) (ix m2)) (bSell F B (ix m0) (ix m1) (ix m2)) N F B) := by
  refine lMet.of (by decide) (Nat.le_of_ble_eq_true rfl) ?_
  intro p e s m args below meth c A ls X hr hlocks hM hl hS hZ hN ht
  have hl : lv_has ls 6 [(0, .ref x), (1, .int m0), (2, .int m1), (3, .int m2), (4, .ref o)] := hl
  obtain ⟨fs, hcx⟩ := cs.cell
  refine lv_aload X.1 X.2.1 dL_sell_0 (lv_at hl 4 rfl) ?_
  refine lv_iconst (v := nI 0) X.1 X.2.1 dL_sell_2 (by decide) ?_
  refine lv_aload_n X.1 X.2.1 dL_sell_3 rfl (lv_at hl 0 rfl) ?_
  refine lv_iload_n X.1 X.2.1 dL_sell_4 rfl (lv_at hl 1 rfl) ?_
  refine lv_iload_n X.1 X.2.1 dL_sell_5 rfl (lv_at hl 2 rfl) ?_
  refine lv_iload_n X.1 X.2.1 dL_sell_6 rfl (lv_at hl 3 rfl) ?_
  refine xm_callV X hM hS hZ ck_L_30 ki_X6_sell ks_X6_sell (ci := 7) rfl dL_sell_7 ((c_X6_sell l G x N F B MC cs m0 m1 m2 hst hI).fr (mO_dj ho)) (mJ_l hcx) (As := [.int m0, .int m1, .int m2]) rfl hl rfl (Nat.le_of_ble_eq_true rfl) ⟨Nat.le_of_ble_eq_true rfl, Nat.le_of_ble_eq_true rfl⟩ ⟨Nat.le_of_ble_eq_true rfl, Nat.le_of_ble_eq_true rfl⟩ (fun E9 ce q9 M1 H locs hp hM h1 h2 h3 => ?_) (fun r M1 H locs hp hM => ?_)
  · obtain ⟨M2, ⟨hcs, hk⟩, dj, rfl⟩ := hp
    rcases hk with ⟨rfl, hk⟩ | ⟨rfl, hk⟩ | ⟨rfl, hk⟩
    · refine l_catch X ht [] (0, 19, 22, 19) [(0, 19, 26, 21), (0, 19, 30, 13)] rfl (fun z hz => absurd hz List.not_mem_nil) ⟨by decide, by decide⟩ (by decide) kclx_L_19 kca_EIO h1 h2 h3 rfl ?_
      refine lv_astore (lv' := [(5, .ref q9), (0, .ref x), (1, .int m0), (2, .int m1), (3, .int m2), (4, .ref o)]) X.1 X.2.1 dL_sell_22 hl (by decide) rfl (fun ls hl => ?_)
      refine lv_iconst (v := nI 1) X.1 X.2.1 dL_sell_24 (by decide) ?_
      exact m_iret X hr hlocks hM dL_sell_25 ⟨Nat.le_of_ble_eq_true rfl, Nat.le_of_ble_eq_true rfl⟩ ⟨by rw [hk], M2, f, rfl, dj.off mO_at, fun h => absurd (hk.symm.trans h) (by decide), fun _ => hcs⟩
    · refine l_catch X ht [(0, 19, 22, 19)] (0, 19, 26, 21) [(0, 19, 30, 13)] rfl (fun z hz => by rw [List.mem_singleton.mp hz]; exact ⟨by decide, EIO, kclx_L_19, hN.1⟩) ⟨by decide, by decide⟩ (by decide) kclx_L_21 kca_EIA h1 h2 h3 rfl ?_
      refine lv_astore (lv' := [(5, .ref q9), (0, .ref x), (1, .int m0), (2, .int m1), (3, .int m2), (4, .ref o)]) X.1 X.2.1 dL_sell_26 hl (by decide) rfl (fun ls hl => ?_)
      refine lv_iconst (v := nI 2) X.1 X.2.1 dL_sell_28 (by decide) ?_
      exact m_iret X hr hlocks hM dL_sell_29 ⟨Nat.le_of_ble_eq_true rfl, Nat.le_of_ble_eq_true rfl⟩ ⟨by rw [hk], M2, f, rfl, dj.off mO_at, fun h => absurd (hk.symm.trans h) (by decide), fun _ => hcs⟩
    · refine l_catch X ht [(0, 19, 22, 19), (0, 19, 26, 21)] (0, 19, 30, 13) [] rfl (fun z hz => by rcases List.mem_cons.mp hz with rfl | hz; exact ⟨by decide, EIO, kclx_L_19, hN.2.1⟩; rw [List.mem_singleton.mp hz]; exact ⟨by decide, EIA, kclx_L_21, hN.2.2⟩) ⟨by decide, by decide⟩ (by decide) kclx_L_13 kca_EIS h1 h2 h3 rfl ?_
      refine lv_astore (lv' := [(5, .ref q9), (0, .ref x), (1, .int m0), (2, .int m1), (3, .int m2), (4, .ref o)]) X.1 X.2.1 dL_sell_30 hl (by decide) rfl (fun ls hl => ?_)
      refine lv_iconst (v := nI 3) X.1 X.2.1 dL_sell_32 (by decide) ?_
      exact m_iret X hr hlocks hM dL_sell_33 ⟨Nat.le_of_ble_eq_true rfl, Nat.le_of_ble_eq_true rfl⟩ ⟨by rw [hk], M2, f, rfl, dj.off mO_at, fun h => absurd (hk.symm.trans h) (by decide), fun _ => hcs⟩
  · obtain ⟨M2, ⟨hk, rfl, hcs⟩, dj, rfl⟩ := hp
    refine b_bool_eq (tgt := 17) (b := faithS F (ix m0) (ix m1)) X dL_sell_10 (by decide) (fun hb => ?_) (fun hb => ?_)
    · refine lv_lconst (v := 0) X.1 X.2.1 dL_sell_17 rfl ?_
      refine mg_last X hM dL_sell_18 (mJ_r dj mO_at) (vp_in_nI (by decide) (by decide)) (fun H locs hM => ?_)
      rw [mO_put (dj.off mO_at)] at hM
      refine lv_goto (tgt := 34) X.1 X.2.1 dL_sell_19 (by decide) ?_
      refine lv_iconst (v := nI 0) X.1 X.2.1 dL_sell_34 (by decide) ?_
      exact m_iret X hr hlocks hM dL_sell_35 ⟨Nat.le_of_ble_eq_true rfl, Nat.le_of_ble_eq_true rfl⟩ ⟨by rw [hk], M2, _, rfl, dj.off mO_at, fun _ => ⟨hcs, (mO_val _ _).trans (by rw [hb]; rfl)⟩, fun h => absurd hk h⟩
    · refine lv_lconst (v := 1) X.1 X.2.1 dL_sell_13 rfl ?_
      refine lv_goto (tgt := 18) X.1 X.2.1 dL_sell_14 (by decide) ?_
      refine mg_last X hM dL_sell_18 (mJ_r dj mO_at) (vp_in_nI (by decide) (by decide)) (fun H locs hM => ?_)
      rw [mO_put (dj.off mO_at)] at hM
      refine lv_goto (tgt := 34) X.1 X.2.1 dL_sell_19 (by decide) ?_
      refine lv_iconst (v := nI 0) X.1 X.2.1 dL_sell_34 (by decide) ?_
      exact m_iret X hr hlocks hM dL_sell_35 ⟨Nat.le_of_ble_eq_true rfl, Nat.le_of_ble_eq_true rfl⟩ ⟨by rw [hk], M2, _, rfl, dj.off mO_at, fun _ => ⟨hcs, (mO_val _ _).trans (by rw [hb]; rfl)⟩, fun h => absurd hk h⟩
set_option maxHeartbeats 4000000 in
set_option maxRecDepth 100000 in
theorem c_L_lend (l : Launch) (G : mG) (x o : Nat) (N : Nat → Nat) (F : Nat → Nat → Nat) (B : Nat → Int32) (MC : Mem) (cs : CS G x N F B MC) (ho : MC o = none) (f : Nat → Int64) (m0 : Int32) (m1 : Int32) (m2 : Int32) (hst : l.stackTraces = false) (hI : Iv N F) : lMet l yL_lend cL_lend 6 (some FieldType.int) hh_L_lend ({ frames := 8, cells := 3, slots := 18, locals := 129 } : Room) G [.ref x, .int m0, .int m1, .int m2, .ref o] (mJ MC (mO G o f)) (WPo G x o (kLend N F m0 m1 m2) (nI (N 0 + ix m2 - 1)).toInt64 (N) (fLend N F (ix m0) (ix m1) (ix m2)) (B) N F B) := by
  refine lMet.of (by decide) (Nat.le_of_ble_eq_true rfl) ?_
  intro p e s m args below meth c A ls X hr hlocks hM hl hS hZ hN ht
  have hl : lv_has ls 6 [(0, .ref x), (1, .int m0), (2, .int m1), (3, .int m2), (4, .ref o)] := hl
  obtain ⟨fs, hcx⟩ := cs.cell
  refine lv_aload X.1 X.2.1 dL_lend_0 (lv_at hl 4 rfl) ?_
  refine lv_iconst (v := nI 0) X.1 X.2.1 dL_lend_2 (by decide) ?_
  refine lv_aload_n X.1 X.2.1 dL_lend_3 rfl (lv_at hl 0 rfl) ?_
  refine lv_iload_n X.1 X.2.1 dL_lend_4 rfl (lv_at hl 1 rfl) ?_
  refine lv_iload_n X.1 X.2.1 dL_lend_5 rfl (lv_at hl 2 rfl) ?_
  refine lv_iload_n X.1 X.2.1 dL_lend_6 rfl (lv_at hl 3 rfl) ?_
  refine xm_callV X hM hS hZ ck_L_34 ki_X6_lend ks_X6_lend (ci := 7) rfl dL_lend_7 ((c_X6_lend l G x N F B MC cs m0 m1 m2 hst hI).fr (mO_dj ho)) (mJ_l hcx) (As := [.int m0, .int m1, .int m2]) rfl hl rfl (Nat.le_of_ble_eq_true rfl) ⟨Nat.le_of_ble_eq_true rfl, Nat.le_of_ble_eq_true rfl⟩ ⟨Nat.le_of_ble_eq_true rfl, Nat.le_of_ble_eq_true rfl⟩ (fun E9 ce q9 M1 H locs hp hM h1 h2 h3 => ?_) (fun r M1 H locs hp hM => ?_)
  · obtain ⟨M2, ⟨hcs, hk⟩, dj, rfl⟩ := hp
    rcases hk with ⟨rfl, hk⟩ | ⟨rfl, hk⟩ | ⟨rfl, hk⟩
    · refine l_catch X ht [] (0, 12, 15, 19) [(0, 12, 19, 21), (0, 12, 23, 13)] rfl (fun z hz => absurd hz List.not_mem_nil) ⟨by decide, by decide⟩ (by decide) kclx_L_19 kca_EIO h1 h2 h3 rfl ?_
      refine lv_astore (lv' := [(5, .ref q9), (0, .ref x), (1, .int m0), (2, .int m1), (3, .int m2), (4, .ref o)]) X.1 X.2.1 dL_lend_15 hl (by decide) rfl (fun ls hl => ?_)
      refine lv_iconst (v := nI 1) X.1 X.2.1 dL_lend_17 (by decide) ?_
      exact m_iret X hr hlocks hM dL_lend_18 ⟨Nat.le_of_ble_eq_true rfl, Nat.le_of_ble_eq_true rfl⟩ ⟨by rw [hk], M2, f, rfl, dj.off mO_at, fun h => absurd (hk.symm.trans h) (by decide), fun _ => hcs⟩
    · refine l_catch X ht [(0, 12, 15, 19)] (0, 12, 19, 21) [(0, 12, 23, 13)] rfl (fun z hz => by rw [List.mem_singleton.mp hz]; exact ⟨by decide, EIO, kclx_L_19, hN.1⟩) ⟨by decide, by decide⟩ (by decide) kclx_L_21 kca_EIA h1 h2 h3 rfl ?_
      refine lv_astore (lv' := [(5, .ref q9), (0, .ref x), (1, .int m0), (2, .int m1), (3, .int m2), (4, .ref o)]) X.1 X.2.1 dL_lend_19 hl (by decide) rfl (fun ls hl => ?_)
      refine lv_iconst (v := nI 2) X.1 X.2.1 dL_lend_21 (by decide) ?_
      exact m_iret X hr hlocks hM dL_lend_22 ⟨Nat.le_of_ble_eq_true rfl, Nat.le_of_ble_eq_true rfl⟩ ⟨by rw [hk], M2, f, rfl, dj.off mO_at, fun h => absurd (hk.symm.trans h) (by decide), fun _ => hcs⟩
    · refine l_catch X ht [(0, 12, 15, 19), (0, 12, 19, 21)] (0, 12, 23, 13) [] rfl (fun z hz => by rcases List.mem_cons.mp hz with rfl | hz; exact ⟨by decide, EIO, kclx_L_19, hN.2.1⟩; rw [List.mem_singleton.mp hz]; exact ⟨by decide, EIA, kclx_L_21, hN.2.2⟩) ⟨by decide, by decide⟩ (by decide) kclx_L_13 kca_EIS h1 h2 h3 rfl ?_
      refine lv_astore (lv' := [(5, .ref q9), (0, .ref x), (1, .int m0), (2, .int m1), (3, .int m2), (4, .ref o)]) X.1 X.2.1 dL_lend_23 hl (by decide) rfl (fun ls hl => ?_)
      refine lv_iconst (v := nI 3) X.1 X.2.1 dL_lend_25 (by decide) ?_
      exact m_iret X hr hlocks hM dL_lend_26 ⟨Nat.le_of_ble_eq_true rfl, Nat.le_of_ble_eq_true rfl⟩ ⟨by rw [hk], M2, f, rfl, dj.off mO_at, fun h => absurd (hk.symm.trans h) (by decide), fun _ => hcs⟩
  · obtain ⟨M2, ⟨hk, rfl, hcs⟩, dj, rfl⟩ := hp
    refine lv_i2l (v := (nI (N 0 + ix m2 - 1)).toInt64) X.1 X.2.1 dL_lend_10 rfl ?_
    refine mg_last X hM dL_lend_11 (mJ_r dj mO_at) (vp_in_nI (by decide) (by decide)) (fun H locs hM => ?_)
    rw [mO_put (dj.off mO_at)] at hM
    refine lv_goto (tgt := 27) X.1 X.2.1 dL_lend_12 (by decide) ?_
    refine lv_iconst (v := nI 0) X.1 X.2.1 dL_lend_27 (by decide) ?_
    exact m_iret X hr hlocks hM dL_lend_28 ⟨Nat.le_of_ble_eq_true rfl, Nat.le_of_ble_eq_true rfl⟩ ⟨by rw [hk], M2, _, rfl, dj.off mO_at, fun _ => ⟨hcs, mO_val _ _⟩, fun h => absurd hk h⟩
set_option maxHeartbeats 4000000 in
set_option maxRecDepth 100000 in
theorem c_L_proof (l : Launch) (G : mG) (x o : Nat) (N : Nat → Nat) (F : Nat → Nat → Nat) (B : Nat → Int32) (MC : Mem) (cs : CS G x N F B MC) (ho : MC o = none) (f : Nat → Int64) (m0 : Int32) (m1 : Int32) (hst : l.stackTraces = false) (hI : Iv N F) : lMet l yL_proof cL_proof 5 (some FieldType.int) hh_L_proof ({ frames := 8, cells := 2, slots := 12, locals := 148 } : Room) G [.ref x, .int m0, .int m1, .ref o] (mJ MC (mO G o f)) (WPo G x o (kProof N m0 m1) (nI (badN (fProof F (ix m0) (ix m1)) (N 6))).toInt64 (N) ((lookS N (fProof F (ix m0) (ix m1)) B (N 13)).1) ((lookS N (fProof F (ix m0) (ix m1)) B (N 13)).2) N F B) := by
  refine lMet.of (by decide) (Nat.le_of_ble_eq_true rfl) ?_
  intro p e s m args below meth c A ls X hr hlocks hM hl hS hZ hN ht
  have hl : lv_has ls 5 [(0, .ref x), (1, .int m0), (2, .int m1), (3, .ref o)] := hl
  obtain ⟨fs, hcx⟩ := cs.cell
  refine lv_aload_n X.1 X.2.1 dL_proof_0 rfl (lv_at hl 3 rfl) ?_
  refine lv_iconst (v := nI 0) X.1 X.2.1 dL_proof_1 (by decide) ?_
  refine lv_aload_n X.1 X.2.1 dL_proof_2 rfl (lv_at hl 0 rfl) ?_
  refine lv_iload_n X.1 X.2.1 dL_proof_3 rfl (lv_at hl 1 rfl) ?_
  refine lv_iload_n X.1 X.2.1 dL_proof_4 rfl (lv_at hl 2 rfl) ?_
  refine xm_callV X hM hS hZ ck_L_37 ki_X6_proof ks_X6_proof (ci := 7) rfl dL_proof_5 ((c_X6_proof l G x N F B MC cs m0 m1 hst hI).fr (mO_dj ho)) (mJ_l hcx) (As := [.int m0, .int m1]) rfl hl rfl (Nat.le_of_ble_eq_true rfl) ⟨Nat.le_of_ble_eq_true rfl, Nat.le_of_ble_eq_true rfl⟩ ⟨Nat.le_of_ble_eq_true rfl, Nat.le_of_ble_eq_true rfl⟩ (fun E9 ce q9 M1 H locs hp hM h1 h2 h3 => ?_) (fun r M1 H locs hp hM => ?_)
  · obtain ⟨M2, ⟨hcs, hk⟩, dj, rfl⟩ := hp
    rcases hk with ⟨rfl, hk⟩ | ⟨rfl, hk⟩
    · refine l_catch X ht [] (0, 10, 13, 19) [(0, 10, 17, 21)] rfl (fun z hz => absurd hz List.not_mem_nil) ⟨by decide, by decide⟩ (by decide) kclx_L_19 kca_EIO h1 h2 h3 rfl ?_
      refine lv_astore (lv' := [(4, .ref q9), (0, .ref x), (1, .int m0), (2, .int m1), (3, .ref o)]) X.1 X.2.1 dL_proof_13 hl (by decide) rfl (fun ls hl => ?_)
      refine lv_iconst (v := nI 1) X.1 X.2.1 dL_proof_15 (by decide) ?_
      exact m_iret X hr hlocks hM dL_proof_16 ⟨Nat.le_of_ble_eq_true rfl, Nat.le_of_ble_eq_true rfl⟩ ⟨by rw [hk], M2, f, rfl, dj.off mO_at, fun h => absurd (hk.symm.trans h) (by decide), fun _ => hcs⟩
    · refine l_catch X ht [(0, 10, 13, 19)] (0, 10, 17, 21) [] rfl (fun z hz => by rw [List.mem_singleton.mp hz]; exact ⟨by decide, EIO, kclx_L_19, hN.1⟩) ⟨by decide, by decide⟩ (by decide) kclx_L_21 kca_EIA h1 h2 h3 rfl ?_
      refine lv_astore (lv' := [(4, .ref q9), (0, .ref x), (1, .int m0), (2, .int m1), (3, .ref o)]) X.1 X.2.1 dL_proof_17 hl (by decide) rfl (fun ls hl => ?_)
      refine lv_iconst (v := nI 2) X.1 X.2.1 dL_proof_19 (by decide) ?_
      exact m_iret X hr hlocks hM dL_proof_20 ⟨Nat.le_of_ble_eq_true rfl, Nat.le_of_ble_eq_true rfl⟩ ⟨by rw [hk], M2, f, rfl, dj.off mO_at, fun h => absurd (hk.symm.trans h) (by decide), fun _ => hcs⟩
  · obtain ⟨M2, ⟨hk, rfl, hcs⟩, dj, rfl⟩ := hp
    refine lv_i2l (v := (nI (badN (fProof F (ix m0) (ix m1)) (N 6))).toInt64) X.1 X.2.1 dL_proof_8 rfl ?_
    refine mg_last X hM dL_proof_9 (mJ_r dj mO_at) (vp_in_nI (by decide) (by decide)) (fun H locs hM => ?_)
    rw [mO_put (dj.off mO_at)] at hM
    refine lv_goto (tgt := 21) X.1 X.2.1 dL_proof_10 (by decide) ?_
    refine lv_iconst (v := nI 0) X.1 X.2.1 dL_proof_21 (by decide) ?_
    exact m_iret X hr hlocks hM dL_proof_22 ⟨Nat.le_of_ble_eq_true rfl, Nat.le_of_ble_eq_true rfl⟩ ⟨by rw [hk], M2, _, rfl, dj.off mO_at, fun _ => ⟨hcs, mO_val _ _⟩, fun h => absurd hk h⟩
set_option maxHeartbeats 4000000 in
set_option maxRecDepth 100000 in
theorem c_L_clear (l : Launch) (G : mG) (x o : Nat) (N : Nat → Nat) (F : Nat → Nat → Nat) (B : Nat → Int32) (MC : Mem) (cs : CS G x N F B MC) (ho : MC o = none) (f : Nat → Int64) (m0 : Int32) (hst : l.stackTraces = false) (hI : Iv N F) : lMet l yL_clear cL_clear 4 (some FieldType.int) hh_L_clear ({ frames := 8, cells := 2, slots := 12, locals := 148 } : Room) G [.ref x, .int m0, .ref o] (mJ MC (mO G o f)) (WPo G x o (kClear N F m0) (nI (F 2 (ix m0)) - 1).toInt64 (N) ((lookS N (set1 F 2 (ix m0) 0) B (N 13)).1) ((lookS N (set1 F 2 (ix m0) 0) B (N 13)).2) N F B) := by
  refine lMet.of (by decide) (Nat.le_of_ble_eq_true rfl) ?_
  intro p e s m args below meth c A ls X hr hlocks hM hl hS hZ hN ht
  have hl : lv_has ls 4 [(0, .ref x), (1, .int m0), (2, .ref o)] := hl
  obtain ⟨fs, hcx⟩ := cs.cell
  refine lv_aload_n X.1 X.2.1 dL_clear_0 rfl (lv_at hl 2 rfl) ?_
  refine lv_iconst (v := nI 0) X.1 X.2.1 dL_clear_1 (by decide) ?_
  refine lv_aload_n X.1 X.2.1 dL_clear_2 rfl (lv_at hl 0 rfl) ?_
  refine lv_iload_n X.1 X.2.1 dL_clear_3 rfl (lv_at hl 1 rfl) ?_
  refine xm_callV X hM hS hZ ck_L_40 ki_X6_clear ks_X6_clear (ci := 7) rfl dL_clear_4 ((c_X6_clear l G x N F B MC cs m0 hst hI).fr (mO_dj ho)) (mJ_l hcx) (As := [.int m0]) rfl hl rfl (Nat.le_of_ble_eq_true rfl) ⟨Nat.le_of_ble_eq_true rfl, Nat.le_of_ble_eq_true rfl⟩ ⟨Nat.le_of_ble_eq_true rfl, Nat.le_of_ble_eq_true rfl⟩ (fun E9 ce q9 M1 H locs hp hM h1 h2 h3 => ?_) (fun r M1 H locs hp hM => ?_)
  · obtain ⟨M2, ⟨hcs, hk⟩, dj, rfl⟩ := hp
    rcases hk with ⟨rfl, hk⟩ | ⟨rfl, hk⟩
    · refine l_catch X ht [] (0, 9, 12, 19) [(0, 9, 15, 13)] rfl (fun z hz => absurd hz List.not_mem_nil) ⟨by decide, by decide⟩ (by decide) kclx_L_19 kca_EIO h1 h2 h3 rfl ?_
      refine lv_astore_n (lv' := [(3, .ref q9), (0, .ref x), (1, .int m0), (2, .ref o)]) X.1 X.2.1 dL_clear_12 rfl hl (by decide) rfl (fun ls hl => ?_)
      refine lv_iconst (v := nI 1) X.1 X.2.1 dL_clear_13 (by decide) ?_
      exact m_iret X hr hlocks hM dL_clear_14 ⟨Nat.le_of_ble_eq_true rfl, Nat.le_of_ble_eq_true rfl⟩ ⟨by rw [hk], M2, f, rfl, dj.off mO_at, fun h => absurd (hk.symm.trans h) (by decide), fun _ => hcs⟩
    · refine l_catch X ht [(0, 9, 12, 19)] (0, 9, 15, 13) [] rfl (fun z hz => by rw [List.mem_singleton.mp hz]; exact ⟨by decide, EIO, kclx_L_19, hN.2.1⟩) ⟨by decide, by decide⟩ (by decide) kclx_L_13 kca_EIS h1 h2 h3 rfl ?_
      refine lv_astore_n (lv' := [(3, .ref q9), (0, .ref x), (1, .int m0), (2, .ref o)]) X.1 X.2.1 dL_clear_15 rfl hl (by decide) rfl (fun ls hl => ?_)
      refine lv_iconst (v := nI 2) X.1 X.2.1 dL_clear_16 (by decide) ?_
      exact m_iret X hr hlocks hM dL_clear_17 ⟨Nat.le_of_ble_eq_true rfl, Nat.le_of_ble_eq_true rfl⟩ ⟨by rw [hk], M2, f, rfl, dj.off mO_at, fun h => absurd (hk.symm.trans h) (by decide), fun _ => hcs⟩
  · obtain ⟨M2, ⟨hk, rfl, hcs⟩, dj, rfl⟩ := hp
    refine lv_i2l (v := (nI (F 2 (ix m0)) - 1).toInt64) X.1 X.2.1 dL_clear_7 rfl ?_
    refine mg_last X hM dL_clear_8 (mJ_r dj mO_at) (vp_in_nI (by decide) (by decide)) (fun H locs hM => ?_)
    rw [mO_put (dj.off mO_at)] at hM
    refine lv_goto (tgt := 18) X.1 X.2.1 dL_clear_9 (by decide) ?_
    refine lv_iconst (v := nI 0) X.1 X.2.1 dL_clear_18 (by decide) ?_
    exact m_iret X hr hlocks hM dL_clear_19 ⟨Nat.le_of_ble_eq_true rfl, Nat.le_of_ble_eq_true rfl⟩ ⟨by rw [hk], M2, _, rfl, dj.off mO_at, fun _ => ⟨hcs, mO_val _ _⟩, fun h => absurd hk h⟩
set_option maxHeartbeats 4000000 in
set_option maxRecDepth 100000 in
theorem c_L_ban (l : Launch) (G : mG) (x o : Nat) (N : Nat → Nat) (F : Nat → Nat → Nat) (B : Nat → Int32) (MC : Mem) (cs : CS G x N F B MC) (ho : MC o = none) (f : Nat → Int64) (m0 : Int32) (m1 : Int32) (hst : l.stackTraces = false) (hI : Iv N F) : lMet l yL_ban cL_ban 5 (some FieldType.int) hh_L_ban ({ frames := 8, cells := 2, slots := 12, locals := 127 } : Room) G [.ref x, .int m0, .int m1, .ref o] (mJ MC (mO G o f)) (WPo G x o (kBan N m0 m1) (nI (N 0 + ix m1)).toInt64 (N) (set1 F 3 (ix m0) (N 0 + ix m1)) (B) N F B) := by
  refine lMet.of (by decide) (Nat.le_of_ble_eq_true rfl) ?_
  intro p e s m args below meth c A ls X hr hlocks hM hl hS hZ hN ht
  have hl : lv_has ls 5 [(0, .ref x), (1, .int m0), (2, .int m1), (3, .ref o)] := hl
  obtain ⟨fs, hcx⟩ := cs.cell
  refine lv_aload_n X.1 X.2.1 dL_ban_0 rfl (lv_at hl 3 rfl) ?_
  refine lv_iconst (v := nI 0) X.1 X.2.1 dL_ban_1 (by decide) ?_
  refine lv_aload_n X.1 X.2.1 dL_ban_2 rfl (lv_at hl 0 rfl) ?_
  refine lv_iload_n X.1 X.2.1 dL_ban_3 rfl (lv_at hl 1 rfl) ?_
  refine lv_iload_n X.1 X.2.1 dL_ban_4 rfl (lv_at hl 2 rfl) ?_
  refine xm_callV X hM hS hZ ck_L_44 ki_X6_ban ks_X6_ban (ci := 7) rfl dL_ban_5 ((c_X6_ban l G x N F B MC cs m0 m1 hst hI).fr (mO_dj ho)) (mJ_l hcx) (As := [.int m0, .int m1]) rfl hl rfl (Nat.le_of_ble_eq_true rfl) ⟨Nat.le_of_ble_eq_true rfl, Nat.le_of_ble_eq_true rfl⟩ ⟨Nat.le_of_ble_eq_true rfl, Nat.le_of_ble_eq_true rfl⟩ (fun E9 ce q9 M1 H locs hp hM h1 h2 h3 => ?_) (fun r M1 H locs hp hM => ?_)
  · obtain ⟨M2, ⟨hcs, hk⟩, dj, rfl⟩ := hp
    rcases hk with ⟨rfl, hk⟩ | ⟨rfl, hk⟩
    · refine l_catch X ht [] (0, 10, 13, 19) [(0, 10, 17, 21)] rfl (fun z hz => absurd hz List.not_mem_nil) ⟨by decide, by decide⟩ (by decide) kclx_L_19 kca_EIO h1 h2 h3 rfl ?_
      refine lv_astore (lv' := [(4, .ref q9), (0, .ref x), (1, .int m0), (2, .int m1), (3, .ref o)]) X.1 X.2.1 dL_ban_13 hl (by decide) rfl (fun ls hl => ?_)
      refine lv_iconst (v := nI 1) X.1 X.2.1 dL_ban_15 (by decide) ?_
      exact m_iret X hr hlocks hM dL_ban_16 ⟨Nat.le_of_ble_eq_true rfl, Nat.le_of_ble_eq_true rfl⟩ ⟨by rw [hk], M2, f, rfl, dj.off mO_at, fun h => absurd (hk.symm.trans h) (by decide), fun _ => hcs⟩
    · refine l_catch X ht [(0, 10, 13, 19)] (0, 10, 17, 21) [] rfl (fun z hz => by rw [List.mem_singleton.mp hz]; exact ⟨by decide, EIO, kclx_L_19, hN.1⟩) ⟨by decide, by decide⟩ (by decide) kclx_L_21 kca_EIA h1 h2 h3 rfl ?_
      refine lv_astore (lv' := [(4, .ref q9), (0, .ref x), (1, .int m0), (2, .int m1), (3, .ref o)]) X.1 X.2.1 dL_ban_17 hl (by decide) rfl (fun ls hl => ?_)
      refine lv_iconst (v := nI 2) X.1 X.2.1 dL_ban_19 (by decide) ?_
      exact m_iret X hr hlocks hM dL_ban_20 ⟨Nat.le_of_ble_eq_true rfl, Nat.le_of_ble_eq_true rfl⟩ ⟨by rw [hk], M2, f, rfl, dj.off mO_at, fun h => absurd (hk.symm.trans h) (by decide), fun _ => hcs⟩
  · obtain ⟨M2, ⟨hk, rfl, hcs⟩, dj, rfl⟩ := hp
    refine lv_i2l (v := (nI (N 0 + ix m1)).toInt64) X.1 X.2.1 dL_ban_8 rfl ?_
    refine mg_last X hM dL_ban_9 (mJ_r dj mO_at) (vp_in_nI (by decide) (by decide)) (fun H locs hM => ?_)
    rw [mO_put (dj.off mO_at)] at hM
    refine lv_goto (tgt := 21) X.1 X.2.1 dL_ban_10 (by decide) ?_
    refine lv_iconst (v := nI 0) X.1 X.2.1 dL_ban_21 (by decide) ?_
    exact m_iret X hr hlocks hM dL_ban_22 ⟨Nat.le_of_ble_eq_true rfl, Nat.le_of_ble_eq_true rfl⟩ ⟨by rw [hk], M2, _, rfl, dj.off mO_at, fun _ => ⟨hcs, mO_val _ _⟩, fun h => absurd hk h⟩
set_option maxHeartbeats 4000000 in
set_option maxRecDepth 100000 in
theorem c_L_pass (l : Launch) (G : mG) (x o : Nat) (N : Nat → Nat) (F : Nat → Nat → Nat) (B : Nat → Int32) (MC : Mem) (cs : CS G x N F B MC) (ho : MC o = none) (f : Nat → Int64) (m0 : Int32) (hst : l.stackTraces = false) (hI : Iv N F) : lMet l yL_pass cL_pass 4 (some FieldType.int) hh_L_pass ({ frames := 7, cells := 1, slots := 6, locals := 105 } : Room) G [.ref x, .int m0, .ref o] (mJ MC (mO G o f)) (WPo G x o (kPass m0) (nI (N 0 + ix m0)).toInt64 (va_up N 0 (N 0 + ix m0)) (F) (B) N F B) := by
  refine lMet.of (by decide) (Nat.le_of_ble_eq_true rfl) ?_
  intro p e s m args below meth c A ls X hr hlocks hM hl hS hZ hN ht
  have hl : lv_has ls 4 [(0, .ref x), (1, .int m0), (2, .ref o)] := hl
  obtain ⟨fs, hcx⟩ := cs.cell
  refine lv_aload_n X.1 X.2.1 dL_pass_0 rfl (lv_at hl 2 rfl) ?_
  refine lv_iconst (v := nI 0) X.1 X.2.1 dL_pass_1 (by decide) ?_
  refine lv_aload_n X.1 X.2.1 dL_pass_2 rfl (lv_at hl 0 rfl) ?_
  refine lv_iload_n X.1 X.2.1 dL_pass_3 rfl (lv_at hl 1 rfl) ?_
  refine xm_callV X hM hS hZ ck_L_47 ki_X6_pass ks_X6_pass (ci := 7) rfl dL_pass_4 ((c_X6_pass l G x N F B MC cs m0 hst hI).fr (mO_dj ho)) (mJ_l hcx) (As := [.int m0]) rfl hl rfl (Nat.le_of_ble_eq_true rfl) ⟨Nat.le_of_ble_eq_true rfl, Nat.le_of_ble_eq_true rfl⟩ ⟨Nat.le_of_ble_eq_true rfl, Nat.le_of_ble_eq_true rfl⟩ (fun E9 ce q9 M1 H locs hp hM h1 h2 h3 => ?_) (fun r M1 H locs hp hM => ?_)
  · obtain ⟨M2, ⟨hcs, hk⟩, dj, rfl⟩ := hp
    obtain ⟨rfl, hk⟩ := hk
    refine l_catch X ht [] (0, 9, 12, 21) [] rfl (fun z hz => absurd hz List.not_mem_nil) ⟨by decide, by decide⟩ (by decide) kclx_L_21 kca_EIA h1 h2 h3 rfl ?_
    refine lv_astore_n (lv' := [(3, .ref q9), (0, .ref x), (1, .int m0), (2, .ref o)]) X.1 X.2.1 dL_pass_12 rfl hl (by decide) rfl (fun ls hl => ?_)
    refine lv_iconst (v := nI 1) X.1 X.2.1 dL_pass_13 (by decide) ?_
    exact m_iret X hr hlocks hM dL_pass_14 ⟨Nat.le_of_ble_eq_true rfl, Nat.le_of_ble_eq_true rfl⟩ ⟨by rw [hk], M2, f, rfl, dj.off mO_at, fun h => absurd (hk.symm.trans h) (by decide), fun _ => hcs⟩
  · obtain ⟨M2, ⟨hk, rfl, hcs⟩, dj, rfl⟩ := hp
    refine lv_i2l (v := (nI (N 0 + ix m0)).toInt64) X.1 X.2.1 dL_pass_7 rfl ?_
    refine mg_last X hM dL_pass_8 (mJ_r dj mO_at) (vp_in_nI (by decide) (by decide)) (fun H locs hM => ?_)
    rw [mO_put (dj.off mO_at)] at hM
    refine lv_goto (tgt := 15) X.1 X.2.1 dL_pass_9 (by decide) ?_
    refine lv_iconst (v := nI 0) X.1 X.2.1 dL_pass_15 (by decide) ?_
    exact m_iret X hr hlocks hM dL_pass_16 ⟨Nat.le_of_ble_eq_true rfl, Nat.le_of_ble_eq_true rfl⟩ ⟨by rw [hk], M2, _, rfl, dj.off mO_at, fun _ => ⟨hcs, mO_val _ _⟩, fun h => absurd hk h⟩
set_option maxHeartbeats 4000000 in
set_option maxRecDepth 100000 in
theorem c_L_stands (l : Launch) (G : mG) (x o : Nat) (N : Nat → Nat) (F : Nat → Nat → Nat) (B : Nat → Int32) (MC : Mem) (cs : CS G x N F B MC) (ho : MC o = none) (f : Nat → Int64) (m0 : Int32) (hst : l.stackTraces = false) (hI : Iv N F) : lMet l yL_stands cL_stands 4 (some FieldType.int) hh_L_stands ({ frames := 8, cells := 1, slots := 6, locals := 125 } : Room) G [.ref x, .int m0, .ref o] (mJ MC (mO G o f)) (WPo G x o (kOne (iR m0 (N 6))) (bI (goodS F (ix m0))).toInt64 (N) (F) (B) N F B) := by
  refine lMet.of (by decide) (Nat.le_of_ble_eq_true rfl) ?_
  intro p e s m args below meth c A ls X hr hlocks hM hl hS hZ hN ht
  have hl : lv_has ls 4 [(0, .ref x), (1, .int m0), (2, .ref o)] := hl
  obtain ⟨fs, hcx⟩ := cs.cell
  refine lv_aload_n X.1 X.2.1 dL_stands_0 rfl (lv_at hl 2 rfl) ?_
  refine lv_iconst (v := nI 0) X.1 X.2.1 dL_stands_1 (by decide) ?_
  refine lv_aload_n X.1 X.2.1 dL_stands_2 rfl (lv_at hl 0 rfl) ?_
  refine lv_iload_n X.1 X.2.1 dL_stands_3 rfl (lv_at hl 1 rfl) ?_
  refine xm_callV X hM hS hZ ck_L_50 ki_X6_stands ks_X6_stands (ci := 7) rfl dL_stands_4 ((c_X6_stands l G x N F B MC cs m0 hst hI).fr (mO_dj ho)) (mJ_l hcx) (As := [.int m0]) rfl hl rfl (Nat.le_of_ble_eq_true rfl) ⟨Nat.le_of_ble_eq_true rfl, Nat.le_of_ble_eq_true rfl⟩ ⟨Nat.le_of_ble_eq_true rfl, Nat.le_of_ble_eq_true rfl⟩ (fun E9 ce q9 M1 H locs hp hM h1 h2 h3 => ?_) (fun r M1 H locs hp hM => ?_)
  · obtain ⟨M2, ⟨hcs, hk⟩, dj, rfl⟩ := hp
    obtain ⟨rfl, hk⟩ := hk
    refine l_catch X ht [] (0, 16, 19, 19) [] rfl (fun z hz => absurd hz List.not_mem_nil) ⟨by decide, by decide⟩ (by decide) kclx_L_19 kca_EIO h1 h2 h3 rfl ?_
    refine lv_astore_n (lv' := [(3, .ref q9), (0, .ref x), (1, .int m0), (2, .ref o)]) X.1 X.2.1 dL_stands_19 rfl hl (by decide) rfl (fun ls hl => ?_)
    refine lv_iconst (v := nI 1) X.1 X.2.1 dL_stands_20 (by decide) ?_
    exact m_iret X hr hlocks hM dL_stands_21 ⟨Nat.le_of_ble_eq_true rfl, Nat.le_of_ble_eq_true rfl⟩ ⟨by rw [hk], M2, f, rfl, dj.off mO_at, fun h => absurd (hk.symm.trans h) (by decide), fun _ => hcs⟩
  · obtain ⟨M2, ⟨hk, rfl, hcs⟩, dj, rfl⟩ := hp
    refine b_bool_eq (tgt := 14) (b := goodS F (ix m0)) X dL_stands_7 (by decide) (fun hb => ?_) (fun hb => ?_)
    · refine lv_lconst (v := 0) X.1 X.2.1 dL_stands_14 rfl ?_
      refine mg_last X hM dL_stands_15 (mJ_r dj mO_at) (vp_in_nI (by decide) (by decide)) (fun H locs hM => ?_)
      rw [mO_put (dj.off mO_at)] at hM
      refine lv_goto (tgt := 22) X.1 X.2.1 dL_stands_16 (by decide) ?_
      refine lv_iconst (v := nI 0) X.1 X.2.1 dL_stands_22 (by decide) ?_
      exact m_iret X hr hlocks hM dL_stands_23 ⟨Nat.le_of_ble_eq_true rfl, Nat.le_of_ble_eq_true rfl⟩ ⟨by rw [hk], M2, _, rfl, dj.off mO_at, fun _ => ⟨hcs, (mO_val _ _).trans (by rw [hb]; rfl)⟩, fun h => absurd hk h⟩
    · refine lv_lconst (v := 1) X.1 X.2.1 dL_stands_10 rfl ?_
      refine lv_goto (tgt := 15) X.1 X.2.1 dL_stands_11 (by decide) ?_
      refine mg_last X hM dL_stands_15 (mJ_r dj mO_at) (vp_in_nI (by decide) (by decide)) (fun H locs hM => ?_)
      rw [mO_put (dj.off mO_at)] at hM
      refine lv_goto (tgt := 22) X.1 X.2.1 dL_stands_16 (by decide) ?_
      refine lv_iconst (v := nI 0) X.1 X.2.1 dL_stands_22 (by decide) ?_
      exact m_iret X hr hlocks hM dL_stands_23 ⟨Nat.le_of_ble_eq_true rfl, Nat.le_of_ble_eq_true rfl⟩ ⟨by rw [hk], M2, _, rfl, dj.off mO_at, fun _ => ⟨hcs, (mO_val _ _).trans (by rw [hb]; rfl)⟩, fun h => absurd hk h⟩
set_option maxHeartbeats 4000000 in
set_option maxRecDepth 100000 in
theorem c_L_ranked (l : Launch) (G : mG) (x o : Nat) (N : Nat → Nat) (F : Nat → Nat → Nat) (B : Nat → Int32) (MC : Mem) (cs : CS G x N F B MC) (ho : MC o = none) (f : Nat → Int64) (m0 : Int32) (m1 : Int32) (m2 : Int32) (hst : l.stackTraces = false) (hI : Iv N F) : lMet l yL_ranked cL_ranked 6 (some FieldType.int) hh_L_ranked ({ frames := 8, cells := 3, slots := 18, locals := 129 } : Room) G [.ref x, .int m0, .int m1, .int m2, .ref o] (mJ MC (mO G o f)) (WPo G x o (kRanked N m0 m1 m2) (nI (vRanked N F (ix m0) (ix m1) (ix m2))).toInt64 (N) (F) (B) N F B) := by
  refine lMet.of (by decide) (Nat.le_of_ble_eq_true rfl) ?_
  intro p e s m args below meth c A ls X hr hlocks hM hl hS hZ hN ht
  have hl : lv_has ls 6 [(0, .ref x), (1, .int m0), (2, .int m1), (3, .int m2), (4, .ref o)] := hl
  obtain ⟨fs, hcx⟩ := cs.cell
  refine lv_aload X.1 X.2.1 dL_ranked_0 (lv_at hl 4 rfl) ?_
  refine lv_iconst (v := nI 0) X.1 X.2.1 dL_ranked_2 (by decide) ?_
  refine lv_aload_n X.1 X.2.1 dL_ranked_3 rfl (lv_at hl 0 rfl) ?_
  refine lv_iload_n X.1 X.2.1 dL_ranked_4 rfl (lv_at hl 1 rfl) ?_
  refine lv_iload_n X.1 X.2.1 dL_ranked_5 rfl (lv_at hl 2 rfl) ?_
  refine lv_iload_n X.1 X.2.1 dL_ranked_6 rfl (lv_at hl 3 rfl) ?_
  refine xm_callV X hM hS hZ ck_L_54 ki_X6_ranked ks_X6_ranked (ci := 7) rfl dL_ranked_7 ((c_X6_ranked l G x N F B MC cs m0 m1 m2 hst hI).fr (mO_dj ho)) (mJ_l hcx) (As := [.int m0, .int m1, .int m2]) rfl hl rfl (Nat.le_of_ble_eq_true rfl) ⟨Nat.le_of_ble_eq_true rfl, Nat.le_of_ble_eq_true rfl⟩ ⟨Nat.le_of_ble_eq_true rfl, Nat.le_of_ble_eq_true rfl⟩ (fun E9 ce q9 M1 H locs hp hM h1 h2 h3 => ?_) (fun r M1 H locs hp hM => ?_)
  · obtain ⟨M2, ⟨hcs, hk⟩, dj, rfl⟩ := hp
    rcases hk with ⟨rfl, hk⟩ | ⟨rfl, hk⟩
    · refine l_catch X ht [] (0, 12, 15, 19) [(0, 12, 19, 21)] rfl (fun z hz => absurd hz List.not_mem_nil) ⟨by decide, by decide⟩ (by decide) kclx_L_19 kca_EIO h1 h2 h3 rfl ?_
      refine lv_astore (lv' := [(5, .ref q9), (0, .ref x), (1, .int m0), (2, .int m1), (3, .int m2), (4, .ref o)]) X.1 X.2.1 dL_ranked_15 hl (by decide) rfl (fun ls hl => ?_)
      refine lv_iconst (v := nI 1) X.1 X.2.1 dL_ranked_17 (by decide) ?_
      exact m_iret X hr hlocks hM dL_ranked_18 ⟨Nat.le_of_ble_eq_true rfl, Nat.le_of_ble_eq_true rfl⟩ ⟨by rw [hk], M2, f, rfl, dj.off mO_at, fun h => absurd (hk.symm.trans h) (by decide), fun _ => hcs⟩
    · refine l_catch X ht [(0, 12, 15, 19)] (0, 12, 19, 21) [] rfl (fun z hz => by rw [List.mem_singleton.mp hz]; exact ⟨by decide, EIO, kclx_L_19, hN.1⟩) ⟨by decide, by decide⟩ (by decide) kclx_L_21 kca_EIA h1 h2 h3 rfl ?_
      refine lv_astore (lv' := [(5, .ref q9), (0, .ref x), (1, .int m0), (2, .int m1), (3, .int m2), (4, .ref o)]) X.1 X.2.1 dL_ranked_19 hl (by decide) rfl (fun ls hl => ?_)
      refine lv_iconst (v := nI 2) X.1 X.2.1 dL_ranked_21 (by decide) ?_
      exact m_iret X hr hlocks hM dL_ranked_22 ⟨Nat.le_of_ble_eq_true rfl, Nat.le_of_ble_eq_true rfl⟩ ⟨by rw [hk], M2, f, rfl, dj.off mO_at, fun h => absurd (hk.symm.trans h) (by decide), fun _ => hcs⟩
  · obtain ⟨M2, ⟨hk, rfl, hcs⟩, dj, rfl⟩ := hp
    refine lv_i2l (v := (nI (vRanked N F (ix m0) (ix m1) (ix m2))).toInt64) X.1 X.2.1 dL_ranked_10 rfl ?_
    refine mg_last X hM dL_ranked_11 (mJ_r dj mO_at) (vp_in_nI (by decide) (by decide)) (fun H locs hM => ?_)
    rw [mO_put (dj.off mO_at)] at hM
    refine lv_goto (tgt := 23) X.1 X.2.1 dL_ranked_12 (by decide) ?_
    refine lv_iconst (v := nI 0) X.1 X.2.1 dL_ranked_23 (by decide) ?_
    exact m_iret X hr hlocks hM dL_ranked_24 ⟨Nat.le_of_ble_eq_true rfl, Nat.le_of_ble_eq_true rfl⟩ ⟨by rw [hk], M2, _, rfl, dj.off mO_at, fun _ => ⟨hcs, mO_val _ _⟩, fun h => absurd hk h⟩
set_option maxHeartbeats 4000000 in
set_option maxRecDepth 100000 in
theorem c_L_skinOf (l : Launch) (G : mG) (x o : Nat) (N : Nat → Nat) (F : Nat → Nat → Nat) (B : Nat → Int32) (MC : Mem) (cs : CS G x N F B MC) (ho : MC o = none) (f : Nat → Int64) (m0 : Int32) (m1 : Int32) (hst : l.stackTraces = false) (hI : Iv N F) (hJ : Jv N F B) : lMet l yL_skinOf cL_skinOf 5 (some FieldType.int) hh_L_skinOf ({ frames := 8, cells := 2, slots := 12, locals := 127 } : Room) G [.ref x, .int m0, .int m1, .ref o] (mJ MC (mO G o f)) (WPo G x o (kSkinOf N m0 m1) (vSkinOf N F (ix m0) (ix m1)).toInt64 (N) (F) (B) N F B) := by
  refine lMet.of (by decide) (Nat.le_of_ble_eq_true rfl) ?_
  intro p e s m args below meth c A ls X hr hlocks hM hl hS hZ hN ht
  have hl : lv_has ls 5 [(0, .ref x), (1, .int m0), (2, .int m1), (3, .ref o)] := hl
  obtain ⟨fs, hcx⟩ := cs.cell
  refine lv_aload_n X.1 X.2.1 dL_skinOf_0 rfl (lv_at hl 3 rfl) ?_
  refine lv_iconst (v := nI 0) X.1 X.2.1 dL_skinOf_1 (by decide) ?_
  refine lv_aload_n X.1 X.2.1 dL_skinOf_2 rfl (lv_at hl 0 rfl) ?_
  refine lv_iload_n X.1 X.2.1 dL_skinOf_3 rfl (lv_at hl 1 rfl) ?_
  refine lv_iload_n X.1 X.2.1 dL_skinOf_4 rfl (lv_at hl 2 rfl) ?_
  refine xm_callV X hM hS hZ ck_L_57 ki_X6_skinOf ks_X6_skinOf (ci := 7) rfl dL_skinOf_5 ((c_X6_skinOf l G x N F B MC cs m0 m1 hst hI hJ).fr (mO_dj ho)) (mJ_l hcx) (As := [.int m0, .int m1]) rfl hl rfl (Nat.le_of_ble_eq_true rfl) ⟨Nat.le_of_ble_eq_true rfl, Nat.le_of_ble_eq_true rfl⟩ ⟨Nat.le_of_ble_eq_true rfl, Nat.le_of_ble_eq_true rfl⟩ (fun E9 ce q9 M1 H locs hp hM h1 h2 h3 => ?_) (fun r M1 H locs hp hM => ?_)
  · obtain ⟨M2, ⟨hcs, hk⟩, dj, rfl⟩ := hp
    rcases hk with ⟨rfl, hk⟩ | ⟨rfl, hk⟩
    · refine l_catch X ht [] (0, 10, 13, 19) [(0, 10, 17, 21)] rfl (fun z hz => absurd hz List.not_mem_nil) ⟨by decide, by decide⟩ (by decide) kclx_L_19 kca_EIO h1 h2 h3 rfl ?_
      refine lv_astore (lv' := [(4, .ref q9), (0, .ref x), (1, .int m0), (2, .int m1), (3, .ref o)]) X.1 X.2.1 dL_skinOf_13 hl (by decide) rfl (fun ls hl => ?_)
      refine lv_iconst (v := nI 1) X.1 X.2.1 dL_skinOf_15 (by decide) ?_
      exact m_iret X hr hlocks hM dL_skinOf_16 ⟨Nat.le_of_ble_eq_true rfl, Nat.le_of_ble_eq_true rfl⟩ ⟨by rw [hk], M2, f, rfl, dj.off mO_at, fun h => absurd (hk.symm.trans h) (by decide), fun _ => hcs⟩
    · refine l_catch X ht [(0, 10, 13, 19)] (0, 10, 17, 21) [] rfl (fun z hz => by rw [List.mem_singleton.mp hz]; exact ⟨by decide, EIO, kclx_L_19, hN.1⟩) ⟨by decide, by decide⟩ (by decide) kclx_L_21 kca_EIA h1 h2 h3 rfl ?_
      refine lv_astore (lv' := [(4, .ref q9), (0, .ref x), (1, .int m0), (2, .int m1), (3, .ref o)]) X.1 X.2.1 dL_skinOf_17 hl (by decide) rfl (fun ls hl => ?_)
      refine lv_iconst (v := nI 2) X.1 X.2.1 dL_skinOf_19 (by decide) ?_
      exact m_iret X hr hlocks hM dL_skinOf_20 ⟨Nat.le_of_ble_eq_true rfl, Nat.le_of_ble_eq_true rfl⟩ ⟨by rw [hk], M2, f, rfl, dj.off mO_at, fun h => absurd (hk.symm.trans h) (by decide), fun _ => hcs⟩
  · obtain ⟨M2, ⟨hk, rfl, hcs⟩, dj, rfl⟩ := hp
    refine lv_i2l (v := (vSkinOf N F (ix m0) (ix m1)).toInt64) X.1 X.2.1 dL_skinOf_8 rfl ?_
    refine mg_last X hM dL_skinOf_9 (mJ_r dj mO_at) (vp_in_nI (by decide) (by decide)) (fun H locs hM => ?_)
    rw [mO_put (dj.off mO_at)] at hM
    refine lv_goto (tgt := 21) X.1 X.2.1 dL_skinOf_10 (by decide) ?_
    refine lv_iconst (v := nI 0) X.1 X.2.1 dL_skinOf_21 (by decide) ?_
    exact m_iret X hr hlocks hM dL_skinOf_22 ⟨Nat.le_of_ble_eq_true rfl, Nat.le_of_ble_eq_true rfl⟩ ⟨by rw [hk], M2, _, rfl, dj.off mO_at, fun _ => ⟨hcs, mO_val _ _⟩, fun h => absurd hk h⟩
set_option maxHeartbeats 4000000 in
set_option maxRecDepth 100000 in
theorem c_L_money (l : Launch) (G : mG) (x o : Nat) (N : Nat → Nat) (F : Nat → Nat → Nat) (B : Nat → Int32) (MC : Mem) (cs : CS G x N F B MC) (ho : MC o = none) (f : Nat → Int64) (m0 : Int32) (hst : l.stackTraces = false) (hI : Iv N F) : lMet l yL_money cL_money 4 (some FieldType.int) hh_L_money ({ frames := 8, cells := 1, slots := 6, locals := 125 } : Room) G [.ref x, .int m0, .ref o] (mJ MC (mO G o f)) (WPo G x o (kOne (iR m0 (N 1))) (B (ix m0)).toInt64 (N) (F) (B) N F B) := by
  refine lMet.of (by decide) (Nat.le_of_ble_eq_true rfl) ?_
  intro p e s m args below meth c A ls X hr hlocks hM hl hS hZ hN ht
  have hl : lv_has ls 4 [(0, .ref x), (1, .int m0), (2, .ref o)] := hl
  obtain ⟨fs, hcx⟩ := cs.cell
  refine lv_aload_n X.1 X.2.1 dL_money_0 rfl (lv_at hl 2 rfl) ?_
  refine lv_iconst (v := nI 0) X.1 X.2.1 dL_money_1 (by decide) ?_
  refine lv_aload_n X.1 X.2.1 dL_money_2 rfl (lv_at hl 0 rfl) ?_
  refine lv_iload_n X.1 X.2.1 dL_money_3 rfl (lv_at hl 1 rfl) ?_
  refine xm_callV X hM hS hZ ck_L_60 ki_X6_money ks_X6_money (ci := 7) rfl dL_money_4 ((c_X6_money l G x N F B MC cs m0 hst hI).fr (mO_dj ho)) (mJ_l hcx) (As := [.int m0]) rfl hl rfl (Nat.le_of_ble_eq_true rfl) ⟨Nat.le_of_ble_eq_true rfl, Nat.le_of_ble_eq_true rfl⟩ ⟨Nat.le_of_ble_eq_true rfl, Nat.le_of_ble_eq_true rfl⟩ (fun E9 ce q9 M1 H locs hp hM h1 h2 h3 => ?_) (fun r M1 H locs hp hM => ?_)
  · obtain ⟨M2, ⟨hcs, hk⟩, dj, rfl⟩ := hp
    obtain ⟨rfl, hk⟩ := hk
    refine l_catch X ht [] (0, 9, 12, 19) [] rfl (fun z hz => absurd hz List.not_mem_nil) ⟨by decide, by decide⟩ (by decide) kclx_L_19 kca_EIO h1 h2 h3 rfl ?_
    refine lv_astore_n (lv' := [(3, .ref q9), (0, .ref x), (1, .int m0), (2, .ref o)]) X.1 X.2.1 dL_money_12 rfl hl (by decide) rfl (fun ls hl => ?_)
    refine lv_iconst (v := nI 1) X.1 X.2.1 dL_money_13 (by decide) ?_
    exact m_iret X hr hlocks hM dL_money_14 ⟨Nat.le_of_ble_eq_true rfl, Nat.le_of_ble_eq_true rfl⟩ ⟨by rw [hk], M2, f, rfl, dj.off mO_at, fun h => absurd (hk.symm.trans h) (by decide), fun _ => hcs⟩
  · obtain ⟨M2, ⟨hk, rfl, hcs⟩, dj, rfl⟩ := hp
    refine lv_i2l (v := (B (ix m0)).toInt64) X.1 X.2.1 dL_money_7 rfl ?_
    refine mg_last X hM dL_money_8 (mJ_r dj mO_at) (vp_in_nI (by decide) (by decide)) (fun H locs hM => ?_)
    rw [mO_put (dj.off mO_at)] at hM
    refine lv_goto (tgt := 15) X.1 X.2.1 dL_money_9 (by decide) ?_
    refine lv_iconst (v := nI 0) X.1 X.2.1 dL_money_15 (by decide) ?_
    exact m_iret X hr hlocks hM dL_money_16 ⟨Nat.le_of_ble_eq_true rfl, Nat.le_of_ble_eq_true rfl⟩ ⟨by rw [hk], M2, _, rfl, dj.off mO_at, fun _ => ⟨hcs, mO_val _ _⟩, fun h => absurd hk h⟩
set_option maxHeartbeats 4000000 in
set_option maxRecDepth 100000 in
theorem c_L_label (l : Launch) (G : mG) (x o : Nat) (N : Nat → Nat) (F : Nat → Nat → Nat) (B : Nat → Int32) (MC : Mem) (cs : CS G x N F B MC) (ho : MC o = none) (f : Nat → Int64) (m0 : Int32) (m1 : Int32) (hst : l.stackTraces = false) (hI : Iv N F) : lMet l yL_label cL_label 5 (some FieldType.int) hh_L_label ({ frames := 8, cells := 3, slots := 26, locals := 128 } : Room) G [.ref x, .int m0, .int m1, .ref o] (mJ MC (mO G o f)) (WPo G x o (kLabel N m0 m1) (vLabel F (ix m0) (ix m1)).toInt64 (N) (F) (B) N F B) := by
  refine lMet.of (by decide) (Nat.le_of_ble_eq_true rfl) ?_
  intro p e s m args below meth c A ls X hr hlocks hM hl hS hZ hN ht
  have hl : lv_has ls 5 [(0, .ref x), (1, .int m0), (2, .int m1), (3, .ref o)] := hl
  obtain ⟨fs, hcx⟩ := cs.cell
  refine lv_aload_n X.1 X.2.1 dL_label_0 rfl (lv_at hl 3 rfl) ?_
  refine lv_iconst (v := nI 0) X.1 X.2.1 dL_label_1 (by decide) ?_
  refine lv_aload_n X.1 X.2.1 dL_label_2 rfl (lv_at hl 0 rfl) ?_
  refine lv_iload_n X.1 X.2.1 dL_label_3 rfl (lv_at hl 1 rfl) ?_
  refine lv_iload_n X.1 X.2.1 dL_label_4 rfl (lv_at hl 2 rfl) ?_
  refine xm_callV X hM hS hZ ck_L_63 ki_X6_label ks_X6_label (ci := 7) rfl dL_label_5 ((c_X6_label l G x N F B MC cs m0 m1 hst hI).fr (mO_dj ho)) (mJ_l hcx) (As := [.int m0, .int m1]) rfl hl rfl (Nat.le_of_ble_eq_true rfl) ⟨Nat.le_of_ble_eq_true rfl, Nat.le_of_ble_eq_true rfl⟩ ⟨Nat.le_of_ble_eq_true rfl, Nat.le_of_ble_eq_true rfl⟩ (fun E9 ce q9 M1 H locs hp hM h1 h2 h3 => ?_) (fun r M1 H locs hp hM => ?_)
  · obtain ⟨M2, ⟨hcs, hk⟩, dj, rfl⟩ := hp
    obtain ⟨rfl, hk⟩ := hk
    refine l_catch X ht [] (0, 10, 13, 19) [] rfl (fun z hz => absurd hz List.not_mem_nil) ⟨by decide, by decide⟩ (by decide) kclx_L_19 kca_EIO h1 h2 h3 rfl ?_
    refine lv_astore (lv' := [(4, .ref q9), (0, .ref x), (1, .int m0), (2, .int m1), (3, .ref o)]) X.1 X.2.1 dL_label_13 hl (by decide) rfl (fun ls hl => ?_)
    refine lv_iconst (v := nI 1) X.1 X.2.1 dL_label_15 (by decide) ?_
    exact m_iret X hr hlocks hM dL_label_16 ⟨Nat.le_of_ble_eq_true rfl, Nat.le_of_ble_eq_true rfl⟩ ⟨by rw [hk], M2, f, rfl, dj.off mO_at, fun h => absurd (hk.symm.trans h) (by decide), fun _ => hcs⟩
  · obtain ⟨M2, ⟨hk, rfl, hcs⟩, dj, rfl⟩ := hp
    refine lv_i2l (v := (vLabel F (ix m0) (ix m1)).toInt64) X.1 X.2.1 dL_label_8 rfl ?_
    refine mg_last X hM dL_label_9 (mJ_r dj mO_at) (vp_in_nI (by decide) (by decide)) (fun H locs hM => ?_)
    rw [mO_put (dj.off mO_at)] at hM
    refine lv_goto (tgt := 17) X.1 X.2.1 dL_label_10 (by decide) ?_
    refine lv_iconst (v := nI 0) X.1 X.2.1 dL_label_17 (by decide) ?_
    exact m_iret X hr hlocks hM dL_label_18 ⟨Nat.le_of_ble_eq_true rfl, Nat.le_of_ble_eq_true rfl⟩ ⟨by rw [hk], M2, _, rfl, dj.off mO_at, fun _ => ⟨hcs, mO_val _ _⟩, fun h => absurd hk h⟩
