/-! The law, from its entry -/
def mS (a : Nat) (e : va_E) : Mem := mU (fun _ => none) a e
theorem mS_at {a : Nat} {e : va_E} : mS a e a = some e := mU_eq _ _ _
theorem mS_join {M : Mem} {a : Nat} {e : va_E} : mU M a e = mJ (mS a e) M := by
  funext q
  by_cases hq : q = a
  · subst hq
    rw [mU_eq, mJ_l mS_at]
  · rw [mU_ne hq, mJ_n (by unfold mS; rw [mU_ne hq])]
theorem mS_dj {M : Mem} {a : Nat} {e : va_E} (h : M a = none) : mDj (mS a e) M := fun q e9 hq => by
  by_cases hqa : q = a
  · subst hqa; exact h
  · unfold mS at hq; rw [mU_ne hqa] at hq; cases hq
theorem mJ_nn {M0 M1 : Mem} {q : Nat} (h : mJ M0 M1 q = none) : M0 q = none ∧ M1 q = none := by
  cases h0 : M0 q with
  | none => rw [mJ_n h0] at h; exact ⟨rfl, h⟩
  | some e => rw [mJ_l h0] at h; cases h
/-- three worlds: the class's, the reference's, the row of the answer -/
theorem mJ_three {G : mG} {MC MR : Mem} {o : Nat} {f : Nat → Int64} (d : mDj MR MC) (h : mJ MR MC o = none) : mU (mJ MR MC) o (.inl (G.2 1, 1, .inr (.inl f))) = mJ (mJ MC (mO G o f)) MR ∧ mDj (mJ MC (mO G o f)) MR ∧ MC o = none := by
  obtain ⟨h1, h2⟩ := mJ_nn h
  have dj : mDj (mJ MC (mO G o f)) MR := fun q e hq => by
    rcases mJ_or hq with h3 | ⟨-, h3⟩
    · exact d.sym q e h3
    · unfold mO at h3
      split at h3
      · rename_i hqo; subst hqo; exact h1
      · cases h3
  refine ⟨?_, dj, h2⟩
  funext q
  by_cases hq : q = o
  · subst hq
    rw [mU_eq, mJ_l (mJ_r (mO_dj h2) mO_at)]
  · rw [mU_ne hq, mJ_comm d]
    cases h3 : MC q with
    | some e => rw [mJ_l h3, mJ_l (mJ_l h3)]
    | none =>
      rw [mJ_n h3, mJ_n (mJ_none h3 (by simp [mO, hq]))]
theorem fl_st {l : Launch} (h : l.flags = flags0) : l.stackTraces = false := by
  unfold Launch.stackTraces
  rw [h]
  decide +kernel
set_option maxHeartbeats 4000000 in
set_option maxRecDepth 100000 in
theorem whole_start {p : Program} {e : Env} {s : State} {m : MethodId} {below : List Frame} {meth : Method} {c : Code} (l : Launch) (hflags : l.flags = flags0) {b L : Nat} {xs : Nat → Int32} (hL : L ≤ 2048) (C0 : lw_At p s m meth c b L xs) : W p l e room_1 s m #[Value.ref b] below meth c s.heap [] 0 0 (lw_Z below #[Value.ref b] s) (entryFrame m ([Value.ref b] : List Value).toArray 7) := by
  have hst : l.stackTraces = false := fl_st hflags
  obtain ⟨hx, hb, hr, hml, hown, hts, hX, hbl, hlocks, hgv⟩ := id C0
  have hKT : KT s := KT.of hts
  obtain ⟨G, hK⟩ := mK_of (hKT.ws (args := #[Value.ref b]))
  have X : Cx p c s m cL_law RL 7 G := ⟨hx, hb, hml, hown, hKT, hK⟩
  have hS := XS_of hts
  have hZ : XZ G (lA s) s s.heap := XZ_of hts hgv (fun a h => Nat.not_le.mpr h)
  have hN := NC_of hgv
  have hM : mW G (lA s) s.heap (fun _ => none) s.heap [] := ⟨fun a e h => (by cases h), fun a e h => (by cases h), va_S.rf, fun q h => h⟩
  have hl := lv_entry ([.ref b]) (n := 7) (Nat.le_of_ble_eq_true rfl)
  rw [lg_entry_eq]
  generalize (lg_sl ([.ref b]) ++ List.replicate (7 - (lg_sl ([.ref b])).length) Slot.unset).toArray = ls at hl ⊢
  have hl : lv_has ls 7 [(0, .ref b)] := hl
  refine mg_new X hM (ci := 7) tyX6 tyX6_ok rfl kwX6 kcl_L_8 kinst_X6 kini_X6 (fs := [.null, .null, .null, .null, .null, .int 0, .int 0, .int 0, .int 0, .null]) (by decide) dL_law_0 (Nat.le_of_ble_eq_true rfl) (Nat.le_of_ble_eq_true rfl) (fun x H hn hM => ?_)
  refine lv_dup X.1 X.2.1 dL_law_3 rfl ?_
  refine m_callI X hM ck_L_67 ki_X6_init rfl dL_law_4 (c_X6_init l G _ x (mU_eq _ _ _)) (As := []) rfl hl rfl (Nat.le_of_ble_eq_true rfl) ⟨Nat.le_of_ble_eq_true rfl, Nat.le_of_ble_eq_true rfl⟩ ⟨Nat.le_of_ble_eq_true rfl, Nat.le_of_ble_eq_true rfl⟩ (fun r MC H locs hp hM => ?_)
  obtain ⟨rfl, hcs⟩ := hp
  refine lv_astore_n (lv' := [(1, .ref x), (0, .ref b)]) X.1 X.2.1 dL_law_7 rfl hl (by decide) rfl (fun ls hl => ?_)
  refine mg_new X hM (ci := 8) tyX7 tyX7_ok rfl kwX7 kcl_L_68 kinst_X7 kini_X7 (fs := [.int (0), .int (0), .null, .null, .null, .null, .int (0), .null, .null, .null, .null, .null, .int (0), .int (0), .null, .null, .null, .null, .null, .null, .null, .null, .null, .null, .null, .null, .null, .null, .int (0), .int (0)]) (by decide) dL_law_8 (Nat.le_of_ble_eq_true rfl) (Nat.le_of_ble_eq_true rfl) (fun y H hn hM => ?_)
  rw [mS_join] at hM
  refine lv_dup X.1 X.2.1 dL_law_11 rfl ?_
  refine m_callI X hM ck_L_70 ki_X7_init rfl dL_law_12 ((c_X7_init l G _ y mS_at).fr (mS_dj hn)) (As := []) rfl hl rfl (Nat.le_of_ble_eq_true rfl) ⟨Nat.le_of_ble_eq_true rfl, Nat.le_of_ble_eq_true rfl⟩ ⟨Nat.le_of_ble_eq_true rfl, Nat.le_of_ble_eq_true rfl⟩ (fun r M1 H locs hp hM => ?_)
  obtain ⟨MR, ⟨rfl, ar, hrm⟩, dj, rfl⟩ := hp
  refine lv_astore_n (lv' := [(2, .ref y), (1, .ref x), (0, .ref b)]) X.1 X.2.1 dL_law_15 rfl hl (by decide) rfl (fun ls hl => ?_)
  refine lv_iconst (v := nI 1) X.1 X.2.1 dL_law_16 (by decide) ?_
  refine mg_newa (ty := .long) (N' := 1) (a0 := (1, .inr (.inl (fun _ => 0)))) X hM 1 (fun _ h => h) rfl rfl kac_long (vp_cell_l _ _ _) (by decide) (nI_clamp (by decide)) (by decide) dL_law_17 (Nat.le_of_ble_eq_true rfl) (Nat.le_of_ble_eq_true rfl) (fun o H hn hM => ?_)
  obtain ⟨e1, dj2, ho⟩ := mJ_three (G := G) (f := fun _ => 0) dj hn
  rw [e1] at hM
  refine lv_astore_n (lv' := [(3, .ref o), (2, .ref y), (1, .ref x), (0, .ref b)]) X.1 X.2.1 dL_law_19 rfl hl (by decide) rfl (fun ls hl => ?_)
  refine lv_iconst (v := nI 0) X.1 X.2.1 dL_law_20 (by decide) ?_
  refine lv_istore (lv' := [(4, .int (nI 0)), (3, .ref o), (2, .ref y), (1, .ref x), (0, .ref b)]) X.1 X.2.1 dL_law_21 hl (by decide) rfl (fun ls hl => ?_)
  refine W.widen (k := 100 + 16 * 0) (n := 4000 + 200 * 0) (Nat.le_of_ble_eq_true rfl) (Nat.le_of_ble_eq_true rfl) ?_
  exact law_loop C0 hL X hS hZ hN hst 513 0 (by decide) (Nat.zero_le _) _ _ _ _ ⟨N0i, F0i, B0i, MC, MR, fun _ => 0, rfl, dj2, ho, hcs, hrm, IvJv0.1, IvJv0.2, Nat.le_refl 0⟩ hM (lv_sub hl [0, 4, 3, 2, 1] rfl)
