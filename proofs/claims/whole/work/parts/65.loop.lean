/-! THE CLAIM OUT OF ONE WALK OF THE LAW'S BODY. Your part is whole_start (and what it stands on); all else here is the same for every law, but numbers. -/
def R_law : String := "SkinLeagueLaw"
def lw_P (b : Addr) (xs : List Int32) (args : Array Value) (s : State) : Prop := args = #[.ref b] ∧ s.IntsAt b xs ∧ xs.length ≤ 2048 ∧ (Jvm.Cond.and given_1 narrow_1).before args s = true
def lw_Q (_ : Array Value) (s : State) (o : Outcome) (t : State) : Prop := o = .returned (some (.int 1)) ∧ Framed s o t [] 601024 7293034
def lw_Z (below : List Frame) (a : Array Value) (s : State) : State → Prop := fun t => ∃ o, t.status = .running ∧ Ended t below o ∧ lw_Q a s o t
/-- the law's own end, with 1 on the stack, nothing written that was there before, its room as the claim has it -/
theorem lw_ret {p : Program} {l : Launch} {e : Env} {s : State} {m : MethodId} {below : List Frame} {meth : Method} {c : Code} {b : Nat} (hx : p.tables.exec = Jvm.exec) (hb : c.code = code) (hr : meth.sig.returnType = ret) (hlocks : meth.locks = false) {pc : Nat} {H : Heap} {ls : Array Slot} (hdg : decode code pc = .ok (.ireturn, 1)) : W p l e room_1 s m #[Value.ref b] below meth c H [] 601024 7293034 (lw_Z below #[Value.ref b] s) (F0 m pc ls [.int 1]) := by
  intro T hT X
  obtain ⟨fs, hret, hrun, hended, hW, hframe⟩ := X.leave (v := some (.int 1)) (hlocks := hlocks) (fun h => by rw [hr] at h; cases h)
  have hmeth' : T.vm.method? m = some meth := X.method'
  refine ⟨T.setFrames fs, ?_, .returned (some (.int 1)), hrun, hended, rfl, ⟨_, rfl⟩, hW, hframe⟩
  jvm_step X.here [X.here.top, hx, hb, hdg, hmeth', hr, ret, narrow_b1]
  (try refine ⟨rfl, ?_⟩); (try refine ⟨rfl, ?_⟩)
  first | (intro acts; rw [hret _ acts rfl rfl rfl]) | rw [hret _ _ rfl rfl rfl]
  exact Steps.refl _
/-- what holds at the law's entry: the machine, the code, the tables' words (any of lw_tbl by 'hts w (by decide +kernel)'), the script of L ints xs at the cell b, what the Statement gives of the start (any of its parts by flat_of_before) -/
def lw_At (p : Program) (s : State) (m : MethodId) (meth : Method) (c : Code) (b L : Nat) (xs : Nat → Int32) : Prop :=
  p.tables.exec = Jvm.exec ∧ c.code = code ∧ meth.sig.returnType = ret ∧ c.maxLocals = 7 ∧ s.vm.findClass R_law = some m.cls ∧ (∀ w ∈ lw_tbl, w.before #[Value.ref b] s = true) ∧ va_X b L xs s s.heap ∧ b < s.heap.size ∧ meth.locks = false ∧ (Jvm.Cond.and given_1 narrow_1).before #[Value.ref b] s = true
theorem LwS.more {G : mG} {x y o : Nat} {ar : Nat → Nat} {j : Nat} {M : Mem} (h : LwS G x y o ar j M) : LwS G x y o ar (j + 1) M := by
  obtain ⟨N, F, B, MC, MR, f, h1, h2, h3, h4, h5, h6⟩ := h
  exact ⟨N, F, B, MC, MR, f, h1, h2, h3, h4, h5, h6.more⟩
set_option maxHeartbeats 4000000 in
set_option maxRecDepth 100000 in
/-- the law's loop -/
theorem law_loop {p : Program} {l : Launch} {e : Env} {s : State} {m : MethodId} {below : List Frame} {meth : Method} {c : Code} {G : mG} {b L x y o : Nat} {xs : Nat → Int32} {ar : Nat → Nat} (C0 : lw_At p s m meth c b L xs) (hL2 : L ≤ 2048) (X : Cx p c s m cL_law RL 7 G) (hS : XS s) (hZ : XZ G (lA s) s s.heap) (hN : NC s) (hst : l.stackTraces = false) :
    ∀ (n j : Nat), 513 ≤ n + j → 4 * j ≤ L → ∀ (M : Mem) (H : Heap) (locs : List Loc) (ls : Array Slot), LwS G x y o ar j M → mW G (lA s) s.heap M H locs → lv_has ls 7 [(4, .int (nI (4 * j))), (0, .ref b), (1, .ref x), (2, .ref y), (3, .ref o)] → W p l e room_1 s m #[Value.ref b] below meth c H locs (100 + 16 * j) (4000 + 200 * j) (lw_Z below #[Value.ref b] s) (F0 m 23 ls []) := by
  have hX : va_X b L xs s s.heap := C0.2.2.2.2.2.2.1
  have hbl : b < s.heap.size := C0.2.2.2.2.2.2.2.1
  have hbA : ¬ lA s b := Nat.not_le.mpr hbl
  intro n
  induction n with
  | zero => intro j h1 h2; exact absurd h1 (by omega)
  | succ n ih =>
    intro j h1 h2 M H locs ls hLS hM hl
    refine lv_iload X.1 X.2.1 dL_law_23 (lv_at hl 0 rfl) ?_
    refine lv_aload_n X.1 X.2.1 dL_law_25 rfl (lv_at hl 1 rfl) ?_
    refine va_slen X.1 X.2.1 hX hbl hbA hM.2.2.1 dL_law_26 ?_
    refine lv_iconst (v := nI 4) X.1 X.2.1 dL_law_27 (by decide) ?_
    refine lv_isub X.1 X.2.1 dL_law_28 ?_
    refine b_icmp_gt (tgt := 1104) X dL_law_29 (by decide) (a := ((4 * j : Nat) : Int)) (b := ((L : Nat) : Int) - ((4 : Nat) : Int)) (nI_ti (by omega)) (pk_sub_toInt (by omega) (by omega)) (fun hc => ?_) (fun hc => ?_)
    · refine va_forget (fun q hq => hM.2.2.1.2.2 q hq) ?_
      refine W.widen (k := 601024) (n := 7293034) (by omega) (by omega) ?_
      refine lv_iconst (v := 1) X.1 X.2.1 dL_law_1104 (by decide) ?_
      exact lw_ret X.1 X.2.1 C0.2.2.1 C0.2.2.2.2.2.2.2.2.1 dL_law_1105
    · have hjL : 4 * j + 4 ≤ L := by omega
      have K : ∀ (M1 : Mem) (H1 : Heap) (locs1 : List Loc) (ls1 : Array Slot), LwS G x y o ar (j + 1) M1 → mW G (lA s) s.heap M1 H1 locs1 → lv_has ls1 7 [(4, .int (nI (4 * j))), (0, .ref b), (1, .ref x), (2, .ref y), (3, .ref o)] → W p l e room_1 s m #[Value.ref b] below meth c H1 locs1 (100 + 16 * (j + 1)) (4000 + 200 * (j + 1)) (lw_Z below #[Value.ref b] s) (F0 m 1098 ls1 []) := by
        intro M1 H1 locs1 ls1 hLS hM hl
        refine lv_iinc (v := nI (4 * (j + 1))) (lv' := [(4, .int (nI (4 * (j + 1)))), (0, .ref b), (1, .ref x), (2, .ref y), (3, .ref o)]) X.1 X.2.1 dL_law_1098 hl (k := 0) rfl (by rw [show 4 * (j + 1) = 4 * j + 4 by omega]; exact nI_add (4 * j) 4) (by decide) rfl (fun ls hl => ?_)
        refine lv_goto (tgt := 23) X.1 X.2.1 dL_law_1101 (by decide) ?_
        exact ih (j + 1) (by omega) (by omega) M1 H1 locs1 ls hLS hM hl
      refine lv_aload_n X.1 X.2.1 dL_law_32 rfl (lv_at hl 1 rfl) ?_
      refine lv_iload X.1 X.2.1 dL_law_33 (lv_at hl 0 rfl) ?_
      refine va_sld X.1 X.2.1 hX hbl hbA hM.2.2.1 (vp_in_nI (by omega) (by omega)) dL_law_35 ?_
      refine lv_bipush (v := nI 15) X.1 X.2.1 dL_law_36 (by decide) ?_
      refine lv_iand X.1 X.2.1 dL_law_38 ?_
      refine lv_topi (fun v hv => ?_)
      by_cases ho : v.toInt < 0 ∨ 14 < v.toInt
      · refine lv_tableOut (tgt := 1098) X.1 X.2.1 dL_law_39 ho (by decide) ?_
        refine W.widen (k := 100 + 16 * (j + 1)) (n := 4000 + 200 * (j + 1)) (by omega) (by omega) ?_
        exact K M H locs ls hLS.more hM hl
      · rcases (show v.toInt = 0 ∨ v.toInt = 1 ∨ v.toInt = 2 ∨ v.toInt = 3 ∨ v.toInt = 4 ∨ v.toInt = 5 ∨ v.toInt = 6 ∨ v.toInt = 7 ∨ v.toInt = 8 ∨ v.toInt = 9 ∨ v.toInt = 10 ∨ v.toInt = 11 ∨ v.toInt = 12 ∨ v.toInt = 13 ∨ v.toInt = 14 by omega) with h | h | h | h | h | h | h | h | h | h | h | h | h | h | h
        · refine lv_tableIn (off := 73) (tgt := 112) X.1 X.2.1 dL_law_39 (by omega) (by omega) (by rw [h]; rfl) (by decide) ?_
          exact law_player X hM hLS hS hZ hN hst hX hbl hbA hl hjL hL2 K
        · refine lv_tableIn (off := 117) (tgt := 156) X.1 X.2.1 dL_law_39 (by omega) (by omega) (by rw [h]; rfl) (by decide) ?_
          exact law_room X hM hLS hS hZ hN hst hX hbl hbA hl hjL hL2 K
        · refine lv_tableIn (off := 185) (tgt := 224) X.1 X.2.1 dL_law_39 (by omega) (by omega) (by rw [h]; rfl) (by decide) ?_
          exact law_match X hM hLS hS hZ hN hst hX hbl hbA hl hjL hL2 K
        · refine lv_tableIn (off := 265) (tgt := 304) X.1 X.2.1 dL_law_39 (by omega) (by omega) (by rw [h]; rfl) (by decide) ?_
          exact law_end X hM hLS hS hZ hN hst hX hbl hbA hl hjL hL2 K
        · refine lv_tableIn (off := 309) (tgt := 348) X.1 X.2.1 dL_law_39 (by omega) (by omega) (by rw [h]; rfl) (by decide) ?_
          exact law_sell X hM hLS hS hZ hN hst hX hbl hbA hl hjL hL2 K
        · refine lv_tableIn (off := 396) (tgt := 435) X.1 X.2.1 dL_law_39 (by omega) (by omega) (by rw [h]; rfl) (by decide) ?_
          exact law_lend X hM hLS hS hZ hN hst hX hbl hbA hl hjL hL2 K
        · refine lv_tableIn (off := 476) (tgt := 515) X.1 X.2.1 dL_law_39 (by omega) (by omega) (by rw [h]; rfl) (by decide) ?_
          exact law_proof X hM hLS hS hZ hN hst hX hbl hbA hl hjL hL2 K
        · refine lv_tableIn (off := 544) (tgt := 583) X.1 X.2.1 dL_law_39 (by omega) (by omega) (by rw [h]; rfl) (by decide) ?_
          exact law_clear X hM hLS hS hZ hN hst hX hbl hbA hl hjL hL2 K
        · refine lv_tableIn (off := 600) (tgt := 639) X.1 X.2.1 dL_law_39 (by omega) (by omega) (by rw [h]; rfl) (by decide) ?_
          exact law_ban X hM hLS hS hZ hN hst hX hbl hbA hl hjL hL2 K
        · refine lv_tableIn (off := 668) (tgt := 707) X.1 X.2.1 dL_law_39 (by omega) (by omega) (by rw [h]; rfl) (by decide) ?_
          exact law_pass X hM hLS hS hZ hN hst hX hbl hbA hl hjL hL2 K
        · refine lv_tableIn (off := 724) (tgt := 763) X.1 X.2.1 dL_law_39 (by omega) (by omega) (by rw [h]; rfl) (by decide) ?_
          exact law_stands X hM hLS hS hZ hN hst hX hbl hbA hl hjL hL2 K
        · refine lv_tableIn (off := 787) (tgt := 826) X.1 X.2.1 dL_law_39 (by omega) (by omega) (by rw [h]; rfl) (by decide) ?_
          exact law_ranked X hM hLS hS hZ hN hst hX hbl hbA hl hjL hL2 K
        · refine lv_tableIn (off := 867) (tgt := 906) X.1 X.2.1 dL_law_39 (by omega) (by omega) (by rw [h]; rfl) (by decide) ?_
          exact law_skinOf X hM hLS hS hZ hN hst hX hbl hbA hl hjL hL2 K
        · refine lv_tableIn (off := 935) (tgt := 974) X.1 X.2.1 dL_law_39 (by omega) (by omega) (by rw [h]; rfl) (by decide) ?_
          exact law_money X hM hLS hS hZ hN hst hX hbl hbA hl hjL hL2 K
        · refine lv_tableIn (off := 991) (tgt := 1030) X.1 X.2.1 dL_law_39 (by omega) (by omega) (by rw [h]; rfl) (by decide) ?_
          exact law_label X hM hLS hS hZ hN hst hX hbl hbA hl hjL hL2 K
