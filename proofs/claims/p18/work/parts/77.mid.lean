/-! THE CLAIM OUT OF ONE WALK OF THE LAW'S BODY. Your part is whole_start (and what it stands on); all else here is the same for every law, but numbers. -/
def R_law : String := "SkinLeagueLaw"
def lw_P (b : Addr) (xs : List Int32) (args : Array Value) (s : State) : Prop := args = #[.ref b] ∧ s.IntsAt b xs ∧ xs.length ≤ 260 ∧ (Jvm.Cond.and given_1 narrow_1).before args s = true
def lw_Q (_ : Array Value) (s : State) (o : Outcome) (t : State) : Prop := o = .returned (some (.int 1)) ∧ Framed s o t [] 733361 6901384
def lw_Z (below : List Frame) (a : Array Value) (s : State) : State → Prop := fun t => ∃ o, t.status = .running ∧ Ended t below o ∧ lw_Q a s o t
/-- the law's own end, with 1 on the stack, nothing written that was there before, its room as the claim has it -/
theorem lw_ret {p : Program} {l : Launch} {e : Env} {s : State} {m : MethodId} {below : List Frame} {meth : Method} {c : Code} {b : Nat} (hx : p.tables.exec = Jvm.exec) (hb : c.code = code) (hr : meth.sig.returnType = ret) (hlocks : meth.locks = false) {pc : Nat} {H : Heap} {ls : Array Slot} (hdg : decode code pc = .ok (.ireturn, 1)) : W p l e room_1 s m #[Value.ref b] below meth c H [] 733361 6901384 (lw_Z below #[Value.ref b] s) (F0 m pc ls [.int 1]) := by
  intro T hT X
  obtain ⟨fs, hret, hrun, hended, hW, hframe⟩ := X.leave (v := some (.int 1)) (hlocks := hlocks) (fun h => by rw [hr] at h; cases h)
  have hmeth' : T.vm.method? m = some meth := X.method'
  refine ⟨T.setFrames fs, ?_, .returned (some (.int 1)), hrun, hended, rfl, ⟨_, rfl⟩, hW, hframe⟩
  jvm_step X.here [X.here.top, hx, hb, hdg, hmeth', hr, ret, narrow_b1]
  (try refine ⟨rfl, ?_⟩); (try refine ⟨rfl, ?_⟩)
  first | (intro acts; rw [hret _ acts rfl rfl rfl]) | rw [hret _ _ rfl rfl rfl]
  exact Steps.refl _
/-- what holds at the law's entry: the machine, the code, the tables' words (any of lw_tbl by 'hts w (by decide +kernel)'), the script of L ints xs at the cell b, what the Statement gives of the start (any of its parts by flat_of_before) -/
def lw_At (p : Program) (s : State) (m : MethodId) (meth : Method) (c : Code) (b L : Nat) (xs : Nat → Int32) : Prop :=
  p.tables.exec = Jvm.exec ∧ c.code = code ∧ meth.sig.returnType = ret ∧ c.maxLocals = 23 ∧ s.vm.findClass R_law = some m.cls ∧ (∀ w ∈ lw_tbl, w.before #[Value.ref b] s = true) ∧ va_X b L xs s s.heap ∧ b < s.heap.size ∧ meth.locks = false ∧ (Jvm.Cond.and given_1 narrow_1).before #[Value.ref b] s = true
def lA (s : State) : Nat → Prop := fun q => s.heap.size ≤ q
/-! the script's part: a number below n -/
def pPre (G : mG) (A : Nat → Prop) (sz : Nat) (av : List Value) (M : Mem) (b L : Nat) (xs : Nat → Int32) : Array Value → State → Prop := fun a U => lPre G A sz av M a U ∧ va_X b L xs U U.heap ∧ b < U.heap.size ∧ ¬ A b
theorem pPre.blind {G : mG} {A : Nat → Prop} {sz : Nat} {av : List Value} {M : Mem} {b L : Nat} {xs : Nat → Int32} : FrameBlind (pPre G A sz av M b L xs) := by
  intro a U g mk h
  exact ⟨lPre.blind a U g mk h.1, va_X.moved (u := U) (U := U.calling g mk a) (Vm.Alike.refl U.vm) h.2.1, h.2.2⟩
set_option maxHeartbeats 4000000 in
set_option maxRecDepth 100000 in
theorem c_L_part (l : Launch) (G : mG) (M : Mem) (A : Nat → Prop) (sz b L : Nat) (xs : Nat → Int32) (k n : Nat) (hL : L ≤ 260) (hk : k < 1000) (hn : 0 < n) (hn2 : n < 100000) : Met l yL_part [.code yL_part cL_part 4 (some FieldType.int)] ({ frames := 0, cells := 0, slots := 0, locals := 0 } : Room) (pPre G A sz [.ref b, .int (nI k), .int (nI n)] M b L xs) (mQ G A (fun r M' => M' = M ∧ ∃ q, q < n ∧ r = some (.int (nI q)))) 0 0 A := by
  refine Met.ofW (cc := cL_part) (maxL := 4) (ret := some FieldType.int) (ws' := []) (by decide) rfl ?_
  intro p e s m args below meth c s₁ B9 hml hv
  obtain ⟨⟨⟨⟨rfl, hsz, h3, h4, h5, h6, h7⟩, hS, hZ⟩, hN⟩, hX, hbl, hbA⟩ := hv
  rw [lg_entry_eq]
  have X : Cx p c s m cL_part RL 4 G := ⟨B9.exec, B9.bytes, hml, findClass_of_methodNamed B9.named, h3, h4⟩
  have hr := B9.returns
  have hlocks := B9.notSynchronized
  have hM : mW G A s.heap M s.heap [] := ⟨h5, h6, va_S.rf, fun q hq => h7 q (by rw [← hsz]; exact hq)⟩
  have hl := lv_entry ([.ref b, .int (nI k), .int (nI n)]) (n := 4) (Nat.le_of_ble_eq_true rfl)
  generalize (lg_sl ([.ref b, .int (nI k), .int (nI n)]) ++ List.replicate (4 - (lg_sl ([.ref b, .int (nI k), .int (nI n)])).length) Slot.unset).toArray = ls at hl ⊢
  have hl : lv_has ls 4 [(0, .ref b), (1, .int (nI k)), (2, .int (nI n))] := hl
  have K : ∀ v : Int32, W p l e ({ frames := 0, cells := 0, slots := 0, locals := 0 } : Room) s m ([.ref b, .int (nI k), .int (nI n)] : List Value).toArray below meth c s.heap [] 0 0 (MQ below (mQ G A (fun r M' => M' = M ∧ ∃ q, q < n ∧ r = some (.int (nI q)))) ([.ref b, .int (nI k), .int (nI n)] : List Value).toArray s 0 0 A) (F0 m 25 ls [.int v]) := by
    intro v
    refine lv_istore_n (lv' := [(3, .int v), (0, .ref b), (1, .int (nI k)), (2, .int (nI n))]) X.1 X.2.1 dL_part_25 rfl hl (by decide) rfl (fun ls hl => ?_)
    refine lv_iload_n X.1 X.2.1 dL_part_26 rfl (lv_at hl 0 rfl) ?_
    refine lv_ldc (own := RL) (index := 7) (v := 2147483647) X.1 X.2.1 X.2.2.2.1 (X.2.2.2.2.1.use kco_L_7) dL_part_27 ?_
    refine lv_iand X.1 X.2.1 dL_part_29 ?_
    obtain ⟨w, hw, ew⟩ := pk_andE v (m := 2147483647) 31 (by decide)
    rw [ew]
    refine lv_iload_n X.1 X.2.1 dL_part_30 rfl (lv_at hl 3 rfl) ?_
    refine lv_irem X.1 X.2.1 dL_part_31 (nI_n0 (by omega) (by omega)) ?_
    refine lv_top (y := nI (w % n)) (pk_rem (by omega) (by omega) (by omega)) ?_
    exact m_iret X hr hlocks hM dL_part_32 ⟨Nat.le_refl _, Nat.le_refl _⟩ ⟨rfl, w % n, Nat.mod_lt w hn, rfl⟩
  refine lv_iload_n X.1 X.2.1 dL_part_0 rfl (lv_at hl 1 rfl) ?_
  refine lv_aload_n X.1 X.2.1 dL_part_1 rfl (lv_at hl 0 rfl) ?_
  refine va_slen X.1 X.2.1 hX hbl hbA hM.2.2.1 dL_part_2 ?_
  refine b_icmp_ge (tgt := 12) X dL_part_3 (by decide) (a := ((k : Nat) : Int)) (b := ((L : Nat) : Int)) (nI_ti (by omega)) (nI_ti (by omega)) (fun c1 => ?_) (fun c1 => ?_)
  · refine lv_sipush (v := nI 911) X.1 X.2.1 dL_part_12 (by decide) ?_
    refine lv_iload_n X.1 X.2.1 dL_part_15 rfl (lv_at hl 1 rfl) ?_
    refine lv_imul X.1 X.2.1 dL_part_16 ?_
    refine lv_sipush (v := nI 773) X.1 X.2.1 dL_part_17 (by decide) ?_
    refine lv_iload_n X.1 X.2.1 dL_part_20 rfl (lv_at hl 1 rfl) ?_
    refine lv_imul X.1 X.2.1 dL_part_21 ?_
    refine lv_iload_n X.1 X.2.1 dL_part_22 rfl (lv_at hl 1 rfl) ?_
    refine lv_imul X.1 X.2.1 dL_part_23 ?_
    refine lv_iadd X.1 X.2.1 dL_part_24 ?_
    exact K _
  · refine lv_aload_n X.1 X.2.1 dL_part_6 rfl (lv_at hl 0 rfl) ?_
    refine lv_iload_n X.1 X.2.1 dL_part_7 rfl (lv_at hl 1 rfl) ?_
    refine va_sld X.1 X.2.1 hX hbl hbA hM.2.2.1 (vp_in_nI (by omega) (by omega)) dL_part_8 ?_
    refine lv_goto (tgt := 25) X.1 X.2.1 dL_part_9 (by decide) ?_
    exact K _
section PCALL
variable {p : Program} {l : Launch} {e : Env} {R : Room} {s : State} {m : MethodId} {args : Array Value} {below : List Frame} {meth : Method} {c : Code} {H : Heap} {locs : List Loc} {cells slots : Nat} {Q : State → Prop}
variable {cc : ByteArray} {pc nL : Nat} {ls : Array Slot} {rest : List Value} {G : mG} {A : Nat → Prop} {x : Nat} {ar : Nat → Nat} {C D : LSt}
theorem p_call (X : Cx p c s m cc RL nL G) (hS : XS s) (hZ : XZ G A s s.heap) (hN : NC s) (h : qM G A s x ar C D H locs) {b L : Nat} {xs : Nat → Int32} (hX : va_X b L xs s s.heap) (hbl : b < s.heap.size) (hbA : ¬ A b) (hL : L ≤ 260) {k n : Nat} (hk : k < 1000) (hn : 0 < n) (hn2 : n < 100000) {lv : List (Nat × Value)} (hls : lv_has ls nL lv) (hW : (rest.map fun v => v.category).sum ≤ 8) (hdg : decode cc pc = .ok (.invokestatic 108, 3)) (hR : 1 ≤ R.frames ∧ 23 ≤ R.locals) (hf : cells ≤ R.cells ∧ slots ≤ R.slots)
    (kk : ∀ (q : Nat) (H1 : Heap) (locs1 : List Loc), q < n → qM G A s x ar C D H1 locs1 → W p l e R s m args below meth c H1 locs1 cells slots Q (F0 m (pc + 3) ls (.int (nI q) :: rest))) : W p l e R s m args below meth c H locs cells slots Q (F0 m pc ls (.int (nI n) :: .int (nI k) :: .ref b :: rest)) := by
  obtain ⟨k1, k2, k3, k4, k5⟩ := ck_L_108
  obtain ⟨M, hM, hq⟩ := h
  have hKT := X.2.2.2.2.1
  refine m_call (mc := 0) (ms := 0) (va_runS (rm := ({ frames := 0, cells := 0, slots := 0, locals := 0 } : Room)) (As := [.ref b, .int (nI k), .int (nI n)]) (rest := rest) (g := F0 m pc ls ([Value.ref b, .int (nI k), .int (nI n)].reverse ++ rest)) (Ts := KTW) ⟨X.1, X.2.1, X.2.2.1, X.2.2.2.1, hKT.ws⟩ (c_L_part l G M A H.size b L xs k n hL hk hn hn2) ⟨⟨rfl, rfl, hR.1, hR.2, m_w1 hKT k1, List.mem_singleton.mpr rfl, hKT.use k1, hKT.use k2, k3, k4, hKT.use k5⟩, hKT.use kst_L_part⟩ ⟨pPre.blind, fun U hU hW => ⟨lPre.at X hM hS hZ hN hU hW, ?_, ?_, hbA⟩⟩ rfl rfl hls.1 rfl (by show 2 * 0 + _ ≤ 8; omega) hdg hf) hM (fun r M1 H1 locs1 hp hM1 => ?_)
  · rw [hU]
    exact va_X.moved hW.alike (hX.kept (hM.2.2.1.2.1 b hbl hbA))
  · rw [hU]
    exact Nat.lt_of_lt_of_le hbl hM.2.2.1.1
  · obtain ⟨rfl, q, hq2, rfl⟩ := hp
    exact kk q H1 locs1 hq2 ⟨_, hM1, hq⟩
end PCALL
