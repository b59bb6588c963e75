/-! The law, call by call -/
def lA (s : State) : Nat → Prop := fun q => s.heap.size ≤ q
def LwS (G : mG) (x y o : Nat) (ar : Nat → Nat) (j : Nat) (M : Mem) : Prop := ∃ (N : Nat → Nat) (F : Nat → Nat → Nat) (B : Nat → Int32) (MC MR : Mem) (f : Nat → Int64), M = mJ (mJ MC (mO G o f)) MR ∧ mDj (mJ MC (mO G o f)) MR ∧ MC o = none ∧ CS G x N F B MC ∧ RM G y ar N F B MR ∧ LI j N F B
theorem LwS.step {G : mG} {x y o : Nat} {ar : Nat → Nat} {j k : Nat} {v : Int64} {N N1 N2 : Nat → Nat} {F F1 F2 : Nat → Nat → Nat} {B B1 B2 : Nat → Int32} {MC MR : Mem} {g : Nat → Int64} (hL : LI j N F B) (hs : k = 0 → LI (j + 1) N1 F1 B1) (dj : mDj (mJ MC (mO G o g)) MR) (ho : MC o = none) (hk0 : k = 0 → CS G x N1 F1 B1 MC ∧ g 0 = v) (hk1 : k ≠ 0 → CS G x N F B MC)
    (hm0 : k = 0 → SN N1 N2 ∧ SF F1 F2 ∧ B2 = B1) (hm1 : k ≠ 0 → SN N N2 ∧ SF F F2 ∧ B2 = B) (hR : RM G y ar N2 F2 B2 MR) : LwS G x y o ar (j + 1) (mJ (mJ MC (mO G o g)) MR) := by
  by_cases hk : k = 0
  · obtain ⟨e1, e2, e3⟩ := hm0 hk
    subst e3
    exact ⟨N2, F2, _, MC, MR, g, rfl, dj, ho, (hk0 hk).1.congr e1 e2, hR, (hs hk).congr e1 e2⟩
  · obtain ⟨e1, e2, e3⟩ := hm1 hk
    subst e3
    exact ⟨N2, F2, _, MC, MR, g, rfl, dj, ho, (hk1 hk).congr e1 e2, hR, hL.more.congr e1 e2⟩
theorem lg_self {v w : Int64} (h : v = w) : lg_cmp v w = 0 := by
  subst h
  simp [lg_cmp]
theorem nI0c : (nI 0).toNatClampNeg = 0 := nI_clamp (by decide)
section LAWC
variable {p : Program} {l : Launch} {e : Env} {s : State} {m : MethodId} {args : Array Value} {below : List Frame} {meth : Method} {c : Code} {H : Heap} {locs : List Loc} {Q : State → Prop} {ls : Array Slot} {G : mG} {M : Mem} {b L x y o j : Nat} {xs : Nat → Int32} {ar : Nat → Nat}
set_option maxHeartbeats 4000000 in
set_option maxRecDepth 100000 in
theorem law_player (X : Cx p c s m cL_law RL 7 G) (hM : mW G (lA s) s.heap M H locs) (hLS : LwS G x y o ar j M) (hS : XS s) (hZ : XZ G (lA s) s s.heap) (hN : NC s) (hst : l.stackTraces = false) (hX : va_X b L xs s s.heap) (hbl : b < s.heap.size) (hbA : ¬ lA s b) (hl : lv_has ls 7 [(4, .int (nI (4 * j))), (0, .ref b), (1, .ref x), (2, .ref y), (3, .ref o)]) (hjL : 4 * j + 4 ≤ L) (hL2 : L ≤ 2048)
    (kk : ∀ (M1 : Mem) (H1 : Heap) (locs1 : List Loc) (ls1 : Array Slot), LwS G x y o ar (j + 1) M1 → mW G (lA s) s.heap M1 H1 locs1 → lv_has ls1 7 [(4, .int (nI (4 * j))), (0, .ref b), (1, .ref x), (2, .ref y), (3, .ref o)] → W p l e room_1 s m args below meth c H1 locs1 (100 + 16 * (j + 1)) (4000 + 200 * (j + 1)) Q (F0 m 1098 ls1 [])) : W p l e room_1 s m args below meth c H locs (100 + 16 * j) (4000 + 200 * j) Q (F0 m 112 ls []) := by
  obtain ⟨N, F, B, MC, MR, f, rfl, dj, ho, hcs, hrm, hL⟩ := hLS
  refine lv_aload_n X.1 X.2.1 dL_law_112 rfl (lv_at hl 2 rfl) ?_
  refine lv_aload_n X.1 X.2.1 dL_law_113 rfl (lv_at hl 4 rfl) ?_
  refine l_callS X hM hS hZ hN kcw_L_player kini_L (by decide) kar_L_player kml_L_player kst_L_player dL_law_114 ((c_L_player l G x o N F B MC hcs ho f hst hL.1 hL.2.1).fr dj) (As := [.ref x, .ref o]) rfl hl rfl (Nat.le_of_ble_eq_true rfl) ⟨Nat.le_of_ble_eq_true rfl, Nat.le_of_ble_eq_true rfl⟩ ⟨by show 100 + 16 * j + 1 ≤ 601024; omega, by show 4000 + 200 * j + 6 ≤ 7293034; omega⟩ (fun r M1 H locs hp hM => ?_)
  obtain ⟨M2, ⟨rfl, MC2, g, rfl, ho2, hk0, hk1⟩, dj, rfl⟩ := hp
  refine lv_istore (lv' := [(5, .int (nI (kPlayer N))), (4, .int (nI (4 * j))), (0, .ref b), (1, .ref x), (2, .ref y), (3, .ref o)]) X.1 X.2.1 dL_law_117 hl (by decide) rfl (fun ls hl => ?_)
  refine lv_aload_n X.1 X.2.1 dL_law_119 rfl (lv_at hl 4 rfl) ?_
  rw [mJ_comm dj] at hM
  refine m_callV X hM ck_L_76 ki_X7_player ks_X7_player (ci := 8) rfl dL_law_120 ((c_X7_player l G y ar N F B hL.1 MR hrm).fr dj.sym) (mJ_l hrm.1) (As := []) rfl hl rfl (Nat.le_of_ble_eq_true rfl) ⟨Nat.le_of_ble_eq_true rfl, Nat.le_of_ble_eq_true rfl⟩ ⟨by show 100 + 16 * j + 1 + 0 ≤ 601024; omega, by show 4000 + 200 * j + 6 + 0 ≤ 7293034; omega⟩ (fun r M1 H locs hp hM => ?_)
  obtain ⟨MR2, ⟨N2, F2, B2, ⟨h29, ⟨w, rfl, hw⟩, hm0, hm1⟩, hrm⟩, dj, rfl⟩ := hp
  refine lv_istore (lv' := [(6, .int w), (5, .int (nI (kPlayer N))), (4, .int (nI (4 * j))), (0, .ref b), (1, .ref x), (2, .ref y), (3, .ref o)]) X.1 X.2.1 dL_law_123 hl (by decide) rfl (fun ls hl => ?_)
  refine lv_aload_n X.1 X.2.1 dL_law_125 rfl (lv_at hl 5 rfl) ?_
  refine m_callV X hM ck_L_77 ki_X7_thrown ks_X7_thrown (ci := 8) rfl dL_law_126 ((c_X7_thrown l G y ar N2 F2 B2 MR2 hrm).fr dj) (mJ_l hrm.1) (As := []) rfl hl rfl (Nat.le_of_ble_eq_true rfl) ⟨Nat.le_of_ble_eq_true rfl, Nat.le_of_ble_eq_true rfl⟩ ⟨by show 100 + 16 * j + 1 + 0 + 0 ≤ 601024; omega, by show 4000 + 200 * j + 6 + 0 + 0 ≤ 7293034; omega⟩ (fun r M1 H locs hp hM => ?_)
  obtain ⟨MR3, ⟨N3, F3, B3, ⟨rfl, rfl, rfl, rfl⟩, hrm⟩, dj, rfl⟩ := hp
  rw [mJ_comm dj] at hM
  have hLS := LwS.step (k := kPlayer N) hL (fun hk => stp_player hL hk) dj.sym ho2 hk0 hk1 hm0 hm1 hrm
  refine lv_iload X.1 X.2.1 dL_law_129 (lv_at hl 1 rfl) ?_
  refine lv_icmp_eq (tgt := 136) X.1 X.2.1 dL_law_131 (by decide) (fun _ => ?_) (fun hc => absurd (by rw [h29]) hc)
  refine lv_iload X.1 X.2.1 dL_law_136 (lv_at hl 1 rfl) ?_
  have hk3 : kPlayer N ≤ 3 := kPlayer_le _
  refine b_if_ne (tgt := 153) X dL_law_138 (by decide) (a := ((kPlayer N : Nat) : Int)) (nI_ti (by omega)) (fun hk => ?_) (fun hk => ?_)
  · skip
    refine lv_goto (tgt := 1098) X.1 X.2.1 dL_law_153 (by decide) ?_
    refine W.widen (k := 100 + 16 * (j + 1)) (n := 4000 + 200 * (j + 1)) (by show 100 + 16 * j + 1 + 0 + 0 ≤ 100 + 16 * (j + 1); omega) (by show 4000 + 200 * j + 6 + 0 + 0 ≤ 4000 + 200 * (j + 1); omega) ?_
    exact kk _ _ _ _ hLS hM (lv_sub hl [2, 3, 4, 5, 6] rfl)
  · have hk : kPlayer N = 0 := by omega
    refine lv_aload_n X.1 X.2.1 dL_law_141 rfl (lv_at hl 6 rfl) ?_
    refine lv_iconst (v := nI 0) X.1 X.2.1 dL_law_142 (by decide) ?_
    refine mg_lald X hM dL_law_143 (mJ_l (mJ_r (mO_dj ho2) mO_at)) (vp_in_nI (by decide) (by decide)) ?_
    refine lv_iload X.1 X.2.1 dL_law_144 (lv_at hl 0 rfl) ?_
    refine lv_i2l (v := w.toInt64) X.1 X.2.1 dL_law_146 rfl ?_
    refine W.lcmp X.1 X.2.1 dL_law_147 ?_
    refine lv_if_eq (tgt := 153) X.1 X.2.1 dL_law_148 (by decide) (fun _ => ?_) (fun hc => absurd (lg_self (by rw [nI0c, (hk0 hk).2, hw hk])) hc)
    refine lv_goto (tgt := 1098) X.1 X.2.1 dL_law_153 (by decide) ?_
    refine W.widen (k := 100 + 16 * (j + 1)) (n := 4000 + 200 * (j + 1)) (by show 100 + 16 * j + 1 + 0 + 0 ≤ 100 + 16 * (j + 1); omega) (by show 4000 + 200 * j + 6 + 0 + 0 ≤ 4000 + 200 * (j + 1); omega) ?_
    exact kk _ _ _ _ hLS hM (lv_sub hl [2, 3, 4, 5, 6] rfl)
set_option maxHeartbeats 4000000 in
set_option maxRecDepth 100000 in
theorem law_room (X : Cx p c s m cL_law RL 7 G) (hM : mW G (lA s) s.heap M H locs) (hLS : LwS G x y o ar j M) (hS : XS s) (hZ : XZ G (lA s) s s.heap) (hN : NC s) (hst : l.stackTraces = false) (hX : va_X b L xs s s.heap) (hbl : b < s.heap.size) (hbA : ¬ lA s b) (hl : lv_has ls 7 [(4, .int (nI (4 * j))), (0, .ref b), (1, .ref x), (2, .ref y), (3, .ref o)]) (hjL : 4 * j + 4 ≤ L) (hL2 : L ≤ 2048)
    (kk : ∀ (M1 : Mem) (H1 : Heap) (locs1 : List Loc) (ls1 : Array Slot), LwS G x y o ar (j + 1) M1 → mW G (lA s) s.heap M1 H1 locs1 → lv_has ls1 7 [(4, .int (nI (4 * j))), (0, .ref b), (1, .ref x), (2, .ref y), (3, .ref o)] → W p l e room_1 s m args below meth c H1 locs1 (100 + 16 * (j + 1)) (4000 + 200 * (j + 1)) Q (F0 m 1098 ls1 [])) : W p l e room_1 s m args below meth c H locs (100 + 16 * j) (4000 + 200 * j) Q (F0 m 156 ls []) := by
  obtain ⟨a1, ha1⟩ : ∃ a, a = xs (nI (4 * j + 1)).toNatClampNeg := ⟨_, rfl⟩
  obtain ⟨a2, ha2⟩ : ∃ a, a = xs (nI (4 * j + 2)).toNatClampNeg := ⟨_, rfl⟩
  obtain ⟨N, F, B, MC, MR, f, rfl, dj, ho, hcs, hrm, hL⟩ := hLS
  refine lv_aload_n X.1 X.2.1 dL_law_156 rfl (lv_at hl 2 rfl) ?_
  refine lv_aload_n X.1 X.2.1 dL_law_157 rfl (lv_at hl 1 rfl) ?_
  refine lv_iload X.1 X.2.1 dL_law_158 (lv_at hl 0 rfl) ?_
  refine lv_iconst (v := nI 1) X.1 X.2.1 dL_law_160 (by decide) ?_
  refine lv_iadd X.1 X.2.1 dL_law_161 ?_
  refine lv_top (y := nI (4 * j + 1)) (nI_add _ _) ?_
  refine va_sld X.1 X.2.1 hX hbl hbA hM.2.2.1 (vp_in_nI (by omega) (by omega)) dL_law_162 ?_
  refine lv_top (y := a1) ha1.symm ?_
  refine lv_aload_n X.1 X.2.1 dL_law_163 rfl (lv_at hl 1 rfl) ?_
  refine lv_iload X.1 X.2.1 dL_law_164 (lv_at hl 0 rfl) ?_
  refine lv_iconst (v := nI 2) X.1 X.2.1 dL_law_166 (by decide) ?_
  refine lv_iadd X.1 X.2.1 dL_law_167 ?_
  refine lv_top (y := nI (4 * j + 2)) (nI_add _ _) ?_
  refine va_sld X.1 X.2.1 hX hbl hbA hM.2.2.1 (vp_in_nI (by omega) (by omega)) dL_law_168 ?_
  refine lv_top (y := a2) ha2.symm ?_
  refine lv_aload_n X.1 X.2.1 dL_law_169 rfl (lv_at hl 4 rfl) ?_
  refine l_callS X hM hS hZ hN kcw_L_room kini_L (by decide) kar_L_room kml_L_room kst_L_room dL_law_170 ((c_L_room l G x o N F B MC hcs ho f a1 a2 hst hL.1).fr dj) (As := [.ref x, .int a1, .int a2, .ref o]) rfl hl rfl (Nat.le_of_ble_eq_true rfl) ⟨Nat.le_of_ble_eq_true rfl, Nat.le_of_ble_eq_true rfl⟩ ⟨by show 100 + 16 * j + 2 ≤ 601024; omega, by show 4000 + 200 * j + 12 ≤ 7293034; omega⟩ (fun r M1 H locs hp hM => ?_)
  obtain ⟨M2, ⟨rfl, MC2, g, rfl, ho2, hk0, hk1⟩, dj, rfl⟩ := hp
  refine lv_istore (lv' := [(5, .int (nI (kRoom a1 a2))), (4, .int (nI (4 * j))), (0, .ref b), (1, .ref x), (2, .ref y), (3, .ref o)]) X.1 X.2.1 dL_law_173 hl (by decide) rfl (fun ls hl => ?_)
  refine lv_aload_n X.1 X.2.1 dL_law_175 rfl (lv_at hl 4 rfl) ?_
  refine lv_aload_n X.1 X.2.1 dL_law_176 rfl (lv_at hl 2 rfl) ?_
  refine lv_iload X.1 X.2.1 dL_law_177 (lv_at hl 1 rfl) ?_
  refine lv_iconst (v := nI 1) X.1 X.2.1 dL_law_179 (by decide) ?_
  refine lv_iadd X.1 X.2.1 dL_law_180 ?_
  refine lv_top (y := nI (4 * j + 1)) (nI_add _ _) ?_
  refine va_sld X.1 X.2.1 hX hbl hbA hM.2.2.1 (vp_in_nI (by omega) (by omega)) dL_law_181 ?_
  refine lv_top (y := a1) ha1.symm ?_
  refine lv_aload_n X.1 X.2.1 dL_law_182 rfl (lv_at hl 2 rfl) ?_
  refine lv_iload X.1 X.2.1 dL_law_183 (lv_at hl 1 rfl) ?_
  refine lv_iconst (v := nI 2) X.1 X.2.1 dL_law_185 (by decide) ?_
  refine lv_iadd X.1 X.2.1 dL_law_186 ?_
  refine lv_top (y := nI (4 * j + 2)) (nI_add _ _) ?_
  refine va_sld X.1 X.2.1 hX hbl hbA hM.2.2.1 (vp_in_nI (by omega) (by omega)) dL_law_187 ?_
  refine lv_top (y := a2) ha2.symm ?_
  rw [mJ_comm dj] at hM
  refine m_callV X hM ck_L_83 ki_X7_room ks_X7_room (ci := 8) rfl dL_law_188 ((c_X7_room l G y ar N F B a1 a2 hL.1 MR hrm).fr dj.sym) (mJ_l hrm.1) (As := [.int a1, .int a2]) rfl hl rfl (Nat.le_of_ble_eq_true rfl) ⟨Nat.le_of_ble_eq_true rfl, Nat.le_of_ble_eq_true rfl⟩ ⟨by show 100 + 16 * j + 2 + 0 ≤ 601024; omega, by show 4000 + 200 * j + 12 + 0 ≤ 7293034; omega⟩ (fun r M1 H locs hp hM => ?_)
  obtain ⟨MR2, ⟨N2, F2, B2, ⟨h29, ⟨w, rfl, hw⟩, hm0, hm1⟩, hrm⟩, dj, rfl⟩ := hp
  refine lv_istore (lv' := [(6, .int w), (5, .int (nI (kRoom a1 a2))), (4, .int (nI (4 * j))), (0, .ref b), (1, .ref x), (2, .ref y), (3, .ref o)]) X.1 X.2.1 dL_law_191 hl (by decide) rfl (fun ls hl => ?_)
  refine lv_aload_n X.1 X.2.1 dL_law_193 rfl (lv_at hl 5 rfl) ?_
  refine m_callV X hM ck_L_77 ki_X7_thrown ks_X7_thrown (ci := 8) rfl dL_law_194 ((c_X7_thrown l G y ar N2 F2 B2 MR2 hrm).fr dj) (mJ_l hrm.1) (As := []) rfl hl rfl (Nat.le_of_ble_eq_true rfl) ⟨Nat.le_of_ble_eq_true rfl, Nat.le_of_ble_eq_true rfl⟩ ⟨by show 100 + 16 * j + 2 + 0 + 0 ≤ 601024; omega, by show 4000 + 200 * j + 12 + 0 + 0 ≤ 7293034; omega⟩ (fun r M1 H locs hp hM => ?_)
  obtain ⟨MR3, ⟨N3, F3, B3, ⟨rfl, rfl, rfl, rfl⟩, hrm⟩, dj, rfl⟩ := hp
  rw [mJ_comm dj] at hM
  have hLS := LwS.step (k := kRoom a1 a2) hL (fun hk => stp_room hL hk) dj.sym ho2 hk0 hk1 hm0 hm1 hrm
  refine lv_iload X.1 X.2.1 dL_law_197 (lv_at hl 1 rfl) ?_
  refine lv_icmp_eq (tgt := 204) X.1 X.2.1 dL_law_199 (by decide) (fun _ => ?_) (fun hc => absurd (by rw [h29]) hc)
  refine lv_iload X.1 X.2.1 dL_law_204 (lv_at hl 1 rfl) ?_
  have hk3 : kRoom a1 a2 ≤ 3 := kRoom_le _ _
  refine b_if_ne (tgt := 221) X dL_law_206 (by decide) (a := ((kRoom a1 a2 : Nat) : Int)) (nI_ti (by omega)) (fun hk => ?_) (fun hk => ?_)
  · skip
    refine lv_goto (tgt := 1098) X.1 X.2.1 dL_law_221 (by decide) ?_
    refine W.widen (k := 100 + 16 * (j + 1)) (n := 4000 + 200 * (j + 1)) (by show 100 + 16 * j + 2 + 0 + 0 ≤ 100 + 16 * (j + 1); omega) (by show 4000 + 200 * j + 12 + 0 + 0 ≤ 4000 + 200 * (j + 1); omega) ?_
    exact kk _ _ _ _ hLS hM (lv_sub hl [2, 3, 4, 5, 6] rfl)
  · have hk : kRoom a1 a2 = 0 := by omega
    refine lv_aload_n X.1 X.2.1 dL_law_209 rfl (lv_at hl 6 rfl) ?_
    refine lv_iconst (v := nI 0) X.1 X.2.1 dL_law_210 (by decide) ?_
    refine mg_lald X hM dL_law_211 (mJ_l (mJ_r (mO_dj ho2) mO_at)) (vp_in_nI (by decide) (by decide)) ?_
    refine lv_iload X.1 X.2.1 dL_law_212 (lv_at hl 0 rfl) ?_
    refine lv_i2l (v := w.toInt64) X.1 X.2.1 dL_law_214 rfl ?_
    refine W.lcmp X.1 X.2.1 dL_law_215 ?_
    refine lv_if_eq (tgt := 221) X.1 X.2.1 dL_law_216 (by decide) (fun _ => ?_) (fun hc => absurd (lg_self (by rw [nI0c, (hk0 hk).2, hw hk])) hc)
    refine lv_goto (tgt := 1098) X.1 X.2.1 dL_law_221 (by decide) ?_
    refine W.widen (k := 100 + 16 * (j + 1)) (n := 4000 + 200 * (j + 1)) (by show 100 + 16 * j + 2 + 0 + 0 ≤ 100 + 16 * (j + 1); omega) (by show 4000 + 200 * j + 12 + 0 + 0 ≤ 4000 + 200 * (j + 1); omega) ?_
    exact kk _ _ _ _ hLS hM (lv_sub hl [2, 3, 4, 5, 6] rfl)
set_option maxHeartbeats 4000000 in
set_option maxRecDepth 100000 in
theorem law_match (X : Cx p c s m cL_law RL 7 G) (hM : mW G (lA s) s.heap M H locs) (hLS : LwS G x y o ar j M) (hS : XS s) (hZ : XZ G (lA s) s s.heap) (hN : NC s) (hst : l.stackTraces = false) (hX : va_X b L xs s s.heap) (hbl : b < s.heap.size) (hbA : ¬ lA s b) (hl : lv_has ls 7 [(4, .int (nI (4 * j))), (0, .ref b), (1, .ref x), (2, .ref y), (3, .ref o)]) (hjL : 4 * j + 4 ≤ L) (hL2 : L ≤ 2048)
    (kk : ∀ (M1 : Mem) (H1 : Heap) (locs1 : List Loc) (ls1 : Array Slot), LwS G x y o ar (j + 1) M1 → mW G (lA s) s.heap M1 H1 locs1 → lv_has ls1 7 [(4, .int (nI (4 * j))), (0, .ref b), (1, .ref x), (2, .ref y), (3, .ref o)] → W p l e room_1 s m args below meth c H1 locs1 (100 + 16 * (j + 1)) (4000 + 200 * (j + 1)) Q (F0 m 1098 ls1 [])) : W p l e room_1 s m args below meth c H locs (100 + 16 * j) (4000 + 200 * j) Q (F0 m 224 ls []) := by
  obtain ⟨a1, ha1⟩ : ∃ a, a = xs (nI (4 * j + 1)).toNatClampNeg := ⟨_, rfl⟩
  obtain ⟨a2, ha2⟩ : ∃ a, a = xs (nI (4 * j + 2)).toNatClampNeg := ⟨_, rfl⟩
  obtain ⟨a3, ha3⟩ : ∃ a, a = xs (nI (4 * j + 3)).toNatClampNeg := ⟨_, rfl⟩
  obtain ⟨N, F, B, MC, MR, f, rfl, dj, ho, hcs, hrm, hL⟩ := hLS
  refine lv_aload_n X.1 X.2.1 dL_law_224 rfl (lv_at hl 2 rfl) ?_
  refine lv_aload_n X.1 X.2.1 dL_law_225 rfl (lv_at hl 1 rfl) ?_
  refine lv_iload X.1 X.2.1 dL_law_226 (lv_at hl 0 rfl) ?_
  refine lv_iconst (v := nI 1) X.1 X.2.1 dL_law_228 (by decide) ?_
  refine lv_iadd X.1 X.2.1 dL_law_229 ?_
  refine lv_top (y := nI (4 * j + 1)) (nI_add _ _) ?_
  refine va_sld X.1 X.2.1 hX hbl hbA hM.2.2.1 (vp_in_nI (by omega) (by omega)) dL_law_230 ?_
  refine lv_top (y := a1) ha1.symm ?_
  refine lv_aload_n X.1 X.2.1 dL_law_231 rfl (lv_at hl 1 rfl) ?_
  refine lv_iload X.1 X.2.1 dL_law_232 (lv_at hl 0 rfl) ?_
  refine lv_iconst (v := nI 2) X.1 X.2.1 dL_law_234 (by decide) ?_
  refine lv_iadd X.1 X.2.1 dL_law_235 ?_
  refine lv_top (y := nI (4 * j + 2)) (nI_add _ _) ?_
  refine va_sld X.1 X.2.1 hX hbl hbA hM.2.2.1 (vp_in_nI (by omega) (by omega)) dL_law_236 ?_
  refine lv_top (y := a2) ha2.symm ?_
  refine lv_aload_n X.1 X.2.1 dL_law_237 rfl (lv_at hl 1 rfl) ?_
  refine lv_iload X.1 X.2.1 dL_law_238 (lv_at hl 0 rfl) ?_
  refine lv_iconst (v := nI 3) X.1 X.2.1 dL_law_240 (by decide) ?_
  refine lv_iadd X.1 X.2.1 dL_law_241 ?_
  refine lv_top (y := nI (4 * j + 3)) (nI_add _ _) ?_
  refine va_sld X.1 X.2.1 hX hbl hbA hM.2.2.1 (vp_in_nI (by omega) (by omega)) dL_law_242 ?_
  refine lv_top (y := a3) ha3.symm ?_
  refine lv_aload_n X.1 X.2.1 dL_law_243 rfl (lv_at hl 4 rfl) ?_
  refine l_callS X hM hS hZ hN kcw_L_match kini_L (by decide) kar_L_match kml_L_match kst_L_match dL_law_244 ((c_L_match l G x o N F B MC hcs ho f a1 a2 a3 hst hL.1).fr dj) (As := [.ref x, .int a1, .int a2, .int a3, .ref o]) rfl hl rfl (Nat.le_of_ble_eq_true rfl) ⟨Nat.le_of_ble_eq_true rfl, Nat.le_of_ble_eq_true rfl⟩ ⟨by show 100 + 16 * j + 4 ≤ 601024; omega, by show 4000 + 200 * j + 24 ≤ 7293034; omega⟩ (fun r M1 H locs hp hM => ?_)
  obtain ⟨M2, ⟨rfl, MC2, g, rfl, ho2, hk0, hk1⟩, dj, rfl⟩ := hp
  refine lv_istore (lv' := [(5, .int (nI (kMatch N F a1 a2 a3))), (4, .int (nI (4 * j))), (0, .ref b), (1, .ref x), (2, .ref y), (3, .ref o)]) X.1 X.2.1 dL_law_247 hl (by decide) rfl (fun ls hl => ?_)
  refine lv_aload_n X.1 X.2.1 dL_law_249 rfl (lv_at hl 4 rfl) ?_
  refine lv_aload_n X.1 X.2.1 dL_law_250 rfl (lv_at hl 2 rfl) ?_
  refine lv_iload X.1 X.2.1 dL_law_251 (lv_at hl 1 rfl) ?_
  refine lv_iconst (v := nI 1) X.1 X.2.1 dL_law_253 (by decide) ?_
  refine lv_iadd X.1 X.2.1 dL_law_254 ?_
  refine lv_top (y := nI (4 * j + 1)) (nI_add _ _) ?_
  refine va_sld X.1 X.2.1 hX hbl hbA hM.2.2.1 (vp_in_nI (by omega) (by omega)) dL_law_255 ?_
  refine lv_top (y := a1) ha1.symm ?_
  refine lv_aload_n X.1 X.2.1 dL_law_256 rfl (lv_at hl 2 rfl) ?_
  refine lv_iload X.1 X.2.1 dL_law_257 (lv_at hl 1 rfl) ?_
  refine lv_iconst (v := nI 2) X.1 X.2.1 dL_law_259 (by decide) ?_
  refine lv_iadd X.1 X.2.1 dL_law_260 ?_
  refine lv_top (y := nI (4 * j + 2)) (nI_add _ _) ?_
  refine va_sld X.1 X.2.1 hX hbl hbA hM.2.2.1 (vp_in_nI (by omega) (by omega)) dL_law_261 ?_
  refine lv_top (y := a2) ha2.symm ?_
  refine lv_aload_n X.1 X.2.1 dL_law_262 rfl (lv_at hl 2 rfl) ?_
  refine lv_iload X.1 X.2.1 dL_law_263 (lv_at hl 1 rfl) ?_
  refine lv_iconst (v := nI 3) X.1 X.2.1 dL_law_265 (by decide) ?_
  refine lv_iadd X.1 X.2.1 dL_law_266 ?_
  refine lv_top (y := nI (4 * j + 3)) (nI_add _ _) ?_
  refine va_sld X.1 X.2.1 hX hbl hbA hM.2.2.1 (vp_in_nI (by omega) (by omega)) dL_law_267 ?_
  refine lv_top (y := a3) ha3.symm ?_
  rw [mJ_comm dj] at hM
  refine m_callV X hM ck_L_87 ki_X7_match ks_X7_match (ci := 8) rfl dL_law_268 ((c_X7_match l G y ar N F B a1 a2 a3 hL.1 MR hrm).fr dj.sym) (mJ_l hrm.1) (As := [.int a1, .int a2, .int a3]) rfl hl rfl (Nat.le_of_ble_eq_true rfl) ⟨Nat.le_of_ble_eq_true rfl, Nat.le_of_ble_eq_true rfl⟩ ⟨by show 100 + 16 * j + 4 + 0 ≤ 601024; omega, by show 4000 + 200 * j + 24 + 0 ≤ 7293034; omega⟩ (fun r M1 H locs hp hM => ?_)
  obtain ⟨MR2, ⟨N2, F2, B2, ⟨h29, ⟨w, rfl, hw⟩, hm0, hm1⟩, hrm⟩, dj, rfl⟩ := hp
  refine lv_istore (lv' := [(6, .int w), (5, .int (nI (kMatch N F a1 a2 a3))), (4, .int (nI (4 * j))), (0, .ref b), (1, .ref x), (2, .ref y), (3, .ref o)]) X.1 X.2.1 dL_law_271 hl (by decide) rfl (fun ls hl => ?_)
  refine lv_aload_n X.1 X.2.1 dL_law_273 rfl (lv_at hl 5 rfl) ?_
  refine m_callV X hM ck_L_77 ki_X7_thrown ks_X7_thrown (ci := 8) rfl dL_law_274 ((c_X7_thrown l G y ar N2 F2 B2 MR2 hrm).fr dj) (mJ_l hrm.1) (As := []) rfl hl rfl (Nat.le_of_ble_eq_true rfl) ⟨Nat.le_of_ble_eq_true rfl, Nat.le_of_ble_eq_true rfl⟩ ⟨by show 100 + 16 * j + 4 + 0 + 0 ≤ 601024; omega, by show 4000 + 200 * j + 24 + 0 + 0 ≤ 7293034; omega⟩ (fun r M1 H locs hp hM => ?_)
  obtain ⟨MR3, ⟨N3, F3, B3, ⟨rfl, rfl, rfl, rfl⟩, hrm⟩, dj, rfl⟩ := hp
  rw [mJ_comm dj] at hM
  have hLS := LwS.step (k := kMatch N F a1 a2 a3) hL (fun hk => stp_match hL hk) dj.sym ho2 hk0 hk1 hm0 hm1 hrm
  refine lv_iload X.1 X.2.1 dL_law_277 (lv_at hl 1 rfl) ?_
  refine lv_icmp_eq (tgt := 284) X.1 X.2.1 dL_law_279 (by decide) (fun _ => ?_) (fun hc => absurd (by rw [h29]) hc)
  refine lv_iload X.1 X.2.1 dL_law_284 (lv_at hl 1 rfl) ?_
  have hk3 : kMatch N F a1 a2 a3 ≤ 3 := kMatch_le _ _ _ _ _
  refine b_if_ne (tgt := 301) X dL_law_286 (by decide) (a := ((kMatch N F a1 a2 a3 : Nat) : Int)) (nI_ti (by omega)) (fun hk => ?_) (fun hk => ?_)
  · skip
    refine lv_goto (tgt := 1098) X.1 X.2.1 dL_law_301 (by decide) ?_
    refine W.widen (k := 100 + 16 * (j + 1)) (n := 4000 + 200 * (j + 1)) (by show 100 + 16 * j + 4 + 0 + 0 ≤ 100 + 16 * (j + 1); omega) (by show 4000 + 200 * j + 24 + 0 + 0 ≤ 4000 + 200 * (j + 1); omega) ?_
    exact kk _ _ _ _ hLS hM (lv_sub hl [2, 3, 4, 5, 6] rfl)
  · have hk : kMatch N F a1 a2 a3 = 0 := by omega
    refine lv_aload_n X.1 X.2.1 dL_law_289 rfl (lv_at hl 6 rfl) ?_
    refine lv_iconst (v := nI 0) X.1 X.2.1 dL_law_290 (by decide) ?_
    refine mg_lald X hM dL_law_291 (mJ_l (mJ_r (mO_dj ho2) mO_at)) (vp_in_nI (by decide) (by decide)) ?_
    refine lv_iload X.1 X.2.1 dL_law_292 (lv_at hl 0 rfl) ?_
    refine lv_i2l (v := w.toInt64) X.1 X.2.1 dL_law_294 rfl ?_
    refine W.lcmp X.1 X.2.1 dL_law_295 ?_
    refine lv_if_eq (tgt := 301) X.1 X.2.1 dL_law_296 (by decide) (fun _ => ?_) (fun hc => absurd (lg_self (by rw [nI0c, (hk0 hk).2, hw hk])) hc)
    refine lv_goto (tgt := 1098) X.1 X.2.1 dL_law_301 (by decide) ?_
    refine W.widen (k := 100 + 16 * (j + 1)) (n := 4000 + 200 * (j + 1)) (by show 100 + 16 * j + 4 + 0 + 0 ≤ 100 + 16 * (j + 1); omega) (by show 4000 + 200 * j + 24 + 0 + 0 ≤ 4000 + 200 * (j + 1); omega) ?_
    exact kk _ _ _ _ hLS hM (lv_sub hl [2, 3, 4, 5, 6] rfl)
set_option maxHeartbeats 4000000 in
set_option maxRecDepth 100000 in
theorem law_end (X : Cx p c s m cL_law RL 7 G) (hM : mW G (lA s) s.heap M H locs) (hLS : LwS G x y o ar j M) (hS : XS s) (hZ : XZ G (lA s) s s.heap) (hN : NC s) (hst : l.stackTraces = false) (hX : va_X b L xs s s.heap) (hbl : b < s.heap.size) (hbA : ¬ lA s b) (hl : lv_has ls 7 [(4, .int (nI (4 * j))), (0, .ref b), (1, .ref x), (2, .ref y), (3, .ref o)]) (hjL : 4 * j + 4 ≤ L) (hL2 : L ≤ 2048)
    (kk : ∀ (M1 : Mem) (H1 : Heap) (locs1 : List Loc) (ls1 : Array Slot), LwS G x y o ar (j + 1) M1 → mW G (lA s) s.heap M1 H1 locs1 → lv_has ls1 7 [(4, .int (nI (4 * j))), (0, .ref b), (1, .ref x), (2, .ref y), (3, .ref o)] → W p l e room_1 s m args below meth c H1 locs1 (100 + 16 * (j + 1)) (4000 + 200 * (j + 1)) Q (F0 m 1098 ls1 [])) : W p l e room_1 s m args below meth c H locs (100 + 16 * j) (4000 + 200 * j) Q (F0 m 304 ls []) := by
  obtain ⟨N, F, B, MC, MR, f, rfl, dj, ho, hcs, hrm, hL⟩ := hLS
  refine lv_aload_n X.1 X.2.1 dL_law_304 rfl (lv_at hl 2 rfl) ?_
  refine lv_aload_n X.1 X.2.1 dL_law_305 rfl (lv_at hl 4 rfl) ?_
  refine l_callS X hM hS hZ hN kcw_L_end kini_L (by decide) kar_L_end kml_L_end kst_L_end dL_law_306 ((c_L_end l G x o N F B MC hcs ho f hst hL.1 hL.2.1).fr dj) (As := [.ref x, .ref o]) rfl hl rfl (Nat.le_of_ble_eq_true rfl) ⟨Nat.le_of_ble_eq_true rfl, Nat.le_of_ble_eq_true rfl⟩ ⟨by show 100 + 16 * j + 9 ≤ 601024; omega, by show 4000 + 200 * j + 125 ≤ 7293034; omega⟩ (fun r M1 H locs hp hM => ?_)
  obtain ⟨M2, ⟨rfl, MC2, g, rfl, ho2, hk0, hk1⟩, dj, rfl⟩ := hp
  refine lv_istore (lv' := [(5, .int (nI (kEnd N))), (4, .int (nI (4 * j))), (0, .ref b), (1, .ref x), (2, .ref y), (3, .ref o)]) X.1 X.2.1 dL_law_309 hl (by decide) rfl (fun ls hl => ?_)
  refine lv_aload_n X.1 X.2.1 dL_law_311 rfl (lv_at hl 4 rfl) ?_
  rw [mJ_comm dj] at hM
  refine m_callV X hM ck_L_90 ki_X7_end ks_X7_end (ci := 8) rfl dL_law_312 ((c_X7_end l G y ar N F B hL.1 MR hrm).fr dj.sym) (mJ_l hrm.1) (As := []) rfl hl rfl (Nat.le_of_ble_eq_true rfl) ⟨Nat.le_of_ble_eq_true rfl, Nat.le_of_ble_eq_true rfl⟩ ⟨by show 100 + 16 * j + 9 + 0 ≤ 601024; omega, by show 4000 + 200 * j + 125 + 0 ≤ 7293034; omega⟩ (fun r M1 H locs hp hM => ?_)
  obtain ⟨MR2, ⟨N2, F2, B2, ⟨h29, ⟨w, rfl, hw⟩, hm0, hm1⟩, hrm⟩, dj, rfl⟩ := hp
  refine lv_istore (lv' := [(6, .int w), (5, .int (nI (kEnd N))), (4, .int (nI (4 * j))), (0, .ref b), (1, .ref x), (2, .ref y), (3, .ref o)]) X.1 X.2.1 dL_law_315 hl (by decide) rfl (fun ls hl => ?_)
  refine lv_aload_n X.1 X.2.1 dL_law_317 rfl (lv_at hl 5 rfl) ?_
  refine m_callV X hM ck_L_77 ki_X7_thrown ks_X7_thrown (ci := 8) rfl dL_law_318 ((c_X7_thrown l G y ar N2 F2 B2 MR2 hrm).fr dj) (mJ_l hrm.1) (As := []) rfl hl rfl (Nat.le_of_ble_eq_true rfl) ⟨Nat.le_of_ble_eq_true rfl, Nat.le_of_ble_eq_true rfl⟩ ⟨by show 100 + 16 * j + 9 + 0 + 0 ≤ 601024; omega, by show 4000 + 200 * j + 125 + 0 + 0 ≤ 7293034; omega⟩ (fun r M1 H locs hp hM => ?_)
  obtain ⟨MR3, ⟨N3, F3, B3, ⟨rfl, rfl, rfl, rfl⟩, hrm⟩, dj, rfl⟩ := hp
  rw [mJ_comm dj] at hM
  have hLS := LwS.step (k := kEnd N) hL (fun hk => stp_end hL hk) dj.sym ho2 hk0 hk1 hm0 hm1 hrm
  refine lv_iload X.1 X.2.1 dL_law_321 (lv_at hl 1 rfl) ?_
  refine lv_icmp_eq (tgt := 328) X.1 X.2.1 dL_law_323 (by decide) (fun _ => ?_) (fun hc => absurd (by rw [h29]) hc)
  refine lv_iload X.1 X.2.1 dL_law_328 (lv_at hl 1 rfl) ?_
  have hk3 : kEnd N ≤ 3 := kEnd_le _
  refine b_if_ne (tgt := 345) X dL_law_330 (by decide) (a := ((kEnd N : Nat) : Int)) (nI_ti (by omega)) (fun hk => ?_) (fun hk => ?_)
  · skip
    refine lv_goto (tgt := 1098) X.1 X.2.1 dL_law_345 (by decide) ?_
    refine W.widen (k := 100 + 16 * (j + 1)) (n := 4000 + 200 * (j + 1)) (by show 100 + 16 * j + 9 + 0 + 0 ≤ 100 + 16 * (j + 1); omega) (by show 4000 + 200 * j + 125 + 0 + 0 ≤ 4000 + 200 * (j + 1); omega) ?_
    exact kk _ _ _ _ hLS hM (lv_sub hl [2, 3, 4, 5, 6] rfl)
  · have hk : kEnd N = 0 := by omega
    refine lv_aload_n X.1 X.2.1 dL_law_333 rfl (lv_at hl 6 rfl) ?_
    refine lv_iconst (v := nI 0) X.1 X.2.1 dL_law_334 (by decide) ?_
    refine mg_lald X hM dL_law_335 (mJ_l (mJ_r (mO_dj ho2) mO_at)) (vp_in_nI (by decide) (by decide)) ?_
    refine lv_iload X.1 X.2.1 dL_law_336 (lv_at hl 0 rfl) ?_
    refine lv_i2l (v := w.toInt64) X.1 X.2.1 dL_law_338 rfl ?_
    refine W.lcmp X.1 X.2.1 dL_law_339 ?_
    refine lv_if_eq (tgt := 345) X.1 X.2.1 dL_law_340 (by decide) (fun _ => ?_) (fun hc => absurd (lg_self (by rw [nI0c, (hk0 hk).2, hw hk])) hc)
    refine lv_goto (tgt := 1098) X.1 X.2.1 dL_law_345 (by decide) ?_
    refine W.widen (k := 100 + 16 * (j + 1)) (n := 4000 + 200 * (j + 1)) (by show 100 + 16 * j + 9 + 0 + 0 ≤ 100 + 16 * (j + 1); omega) (by show 4000 + 200 * j + 125 + 0 + 0 ≤ 4000 + 200 * (j + 1); omega) ?_
    exact kk _ _ _ _ hLS hM (lv_sub hl [2, 3, 4, 5, 6] rfl)
set_option maxHeartbeats 4000000 in
set_option maxRecDepth 100000 in
theorem law_sell (X : Cx p c s m cL_law RL 7 G) (hM : mW G (lA s) s.heap M H locs) (hLS : LwS G x y o ar j M) (hS : XS s) (hZ : XZ G (lA s) s s.heap) (hN : NC s) (hst : l.stackTraces = false) (hX : va_X b L xs s s.heap) (hbl : b < s.heap.size) (hbA : ¬ lA s b) (hl : lv_has ls 7 [(4, .int (nI (4 * j))), (0, .ref b), (1, .ref x), (2, .ref y), (3, .ref o)]) (hjL : 4 * j + 4 ≤ L) (hL2 : L ≤ 2048)
    (kk : ∀ (M1 : Mem) (H1 : Heap) (locs1 : List Loc) (ls1 : Array Slot), LwS G x y o ar (j + 1) M1 → mW G (lA s) s.heap M1 H1 locs1 → lv_has ls1 7 [(4, .int (nI (4 * j))), (0, .ref b), (1, .ref x), (2, .ref y), (3, .ref o)] → W p l e room_1 s m args below meth c H1 locs1 (100 + 16 * (j + 1)) (4000 + 200 * (j + 1)) Q (F0 m 1098 ls1 [])) : W p l e room_1 s m args below meth c H locs (100 + 16 * j) (4000 + 200 * j) Q (F0 m 348 ls []) := by
  obtain ⟨a1, ha1⟩ : ∃ a, a = xs (nI (4 * j + 1)).toNatClampNeg := ⟨_, rfl⟩
  obtain ⟨a2, ha2⟩ : ∃ a, a = xs (nI (4 * j + 2)).toNatClampNeg := ⟨_, rfl⟩
  obtain ⟨a3, ha3⟩ : ∃ a, a = xs (nI (4 * j + 3)).toNatClampNeg := ⟨_, rfl⟩
  obtain ⟨N, F, B, MC, MR, f, rfl, dj, ho, hcs, hrm, hL⟩ := hLS
  refine lv_aload_n X.1 X.2.1 dL_law_348 rfl (lv_at hl 2 rfl) ?_
  refine lv_aload_n X.1 X.2.1 dL_law_349 rfl (lv_at hl 1 rfl) ?_
  refine lv_iload X.1 X.2.1 dL_law_350 (lv_at hl 0 rfl) ?_
  refine lv_iconst (v := nI 1) X.1 X.2.1 dL_law_352 (by decide) ?_
  refine lv_iadd X.1 X.2.1 dL_law_353 ?_
  refine lv_top (y := nI (4 * j + 1)) (nI_add _ _) ?_
  refine va_sld X.1 X.2.1 hX hbl hbA hM.2.2.1 (vp_in_nI (by omega) (by omega)) dL_law_354 ?_
  refine lv_top (y := a1) ha1.symm ?_
  refine lv_aload_n X.1 X.2.1 dL_law_355 rfl (lv_at hl 1 rfl) ?_
  refine lv_iload X.1 X.2.1 dL_law_356 (lv_at hl 0 rfl) ?_
  refine lv_iconst (v := nI 2) X.1 X.2.1 dL_law_358 (by decide) ?_
  refine lv_iadd X.1 X.2.1 dL_law_359 ?_
  refine lv_top (y := nI (4 * j + 2)) (nI_add _ _) ?_
  refine va_sld X.1 X.2.1 hX hbl hbA hM.2.2.1 (vp_in_nI (by omega) (by omega)) dL_law_360 ?_
  refine lv_top (y := a2) ha2.symm ?_
  refine lv_aload_n X.1 X.2.1 dL_law_361 rfl (lv_at hl 1 rfl) ?_
  refine lv_iload X.1 X.2.1 dL_law_362 (lv_at hl 0 rfl) ?_
  refine lv_iconst (v := nI 3) X.1 X.2.1 dL_law_364 (by decide) ?_
  refine lv_iadd X.1 X.2.1 dL_law_365 ?_
  refine lv_top (y := nI (4 * j + 3)) (nI_add _ _) ?_
  refine va_sld X.1 X.2.1 hX hbl hbA hM.2.2.1 (vp_in_nI (by omega) (by omega)) dL_law_366 ?_
  refine lv_top (y := a3) ha3.symm ?_
  refine lv_aload_n X.1 X.2.1 dL_law_367 rfl (lv_at hl 4 rfl) ?_
  refine l_callS X hM hS hZ hN kcw_L_sell kini_L (by decide) kar_L_sell kml_L_sell kst_L_sell dL_law_368 ((c_L_sell l G x o N F B MC hcs ho f a1 a2 a3 hst hL.1).fr dj) (As := [.ref x, .int a1, .int a2, .int a3, .ref o]) rfl hl rfl (Nat.le_of_ble_eq_true rfl) ⟨Nat.le_of_ble_eq_true rfl, Nat.le_of_ble_eq_true rfl⟩ ⟨by show 100 + 16 * j + 3 ≤ 601024; omega, by show 4000 + 200 * j + 18 ≤ 7293034; omega⟩ (fun r M1 H locs hp hM => ?_)
  obtain ⟨M2, ⟨rfl, MC2, g, rfl, ho2, hk0, hk1⟩, dj, rfl⟩ := hp
  refine lv_istore (lv' := [(5, .int (nI (kSell N F a1 a2 a3))), (4, .int (nI (4 * j))), (0, .ref b), (1, .ref x), (2, .ref y), (3, .ref o)]) X.1 X.2.1 dL_law_371 hl (by decide) rfl (fun ls hl => ?_)
  refine lv_aload_n X.1 X.2.1 dL_law_373 rfl (lv_at hl 4 rfl) ?_
  refine lv_aload_n X.1 X.2.1 dL_law_374 rfl (lv_at hl 2 rfl) ?_
  refine lv_iload X.1 X.2.1 dL_law_375 (lv_at hl 1 rfl) ?_
  refine lv_iconst (v := nI 1) X.1 X.2.1 dL_law_377 (by decide) ?_
  refine lv_iadd X.1 X.2.1 dL_law_378 ?_
  refine lv_top (y := nI (4 * j + 1)) (nI_add _ _) ?_
  refine va_sld X.1 X.2.1 hX hbl hbA hM.2.2.1 (vp_in_nI (by omega) (by omega)) dL_law_379 ?_
  refine lv_top (y := a1) ha1.symm ?_
  refine lv_aload_n X.1 X.2.1 dL_law_380 rfl (lv_at hl 2 rfl) ?_
  refine lv_iload X.1 X.2.1 dL_law_381 (lv_at hl 1 rfl) ?_
  refine lv_iconst (v := nI 2) X.1 X.2.1 dL_law_383 (by decide) ?_
  refine lv_iadd X.1 X.2.1 dL_law_384 ?_
  refine lv_top (y := nI (4 * j + 2)) (nI_add _ _) ?_
  refine va_sld X.1 X.2.1 hX hbl hbA hM.2.2.1 (vp_in_nI (by omega) (by omega)) dL_law_385 ?_
  refine lv_top (y := a2) ha2.symm ?_
  refine lv_aload_n X.1 X.2.1 dL_law_386 rfl (lv_at hl 2 rfl) ?_
  refine lv_iload X.1 X.2.1 dL_law_387 (lv_at hl 1 rfl) ?_
  refine lv_iconst (v := nI 3) X.1 X.2.1 dL_law_389 (by decide) ?_
  refine lv_iadd X.1 X.2.1 dL_law_390 ?_
  refine lv_top (y := nI (4 * j + 3)) (nI_add _ _) ?_
  refine va_sld X.1 X.2.1 hX hbl hbA hM.2.2.1 (vp_in_nI (by omega) (by omega)) dL_law_391 ?_
  refine lv_top (y := a3) ha3.symm ?_
  rw [mJ_comm dj] at hM
  refine m_callV X hM ck_L_93 ki_X7_sell ks_X7_sell (ci := 8) rfl dL_law_392 ((c_X7_sell l G y ar N F B a1 a2 a3 hL.1 MR hrm).fr dj.sym) (mJ_l hrm.1) (As := [.int a1, .int a2, .int a3]) rfl hl rfl (Nat.le_of_ble_eq_true rfl) ⟨Nat.le_of_ble_eq_true rfl, Nat.le_of_ble_eq_true rfl⟩ ⟨by show 100 + 16 * j + 3 + 0 ≤ 601024; omega, by show 4000 + 200 * j + 18 + 0 ≤ 7293034; omega⟩ (fun r M1 H locs hp hM => ?_)
  obtain ⟨MR2, ⟨N2, F2, B2, ⟨h29, ⟨w, rfl, hw⟩, hm0, hm1⟩, hrm⟩, dj, rfl⟩ := hp
  refine lv_istore (lv' := [(6, .int w), (5, .int (nI (kSell N F a1 a2 a3))), (4, .int (nI (4 * j))), (0, .ref b), (1, .ref x), (2, .ref y), (3, .ref o)]) X.1 X.2.1 dL_law_395 hl (by decide) rfl (fun ls hl => ?_)
  refine lv_aload_n X.1 X.2.1 dL_law_397 rfl (lv_at hl 5 rfl) ?_
  refine m_callV X hM ck_L_77 ki_X7_thrown ks_X7_thrown (ci := 8) rfl dL_law_398 ((c_X7_thrown l G y ar N2 F2 B2 MR2 hrm).fr dj) (mJ_l hrm.1) (As := []) rfl hl rfl (Nat.le_of_ble_eq_true rfl) ⟨Nat.le_of_ble_eq_true rfl, Nat.le_of_ble_eq_true rfl⟩ ⟨by show 100 + 16 * j + 3 + 0 + 0 ≤ 601024; omega, by show 4000 + 200 * j + 18 + 0 + 0 ≤ 7293034; omega⟩ (fun r M1 H locs hp hM => ?_)
  obtain ⟨MR3, ⟨N3, F3, B3, ⟨rfl, rfl, rfl, rfl⟩, hrm⟩, dj, rfl⟩ := hp
  rw [mJ_comm dj] at hM
  have hLS := LwS.step (k := kSell N F a1 a2 a3) hL (fun hk => stp_sell hL hk) dj.sym ho2 hk0 hk1 hm0 hm1 hrm
  refine lv_iload X.1 X.2.1 dL_law_401 (lv_at hl 1 rfl) ?_
  refine lv_icmp_eq (tgt := 408) X.1 X.2.1 dL_law_403 (by decide) (fun _ => ?_) (fun hc => absurd (by rw [h29]) hc)
  refine lv_iload X.1 X.2.1 dL_law_408 (lv_at hl 1 rfl) ?_
  have hk3 : kSell N F a1 a2 a3 ≤ 3 := kSell_le _ _ _ _ _
  refine b_if_ne (tgt := 432) X dL_law_410 (by decide) (a := ((kSell N F a1 a2 a3 : Nat) : Int)) (nI_ti (by omega)) (fun hk => ?_) (fun hk => ?_)
  · skip
    refine lv_goto (tgt := 1098) X.1 X.2.1 dL_law_432 (by decide) ?_
    refine W.widen (k := 100 + 16 * (j + 1)) (n := 4000 + 200 * (j + 1)) (by show 100 + 16 * j + 3 + 0 + 0 ≤ 100 + 16 * (j + 1); omega) (by show 4000 + 200 * j + 18 + 0 + 0 ≤ 4000 + 200 * (j + 1); omega) ?_
    exact kk _ _ _ _ hLS hM (lv_sub hl [2, 3, 4, 5, 6] rfl)
  · have hk : kSell N F a1 a2 a3 = 0 := by omega
    refine lv_aload_n X.1 X.2.1 dL_law_413 rfl (lv_at hl 6 rfl) ?_
    refine lv_iconst (v := nI 0) X.1 X.2.1 dL_law_414 (by decide) ?_
    refine mg_lald X hM dL_law_415 (mJ_l (mJ_r (mO_dj ho2) mO_at)) (vp_in_nI (by decide) (by decide)) ?_
    refine lv_iload X.1 X.2.1 dL_law_416 (lv_at hl 0 rfl) ?_
    refine lv_top (y := bI (faithS F (ix a1) (ix a2))) (hw hk) ?_
    refine b_bool_eq (tgt := 425) X dL_law_418 (by decide) (fun hb => ?_) (fun hb => ?_)
    · refine lv_lconst (v := 0) X.1 X.2.1 dL_law_425 rfl ?_
      refine W.lcmp X.1 X.2.1 dL_law_426 ?_
      refine lv_if_eq (tgt := 432) X.1 X.2.1 dL_law_427 (by decide) (fun _ => ?_) (fun hc => absurd (lg_self (by rw [nI0c, (hk0 hk).2, hb]; rfl)) hc)
      refine lv_goto (tgt := 1098) X.1 X.2.1 dL_law_432 (by decide) ?_
      refine W.widen (k := 100 + 16 * (j + 1)) (n := 4000 + 200 * (j + 1)) (by show 100 + 16 * j + 3 + 0 + 0 ≤ 100 + 16 * (j + 1); omega) (by show 4000 + 200 * j + 18 + 0 + 0 ≤ 4000 + 200 * (j + 1); omega) ?_
      exact kk _ _ _ _ hLS hM (lv_sub hl [2, 3, 4, 5, 6] rfl)
    · refine lv_lconst (v := 1) X.1 X.2.1 dL_law_421 rfl ?_
      refine lv_goto (tgt := 426) X.1 X.2.1 dL_law_422 (by decide) ?_
      refine W.lcmp X.1 X.2.1 dL_law_426 ?_
      refine lv_if_eq (tgt := 432) X.1 X.2.1 dL_law_427 (by decide) (fun _ => ?_) (fun hc => absurd (lg_self (by rw [nI0c, (hk0 hk).2, hb]; rfl)) hc)
      refine lv_goto (tgt := 1098) X.1 X.2.1 dL_law_432 (by decide) ?_
      refine W.widen (k := 100 + 16 * (j + 1)) (n := 4000 + 200 * (j + 1)) (by show 100 + 16 * j + 3 + 0 + 0 ≤ 100 + 16 * (j + 1); omega) (by show 4000 + 200 * j + 18 + 0 + 0 ≤ 4000 + 200 * (j + 1); omega) ?_
      exact kk _ _ _ _ hLS hM (lv_sub hl [2, 3, 4, 5, 6] rfl)
set_option maxHeartbeats 4000000 in
set_option maxRecDepth 100000 in
theorem law_lend (X : Cx p c s m cL_law RL 7 G) (hM : mW G (lA s) s.heap M H locs) (hLS : LwS G x y o ar j M) (hS : XS s) (hZ : XZ G (lA s) s s.heap) (hN : NC s) (hst : l.stackTraces = false) (hX : va_X b L xs s s.heap) (hbl : b < s.heap.size) (hbA : ¬ lA s b) (hl : lv_has ls 7 [(4, .int (nI (4 * j))), (0, .ref b), (1, .ref x), (2, .ref y), (3, .ref o)]) (hjL : 4 * j + 4 ≤ L) (hL2 : L ≤ 2048)
    (kk : ∀ (M1 : Mem) (H1 : Heap) (locs1 : List Loc) (ls1 : Array Slot), LwS G x y o ar (j + 1) M1 → mW G (lA s) s.heap M1 H1 locs1 → lv_has ls1 7 [(4, .int (nI (4 * j))), (0, .ref b), (1, .ref x), (2, .ref y), (3, .ref o)] → W p l e room_1 s m args below meth c H1 locs1 (100 + 16 * (j + 1)) (4000 + 200 * (j + 1)) Q (F0 m 1098 ls1 [])) : W p l e room_1 s m args below meth c H locs (100 + 16 * j) (4000 + 200 * j) Q (F0 m 435 ls []) := by
  obtain ⟨a1, ha1⟩ : ∃ a, a = xs (nI (4 * j + 1)).toNatClampNeg := ⟨_, rfl⟩
  obtain ⟨a2, ha2⟩ : ∃ a, a = xs (nI (4 * j + 2)).toNatClampNeg := ⟨_, rfl⟩
  obtain ⟨a3, ha3⟩ : ∃ a, a = xs (nI (4 * j + 3)).toNatClampNeg := ⟨_, rfl⟩
  obtain ⟨N, F, B, MC, MR, f, rfl, dj, ho, hcs, hrm, hL⟩ := hLS
  refine lv_aload_n X.1 X.2.1 dL_law_435 rfl (lv_at hl 2 rfl) ?_
  refine lv_aload_n X.1 X.2.1 dL_law_436 rfl (lv_at hl 1 rfl) ?_
  refine lv_iload X.1 X.2.1 dL_law_437 (lv_at hl 0 rfl) ?_
  refine lv_iconst (v := nI 1) X.1 X.2.1 dL_law_439 (by decide) ?_
  refine lv_iadd X.1 X.2.1 dL_law_440 ?_
  refine lv_top (y := nI (4 * j + 1)) (nI_add _ _) ?_
  refine va_sld X.1 X.2.1 hX hbl hbA hM.2.2.1 (vp_in_nI (by omega) (by omega)) dL_law_441 ?_
  refine lv_top (y := a1) ha1.symm ?_
  refine lv_aload_n X.1 X.2.1 dL_law_442 rfl (lv_at hl 1 rfl) ?_
  refine lv_iload X.1 X.2.1 dL_law_443 (lv_at hl 0 rfl) ?_
  refine lv_iconst (v := nI 2) X.1 X.2.1 dL_law_445 (by decide) ?_
  refine lv_iadd X.1 X.2.1 dL_law_446 ?_
  refine lv_top (y := nI (4 * j + 2)) (nI_add _ _) ?_
  refine va_sld X.1 X.2.1 hX hbl hbA hM.2.2.1 (vp_in_nI (by omega) (by omega)) dL_law_447 ?_
  refine lv_top (y := a2) ha2.symm ?_
  refine lv_aload_n X.1 X.2.1 dL_law_448 rfl (lv_at hl 1 rfl) ?_
  refine lv_iload X.1 X.2.1 dL_law_449 (lv_at hl 0 rfl) ?_
  refine lv_iconst (v := nI 3) X.1 X.2.1 dL_law_451 (by decide) ?_
  refine lv_iadd X.1 X.2.1 dL_law_452 ?_
  refine lv_top (y := nI (4 * j + 3)) (nI_add _ _) ?_
  refine va_sld X.1 X.2.1 hX hbl hbA hM.2.2.1 (vp_in_nI (by omega) (by omega)) dL_law_453 ?_
  refine lv_top (y := a3) ha3.symm ?_
  refine lv_aload_n X.1 X.2.1 dL_law_454 rfl (lv_at hl 4 rfl) ?_
  refine l_callS X hM hS hZ hN kcw_L_lend kini_L (by decide) kar_L_lend kml_L_lend kst_L_lend dL_law_455 ((c_L_lend l G x o N F B MC hcs ho f a1 a2 a3 hst hL.1).fr dj) (As := [.ref x, .int a1, .int a2, .int a3, .ref o]) rfl hl rfl (Nat.le_of_ble_eq_true rfl) ⟨Nat.le_of_ble_eq_true rfl, Nat.le_of_ble_eq_true rfl⟩ ⟨by show 100 + 16 * j + 3 ≤ 601024; omega, by show 4000 + 200 * j + 18 ≤ 7293034; omega⟩ (fun r M1 H locs hp hM => ?_)
  obtain ⟨M2, ⟨rfl, MC2, g, rfl, ho2, hk0, hk1⟩, dj, rfl⟩ := hp
  refine lv_istore (lv' := [(5, .int (nI (kLend N F a1 a2 a3))), (4, .int (nI (4 * j))), (0, .ref b), (1, .ref x), (2, .ref y), (3, .ref o)]) X.1 X.2.1 dL_law_458 hl (by decide) rfl (fun ls hl => ?_)
  refine lv_aload_n X.1 X.2.1 dL_law_460 rfl (lv_at hl 4 rfl) ?_
  refine lv_aload_n X.1 X.2.1 dL_law_461 rfl (lv_at hl 2 rfl) ?_
  refine lv_iload X.1 X.2.1 dL_law_462 (lv_at hl 1 rfl) ?_
  refine lv_iconst (v := nI 1) X.1 X.2.1 dL_law_464 (by decide) ?_
  refine lv_iadd X.1 X.2.1 dL_law_465 ?_
  refine lv_top (y := nI (4 * j + 1)) (nI_add _ _) ?_
  refine va_sld X.1 X.2.1 hX hbl hbA hM.2.2.1 (vp_in_nI (by omega) (by omega)) dL_law_466 ?_
  refine lv_top (y := a1) ha1.symm ?_
  refine lv_aload_n X.1 X.2.1 dL_law_467 rfl (lv_at hl 2 rfl) ?_
  refine lv_iload X.1 X.2.1 dL_law_468 (lv_at hl 1 rfl) ?_
  refine lv_iconst (v := nI 2) X.1 X.2.1 dL_law_470 (by decide) ?_
  refine lv_iadd X.1 X.2.1 dL_law_471 ?_
  refine lv_top (y := nI (4 * j + 2)) (nI_add _ _) ?_
  refine va_sld X.1 X.2.1 hX hbl hbA hM.2.2.1 (vp_in_nI (by omega) (by omega)) dL_law_472 ?_
  refine lv_top (y := a2) ha2.symm ?_
  refine lv_aload_n X.1 X.2.1 dL_law_473 rfl (lv_at hl 2 rfl) ?_
  refine lv_iload X.1 X.2.1 dL_law_474 (lv_at hl 1 rfl) ?_
  refine lv_iconst (v := nI 3) X.1 X.2.1 dL_law_476 (by decide) ?_
  refine lv_iadd X.1 X.2.1 dL_law_477 ?_
  refine lv_top (y := nI (4 * j + 3)) (nI_add _ _) ?_
  refine va_sld X.1 X.2.1 hX hbl hbA hM.2.2.1 (vp_in_nI (by omega) (by omega)) dL_law_478 ?_
  refine lv_top (y := a3) ha3.symm ?_
  rw [mJ_comm dj] at hM
  refine m_callV X hM ck_L_96 ki_X7_lend ks_X7_lend (ci := 8) rfl dL_law_479 ((c_X7_lend l G y ar N F B a1 a2 a3 hL.1 MR hrm).fr dj.sym) (mJ_l hrm.1) (As := [.int a1, .int a2, .int a3]) rfl hl rfl (Nat.le_of_ble_eq_true rfl) ⟨Nat.le_of_ble_eq_true rfl, Nat.le_of_ble_eq_true rfl⟩ ⟨by show 100 + 16 * j + 3 + 0 ≤ 601024; omega, by show 4000 + 200 * j + 18 + 0 ≤ 7293034; omega⟩ (fun r M1 H locs hp hM => ?_)
  obtain ⟨MR2, ⟨N2, F2, B2, ⟨h29, ⟨w, rfl, hw⟩, hm0, hm1⟩, hrm⟩, dj, rfl⟩ := hp
  refine lv_istore (lv' := [(6, .int w), (5, .int (nI (kLend N F a1 a2 a3))), (4, .int (nI (4 * j))), (0, .ref b), (1, .ref x), (2, .ref y), (3, .ref o)]) X.1 X.2.1 dL_law_482 hl (by decide) rfl (fun ls hl => ?_)
  refine lv_aload_n X.1 X.2.1 dL_law_484 rfl (lv_at hl 5 rfl) ?_
  refine m_callV X hM ck_L_77 ki_X7_thrown ks_X7_thrown (ci := 8) rfl dL_law_485 ((c_X7_thrown l G y ar N2 F2 B2 MR2 hrm).fr dj) (mJ_l hrm.1) (As := []) rfl hl rfl (Nat.le_of_ble_eq_true rfl) ⟨Nat.le_of_ble_eq_true rfl, Nat.le_of_ble_eq_true rfl⟩ ⟨by show 100 + 16 * j + 3 + 0 + 0 ≤ 601024; omega, by show 4000 + 200 * j + 18 + 0 + 0 ≤ 7293034; omega⟩ (fun r M1 H locs hp hM => ?_)
  obtain ⟨MR3, ⟨N3, F3, B3, ⟨rfl, rfl, rfl, rfl⟩, hrm⟩, dj, rfl⟩ := hp
  rw [mJ_comm dj] at hM
  have hLS := LwS.step (k := kLend N F a1 a2 a3) hL (fun hk => stp_lend hL hk) dj.sym ho2 hk0 hk1 hm0 hm1 hrm
  refine lv_iload X.1 X.2.1 dL_law_488 (lv_at hl 1 rfl) ?_
  refine lv_icmp_eq (tgt := 495) X.1 X.2.1 dL_law_490 (by decide) (fun _ => ?_) (fun hc => absurd (by rw [h29]) hc)
  refine lv_iload X.1 X.2.1 dL_law_495 (lv_at hl 1 rfl) ?_
  have hk3 : kLend N F a1 a2 a3 ≤ 3 := kLend_le _ _ _ _ _
  refine b_if_ne (tgt := 512) X dL_law_497 (by decide) (a := ((kLend N F a1 a2 a3 : Nat) : Int)) (nI_ti (by omega)) (fun hk => ?_) (fun hk => ?_)
  · skip
    refine lv_goto (tgt := 1098) X.1 X.2.1 dL_law_512 (by decide) ?_
    refine W.widen (k := 100 + 16 * (j + 1)) (n := 4000 + 200 * (j + 1)) (by show 100 + 16 * j + 3 + 0 + 0 ≤ 100 + 16 * (j + 1); omega) (by show 4000 + 200 * j + 18 + 0 + 0 ≤ 4000 + 200 * (j + 1); omega) ?_
    exact kk _ _ _ _ hLS hM (lv_sub hl [2, 3, 4, 5, 6] rfl)
  · have hk : kLend N F a1 a2 a3 = 0 := by omega
    refine lv_aload_n X.1 X.2.1 dL_law_500 rfl (lv_at hl 6 rfl) ?_
    refine lv_iconst (v := nI 0) X.1 X.2.1 dL_law_501 (by decide) ?_
    refine mg_lald X hM dL_law_502 (mJ_l (mJ_r (mO_dj ho2) mO_at)) (vp_in_nI (by decide) (by decide)) ?_
    refine lv_iload X.1 X.2.1 dL_law_503 (lv_at hl 0 rfl) ?_
    refine lv_i2l (v := w.toInt64) X.1 X.2.1 dL_law_505 rfl ?_
    refine W.lcmp X.1 X.2.1 dL_law_506 ?_
    refine lv_if_eq (tgt := 512) X.1 X.2.1 dL_law_507 (by decide) (fun _ => ?_) (fun hc => absurd (lg_self (by rw [nI0c, (hk0 hk).2, hw hk])) hc)
    refine lv_goto (tgt := 1098) X.1 X.2.1 dL_law_512 (by decide) ?_
    refine W.widen (k := 100 + 16 * (j + 1)) (n := 4000 + 200 * (j + 1)) (by show 100 + 16 * j + 3 + 0 + 0 ≤ 100 + 16 * (j + 1); omega) (by show 4000 + 200 * j + 18 + 0 + 0 ≤ 4000 + 200 * (j + 1); omega) ?_
    exact kk _ _ _ _ hLS hM (lv_sub hl [2, 3, 4, 5, 6] rfl)
set_option maxHeartbeats 4000000 in
set_option maxRecDepth 100000 in
theorem law_proof (X : Cx p c s m cL_law RL 7 G) (hM : mW G (lA s) s.heap M H locs) (hLS : LwS G x y o ar j M) (hS : XS s) (hZ : XZ G (lA s) s s.heap) (hN : NC s) (hst : l.stackTraces = false) (hX : va_X b L xs s s.heap) (hbl : b < s.heap.size) (hbA : ¬ lA s b) (hl : lv_has ls 7 [(4, .int (nI (4 * j))), (0, .ref b), (1, .ref x), (2, .ref y), (3, .ref o)]) (hjL : 4 * j + 4 ≤ L) (hL2 : L ≤ 2048)
    (kk : ∀ (M1 : Mem) (H1 : Heap) (locs1 : List Loc) (ls1 : Array Slot), LwS G x y o ar (j + 1) M1 → mW G (lA s) s.heap M1 H1 locs1 → lv_has ls1 7 [(4, .int (nI (4 * j))), (0, .ref b), (1, .ref x), (2, .ref y), (3, .ref o)] → W p l e room_1 s m args below meth c H1 locs1 (100 + 16 * (j + 1)) (4000 + 200 * (j + 1)) Q (F0 m 1098 ls1 [])) : W p l e room_1 s m args below meth c H locs (100 + 16 * j) (4000 + 200 * j) Q (F0 m 515 ls []) := by
  obtain ⟨a1, ha1⟩ : ∃ a, a = xs (nI (4 * j + 1)).toNatClampNeg := ⟨_, rfl⟩
  obtain ⟨a2, ha2⟩ : ∃ a, a = xs (nI (4 * j + 2)).toNatClampNeg := ⟨_, rfl⟩
  obtain ⟨N, F, B, MC, MR, f, rfl, dj, ho, hcs, hrm, hL⟩ := hLS
  refine lv_aload_n X.1 X.2.1 dL_law_515 rfl (lv_at hl 2 rfl) ?_
  refine lv_aload_n X.1 X.2.1 dL_law_516 rfl (lv_at hl 1 rfl) ?_
  refine lv_iload X.1 X.2.1 dL_law_517 (lv_at hl 0 rfl) ?_
  refine lv_iconst (v := nI 1) X.1 X.2.1 dL_law_519 (by decide) ?_
  refine lv_iadd X.1 X.2.1 dL_law_520 ?_
  refine lv_top (y := nI (4 * j + 1)) (nI_add _ _) ?_
  refine va_sld X.1 X.2.1 hX hbl hbA hM.2.2.1 (vp_in_nI (by omega) (by omega)) dL_law_521 ?_
  refine lv_top (y := a1) ha1.symm ?_
  refine lv_aload_n X.1 X.2.1 dL_law_522 rfl (lv_at hl 1 rfl) ?_
  refine lv_iload X.1 X.2.1 dL_law_523 (lv_at hl 0 rfl) ?_
  refine lv_iconst (v := nI 2) X.1 X.2.1 dL_law_525 (by decide) ?_
  refine lv_iadd X.1 X.2.1 dL_law_526 ?_
  refine lv_top (y := nI (4 * j + 2)) (nI_add _ _) ?_
  refine va_sld X.1 X.2.1 hX hbl hbA hM.2.2.1 (vp_in_nI (by omega) (by omega)) dL_law_527 ?_
  refine lv_top (y := a2) ha2.symm ?_
  refine lv_aload_n X.1 X.2.1 dL_law_528 rfl (lv_at hl 4 rfl) ?_
  refine l_callS X hM hS hZ hN kcw_L_proof kini_L (by decide) kar_L_proof kml_L_proof kst_L_proof dL_law_529 ((c_L_proof l G x o N F B MC hcs ho f a1 a2 hst hL.1).fr dj) (As := [.ref x, .int a1, .int a2, .ref o]) rfl hl rfl (Nat.le_of_ble_eq_true rfl) ⟨Nat.le_of_ble_eq_true rfl, Nat.le_of_ble_eq_true rfl⟩ ⟨by show 100 + 16 * j + 2 ≤ 601024; omega, by show 4000 + 200 * j + 12 ≤ 7293034; omega⟩ (fun r M1 H locs hp hM => ?_)
  obtain ⟨M2, ⟨rfl, MC2, g, rfl, ho2, hk0, hk1⟩, dj, rfl⟩ := hp
  refine lv_istore (lv' := [(5, .int (nI (kProof N a1 a2))), (4, .int (nI (4 * j))), (0, .ref b), (1, .ref x), (2, .ref y), (3, .ref o)]) X.1 X.2.1 dL_law_532 hl (by decide) rfl (fun ls hl => ?_)
  refine lv_aload_n X.1 X.2.1 dL_law_534 rfl (lv_at hl 4 rfl) ?_
  refine lv_aload_n X.1 X.2.1 dL_law_535 rfl (lv_at hl 2 rfl) ?_
  refine lv_iload X.1 X.2.1 dL_law_536 (lv_at hl 1 rfl) ?_
  refine lv_iconst (v := nI 1) X.1 X.2.1 dL_law_538 (by decide) ?_
  refine lv_iadd X.1 X.2.1 dL_law_539 ?_
  refine lv_top (y := nI (4 * j + 1)) (nI_add _ _) ?_
  refine va_sld X.1 X.2.1 hX hbl hbA hM.2.2.1 (vp_in_nI (by omega) (by omega)) dL_law_540 ?_
  refine lv_top (y := a1) ha1.symm ?_
  refine lv_aload_n X.1 X.2.1 dL_law_541 rfl (lv_at hl 2 rfl) ?_
  refine lv_iload X.1 X.2.1 dL_law_542 (lv_at hl 1 rfl) ?_
  refine lv_iconst (v := nI 2) X.1 X.2.1 dL_law_544 (by decide) ?_
  refine lv_iadd X.1 X.2.1 dL_law_545 ?_
  refine lv_top (y := nI (4 * j + 2)) (nI_add _ _) ?_
  refine va_sld X.1 X.2.1 hX hbl hbA hM.2.2.1 (vp_in_nI (by omega) (by omega)) dL_law_546 ?_
  refine lv_top (y := a2) ha2.symm ?_
  rw [mJ_comm dj] at hM
  refine m_callV X hM ck_L_99 ki_X7_proof ks_X7_proof (ci := 8) rfl dL_law_547 ((c_X7_proof l G y ar N F B a1 a2 hL.1 MR hrm).fr dj.sym) (mJ_l hrm.1) (As := [.int a1, .int a2]) rfl hl rfl (Nat.le_of_ble_eq_true rfl) ⟨Nat.le_of_ble_eq_true rfl, Nat.le_of_ble_eq_true rfl⟩ ⟨by show 100 + 16 * j + 2 + 0 ≤ 601024; omega, by show 4000 + 200 * j + 12 + 0 ≤ 7293034; omega⟩ (fun r M1 H locs hp hM => ?_)
  obtain ⟨MR2, ⟨N2, F2, B2, ⟨h29, ⟨w, rfl, hw⟩, hm0, hm1⟩, hrm⟩, dj, rfl⟩ := hp
  refine lv_istore (lv' := [(6, .int w), (5, .int (nI (kProof N a1 a2))), (4, .int (nI (4 * j))), (0, .ref b), (1, .ref x), (2, .ref y), (3, .ref o)]) X.1 X.2.1 dL_law_550 hl (by decide) rfl (fun ls hl => ?_)
  refine lv_aload_n X.1 X.2.1 dL_law_552 rfl (lv_at hl 5 rfl) ?_
  refine m_callV X hM ck_L_77 ki_X7_thrown ks_X7_thrown (ci := 8) rfl dL_law_553 ((c_X7_thrown l G y ar N2 F2 B2 MR2 hrm).fr dj) (mJ_l hrm.1) (As := []) rfl hl rfl (Nat.le_of_ble_eq_true rfl) ⟨Nat.le_of_ble_eq_true rfl, Nat.le_of_ble_eq_true rfl⟩ ⟨by show 100 + 16 * j + 2 + 0 + 0 ≤ 601024; omega, by show 4000 + 200 * j + 12 + 0 + 0 ≤ 7293034; omega⟩ (fun r M1 H locs hp hM => ?_)
  obtain ⟨MR3, ⟨N3, F3, B3, ⟨rfl, rfl, rfl, rfl⟩, hrm⟩, dj, rfl⟩ := hp
  rw [mJ_comm dj] at hM
  have hLS := LwS.step (k := kProof N a1 a2) hL (fun hk => stp_proof hL hk) dj.sym ho2 hk0 hk1 hm0 hm1 hrm
  refine lv_iload X.1 X.2.1 dL_law_556 (lv_at hl 1 rfl) ?_
  refine lv_icmp_eq (tgt := 563) X.1 X.2.1 dL_law_558 (by decide) (fun _ => ?_) (fun hc => absurd (by rw [h29]) hc)
  refine lv_iload X.1 X.2.1 dL_law_563 (lv_at hl 1 rfl) ?_
  have hk3 : kProof N a1 a2 ≤ 3 := kProof_le _ _ _
  refine b_if_ne (tgt := 580) X dL_law_565 (by decide) (a := ((kProof N a1 a2 : Nat) : Int)) (nI_ti (by omega)) (fun hk => ?_) (fun hk => ?_)
  · skip
    refine lv_goto (tgt := 1098) X.1 X.2.1 dL_law_580 (by decide) ?_
    refine W.widen (k := 100 + 16 * (j + 1)) (n := 4000 + 200 * (j + 1)) (by show 100 + 16 * j + 2 + 0 + 0 ≤ 100 + 16 * (j + 1); omega) (by show 4000 + 200 * j + 12 + 0 + 0 ≤ 4000 + 200 * (j + 1); omega) ?_
    exact kk _ _ _ _ hLS hM (lv_sub hl [2, 3, 4, 5, 6] rfl)
  · have hk : kProof N a1 a2 = 0 := by omega
    refine lv_aload_n X.1 X.2.1 dL_law_568 rfl (lv_at hl 6 rfl) ?_
    refine lv_iconst (v := nI 0) X.1 X.2.1 dL_law_569 (by decide) ?_
    refine mg_lald X hM dL_law_570 (mJ_l (mJ_r (mO_dj ho2) mO_at)) (vp_in_nI (by decide) (by decide)) ?_
    refine lv_iload X.1 X.2.1 dL_law_571 (lv_at hl 0 rfl) ?_
    refine lv_i2l (v := w.toInt64) X.1 X.2.1 dL_law_573 rfl ?_
    refine W.lcmp X.1 X.2.1 dL_law_574 ?_
    refine lv_if_eq (tgt := 580) X.1 X.2.1 dL_law_575 (by decide) (fun _ => ?_) (fun hc => absurd (lg_self (by rw [nI0c, (hk0 hk).2, hw hk])) hc)
    refine lv_goto (tgt := 1098) X.1 X.2.1 dL_law_580 (by decide) ?_
    refine W.widen (k := 100 + 16 * (j + 1)) (n := 4000 + 200 * (j + 1)) (by show 100 + 16 * j + 2 + 0 + 0 ≤ 100 + 16 * (j + 1); omega) (by show 4000 + 200 * j + 12 + 0 + 0 ≤ 4000 + 200 * (j + 1); omega) ?_
    exact kk _ _ _ _ hLS hM (lv_sub hl [2, 3, 4, 5, 6] rfl)
set_option maxHeartbeats 4000000 in
set_option maxRecDepth 100000 in
theorem law_clear (X : Cx p c s m cL_law RL 7 G) (hM : mW G (lA s) s.heap M H locs) (hLS : LwS G x y o ar j M) (hS : XS s) (hZ : XZ G (lA s) s s.heap) (hN : NC s) (hst : l.stackTraces = false) (hX : va_X b L xs s s.heap) (hbl : b < s.heap.size) (hbA : ¬ lA s b) (hl : lv_has ls 7 [(4, .int (nI (4 * j))), (0, .ref b), (1, .ref x), (2, .ref y), (3, .ref o)]) (hjL : 4 * j + 4 ≤ L) (hL2 : L ≤ 2048)
    (kk : ∀ (M1 : Mem) (H1 : Heap) (locs1 : List Loc) (ls1 : Array Slot), LwS G x y o ar (j + 1) M1 → mW G (lA s) s.heap M1 H1 locs1 → lv_has ls1 7 [(4, .int (nI (4 * j))), (0, .ref b), (1, .ref x), (2, .ref y), (3, .ref o)] → W p l e room_1 s m args below meth c H1 locs1 (100 + 16 * (j + 1)) (4000 + 200 * (j + 1)) Q (F0 m 1098 ls1 [])) : W p l e room_1 s m args below meth c H locs (100 + 16 * j) (4000 + 200 * j) Q (F0 m 583 ls []) := by
  obtain ⟨a1, ha1⟩ : ∃ a, a = xs (nI (4 * j + 1)).toNatClampNeg := ⟨_, rfl⟩
  obtain ⟨N, F, B, MC, MR, f, rfl, dj, ho, hcs, hrm, hL⟩ := hLS
  refine lv_aload_n X.1 X.2.1 dL_law_583 rfl (lv_at hl 2 rfl) ?_
  refine lv_aload_n X.1 X.2.1 dL_law_584 rfl (lv_at hl 1 rfl) ?_
  refine lv_iload X.1 X.2.1 dL_law_585 (lv_at hl 0 rfl) ?_
  refine lv_iconst (v := nI 1) X.1 X.2.1 dL_law_587 (by decide) ?_
  refine lv_iadd X.1 X.2.1 dL_law_588 ?_
  refine lv_top (y := nI (4 * j + 1)) (nI_add _ _) ?_
  refine va_sld X.1 X.2.1 hX hbl hbA hM.2.2.1 (vp_in_nI (by omega) (by omega)) dL_law_589 ?_
  refine lv_top (y := a1) ha1.symm ?_
  refine lv_aload_n X.1 X.2.1 dL_law_590 rfl (lv_at hl 4 rfl) ?_
  refine l_callS X hM hS hZ hN kcw_L_clear kini_L (by decide) kar_L_clear kml_L_clear kst_L_clear dL_law_591 ((c_L_clear l G x o N F B MC hcs ho f a1 hst hL.1).fr dj) (As := [.ref x, .int a1, .ref o]) rfl hl rfl (Nat.le_of_ble_eq_true rfl) ⟨Nat.le_of_ble_eq_true rfl, Nat.le_of_ble_eq_true rfl⟩ ⟨by show 100 + 16 * j + 2 ≤ 601024; omega, by show 4000 + 200 * j + 12 ≤ 7293034; omega⟩ (fun r M1 H locs hp hM => ?_)
  obtain ⟨M2, ⟨rfl, MC2, g, rfl, ho2, hk0, hk1⟩, dj, rfl⟩ := hp
  refine lv_istore (lv' := [(5, .int (nI (kClear N F a1))), (4, .int (nI (4 * j))), (0, .ref b), (1, .ref x), (2, .ref y), (3, .ref o)]) X.1 X.2.1 dL_law_594 hl (by decide) rfl (fun ls hl => ?_)
  refine lv_aload_n X.1 X.2.1 dL_law_596 rfl (lv_at hl 4 rfl) ?_
  refine lv_aload_n X.1 X.2.1 dL_law_597 rfl (lv_at hl 2 rfl) ?_
  refine lv_iload X.1 X.2.1 dL_law_598 (lv_at hl 1 rfl) ?_
  refine lv_iconst (v := nI 1) X.1 X.2.1 dL_law_600 (by decide) ?_
  refine lv_iadd X.1 X.2.1 dL_law_601 ?_
  refine lv_top (y := nI (4 * j + 1)) (nI_add _ _) ?_
  refine va_sld X.1 X.2.1 hX hbl hbA hM.2.2.1 (vp_in_nI (by omega) (by omega)) dL_law_602 ?_
  refine lv_top (y := a1) ha1.symm ?_
  rw [mJ_comm dj] at hM
  refine m_callV X hM ck_L_103 ki_X7_clear ks_X7_clear (ci := 8) rfl dL_law_603 ((c_X7_clear l G y ar N F B a1 hL.1 MR hrm).fr dj.sym) (mJ_l hrm.1) (As := [.int a1]) rfl hl rfl (Nat.le_of_ble_eq_true rfl) ⟨Nat.le_of_ble_eq_true rfl, Nat.le_of_ble_eq_true rfl⟩ ⟨by show 100 + 16 * j + 2 + 0 ≤ 601024; omega, by show 4000 + 200 * j + 12 + 0 ≤ 7293034; omega⟩ (fun r M1 H locs hp hM => ?_)
  obtain ⟨MR2, ⟨N2, F2, B2, ⟨h29, ⟨w, rfl, hw⟩, hm0, hm1⟩, hrm⟩, dj, rfl⟩ := hp
  refine lv_istore (lv' := [(6, .int w), (5, .int (nI (kClear N F a1))), (4, .int (nI (4 * j))), (0, .ref b), (1, .ref x), (2, .ref y), (3, .ref o)]) X.1 X.2.1 dL_law_606 hl (by decide) rfl (fun ls hl => ?_)
  refine lv_aload_n X.1 X.2.1 dL_law_608 rfl (lv_at hl 5 rfl) ?_
  refine m_callV X hM ck_L_77 ki_X7_thrown ks_X7_thrown (ci := 8) rfl dL_law_609 ((c_X7_thrown l G y ar N2 F2 B2 MR2 hrm).fr dj) (mJ_l hrm.1) (As := []) rfl hl rfl (Nat.le_of_ble_eq_true rfl) ⟨Nat.le_of_ble_eq_true rfl, Nat.le_of_ble_eq_true rfl⟩ ⟨by show 100 + 16 * j + 2 + 0 + 0 ≤ 601024; omega, by show 4000 + 200 * j + 12 + 0 + 0 ≤ 7293034; omega⟩ (fun r M1 H locs hp hM => ?_)
  obtain ⟨MR3, ⟨N3, F3, B3, ⟨rfl, rfl, rfl, rfl⟩, hrm⟩, dj, rfl⟩ := hp
  rw [mJ_comm dj] at hM
  have hLS := LwS.step (k := kClear N F a1) hL (fun hk => stp_clear hL) dj.sym ho2 hk0 hk1 hm0 hm1 hrm
  refine lv_iload X.1 X.2.1 dL_law_612 (lv_at hl 1 rfl) ?_
  refine lv_icmp_eq (tgt := 619) X.1 X.2.1 dL_law_614 (by decide) (fun _ => ?_) (fun hc => absurd (by rw [h29]) hc)
  refine lv_iload X.1 X.2.1 dL_law_619 (lv_at hl 1 rfl) ?_
  have hk3 : kClear N F a1 ≤ 3 := kClear_le _ _ _
  refine b_if_ne (tgt := 636) X dL_law_621 (by decide) (a := ((kClear N F a1 : Nat) : Int)) (nI_ti (by omega)) (fun hk => ?_) (fun hk => ?_)
  · skip
    refine lv_goto (tgt := 1098) X.1 X.2.1 dL_law_636 (by decide) ?_
    refine W.widen (k := 100 + 16 * (j + 1)) (n := 4000 + 200 * (j + 1)) (by show 100 + 16 * j + 2 + 0 + 0 ≤ 100 + 16 * (j + 1); omega) (by show 4000 + 200 * j + 12 + 0 + 0 ≤ 4000 + 200 * (j + 1); omega) ?_
    exact kk _ _ _ _ hLS hM (lv_sub hl [2, 3, 4, 5, 6] rfl)
  · have hk : kClear N F a1 = 0 := by omega
    refine lv_aload_n X.1 X.2.1 dL_law_624 rfl (lv_at hl 6 rfl) ?_
    refine lv_iconst (v := nI 0) X.1 X.2.1 dL_law_625 (by decide) ?_
    refine mg_lald X hM dL_law_626 (mJ_l (mJ_r (mO_dj ho2) mO_at)) (vp_in_nI (by decide) (by decide)) ?_
    refine lv_iload X.1 X.2.1 dL_law_627 (lv_at hl 0 rfl) ?_
    refine lv_i2l (v := w.toInt64) X.1 X.2.1 dL_law_629 rfl ?_
    refine W.lcmp X.1 X.2.1 dL_law_630 ?_
    refine lv_if_eq (tgt := 636) X.1 X.2.1 dL_law_631 (by decide) (fun _ => ?_) (fun hc => absurd (lg_self (by rw [nI0c, (hk0 hk).2, hw hk])) hc)
    refine lv_goto (tgt := 1098) X.1 X.2.1 dL_law_636 (by decide) ?_
    refine W.widen (k := 100 + 16 * (j + 1)) (n := 4000 + 200 * (j + 1)) (by show 100 + 16 * j + 2 + 0 + 0 ≤ 100 + 16 * (j + 1); omega) (by show 4000 + 200 * j + 12 + 0 + 0 ≤ 4000 + 200 * (j + 1); omega) ?_
    exact kk _ _ _ _ hLS hM (lv_sub hl [2, 3, 4, 5, 6] rfl)
set_option maxHeartbeats 4000000 in
set_option maxRecDepth 100000 in
theorem law_ban (X : Cx p c s m cL_law RL 7 G) (hM : mW G (lA s) s.heap M H locs) (hLS : LwS G x y o ar j M) (hS : XS s) (hZ : XZ G (lA s) s s.heap) (hN : NC s) (hst : l.stackTraces = false) (hX : va_X b L xs s s.heap) (hbl : b < s.heap.size) (hbA : ¬ lA s b) (hl : lv_has ls 7 [(4, .int (nI (4 * j))), (0, .ref b), (1, .ref x), (2, .ref y), (3, .ref o)]) (hjL : 4 * j + 4 ≤ L) (hL2 : L ≤ 2048)
    (kk : ∀ (M1 : Mem) (H1 : Heap) (locs1 : List Loc) (ls1 : Array Slot), LwS G x y o ar (j + 1) M1 → mW G (lA s) s.heap M1 H1 locs1 → lv_has ls1 7 [(4, .int (nI (4 * j))), (0, .ref b), (1, .ref x), (2, .ref y), (3, .ref o)] → W p l e room_1 s m args below meth c H1 locs1 (100 + 16 * (j + 1)) (4000 + 200 * (j + 1)) Q (F0 m 1098 ls1 [])) : W p l e room_1 s m args below meth c H locs (100 + 16 * j) (4000 + 200 * j) Q (F0 m 639 ls []) := by
  obtain ⟨a1, ha1⟩ : ∃ a, a = xs (nI (4 * j + 1)).toNatClampNeg := ⟨_, rfl⟩
  obtain ⟨a2, ha2⟩ : ∃ a, a = xs (nI (4 * j + 2)).toNatClampNeg := ⟨_, rfl⟩
  obtain ⟨N, F, B, MC, MR, f, rfl, dj, ho, hcs, hrm, hL⟩ := hLS
  refine lv_aload_n X.1 X.2.1 dL_law_639 rfl (lv_at hl 2 rfl) ?_
  refine lv_aload_n X.1 X.2.1 dL_law_640 rfl (lv_at hl 1 rfl) ?_
  refine lv_iload X.1 X.2.1 dL_law_641 (lv_at hl 0 rfl) ?_
  refine lv_iconst (v := nI 1) X.1 X.2.1 dL_law_643 (by decide) ?_
  refine lv_iadd X.1 X.2.1 dL_law_644 ?_
  refine lv_top (y := nI (4 * j + 1)) (nI_add _ _) ?_
  refine va_sld X.1 X.2.1 hX hbl hbA hM.2.2.1 (vp_in_nI (by omega) (by omega)) dL_law_645 ?_
  refine lv_top (y := a1) ha1.symm ?_
  refine lv_aload_n X.1 X.2.1 dL_law_646 rfl (lv_at hl 1 rfl) ?_
  refine lv_iload X.1 X.2.1 dL_law_647 (lv_at hl 0 rfl) ?_
  refine lv_iconst (v := nI 2) X.1 X.2.1 dL_law_649 (by decide) ?_
  refine lv_iadd X.1 X.2.1 dL_law_650 ?_
  refine lv_top (y := nI (4 * j + 2)) (nI_add _ _) ?_
  refine va_sld X.1 X.2.1 hX hbl hbA hM.2.2.1 (vp_in_nI (by omega) (by omega)) dL_law_651 ?_
  refine lv_top (y := a2) ha2.symm ?_
  refine lv_aload_n X.1 X.2.1 dL_law_652 rfl (lv_at hl 4 rfl) ?_
  refine l_callS X hM hS hZ hN kcw_L_ban kini_L (by decide) kar_L_ban kml_L_ban kst_L_ban dL_law_653 ((c_L_ban l G x o N F B MC hcs ho f a1 a2 hst hL.1).fr dj) (As := [.ref x, .int a1, .int a2, .ref o]) rfl hl rfl (Nat.le_of_ble_eq_true rfl) ⟨Nat.le_of_ble_eq_true rfl, Nat.le_of_ble_eq_true rfl⟩ ⟨by show 100 + 16 * j + 2 ≤ 601024; omega, by show 4000 + 200 * j + 12 ≤ 7293034; omega⟩ (fun r M1 H locs hp hM => ?_)
  obtain ⟨M2, ⟨rfl, MC2, g, rfl, ho2, hk0, hk1⟩, dj, rfl⟩ := hp
  refine lv_istore (lv' := [(5, .int (nI (kBan N a1 a2))), (4, .int (nI (4 * j))), (0, .ref b), (1, .ref x), (2, .ref y), (3, .ref o)]) X.1 X.2.1 dL_law_656 hl (by decide) rfl (fun ls hl => ?_)
  refine lv_aload_n X.1 X.2.1 dL_law_658 rfl (lv_at hl 4 rfl) ?_
  refine lv_aload_n X.1 X.2.1 dL_law_659 rfl (lv_at hl 2 rfl) ?_
  refine lv_iload X.1 X.2.1 dL_law_660 (lv_at hl 1 rfl) ?_
  refine lv_iconst (v := nI 1) X.1 X.2.1 dL_law_662 (by decide) ?_
  refine lv_iadd X.1 X.2.1 dL_law_663 ?_
  refine lv_top (y := nI (4 * j + 1)) (nI_add _ _) ?_
  refine va_sld X.1 X.2.1 hX hbl hbA hM.2.2.1 (vp_in_nI (by omega) (by omega)) dL_law_664 ?_
  refine lv_top (y := a1) ha1.symm ?_
  refine lv_aload_n X.1 X.2.1 dL_law_665 rfl (lv_at hl 2 rfl) ?_
  refine lv_iload X.1 X.2.1 dL_law_666 (lv_at hl 1 rfl) ?_
  refine lv_iconst (v := nI 2) X.1 X.2.1 dL_law_668 (by decide) ?_
  refine lv_iadd X.1 X.2.1 dL_law_669 ?_
  refine lv_top (y := nI (4 * j + 2)) (nI_add _ _) ?_
  refine va_sld X.1 X.2.1 hX hbl hbA hM.2.2.1 (vp_in_nI (by omega) (by omega)) dL_law_670 ?_
  refine lv_top (y := a2) ha2.symm ?_
  rw [mJ_comm dj] at hM
  refine m_callV X hM ck_L_106 ki_X7_ban ks_X7_ban (ci := 8) rfl dL_law_671 ((c_X7_ban l G y ar N F B a1 a2 hL.1 MR hrm).fr dj.sym) (mJ_l hrm.1) (As := [.int a1, .int a2]) rfl hl rfl (Nat.le_of_ble_eq_true rfl) ⟨Nat.le_of_ble_eq_true rfl, Nat.le_of_ble_eq_true rfl⟩ ⟨by show 100 + 16 * j + 2 + 0 ≤ 601024; omega, by show 4000 + 200 * j + 12 + 0 ≤ 7293034; omega⟩ (fun r M1 H locs hp hM => ?_)
  obtain ⟨MR2, ⟨N2, F2, B2, ⟨h29, ⟨w, rfl, hw⟩, hm0, hm1⟩, hrm⟩, dj, rfl⟩ := hp
  refine lv_istore (lv' := [(6, .int w), (5, .int (nI (kBan N a1 a2))), (4, .int (nI (4 * j))), (0, .ref b), (1, .ref x), (2, .ref y), (3, .ref o)]) X.1 X.2.1 dL_law_674 hl (by decide) rfl (fun ls hl => ?_)
  refine lv_aload_n X.1 X.2.1 dL_law_676 rfl (lv_at hl 5 rfl) ?_
  refine m_callV X hM ck_L_77 ki_X7_thrown ks_X7_thrown (ci := 8) rfl dL_law_677 ((c_X7_thrown l G y ar N2 F2 B2 MR2 hrm).fr dj) (mJ_l hrm.1) (As := []) rfl hl rfl (Nat.le_of_ble_eq_true rfl) ⟨Nat.le_of_ble_eq_true rfl, Nat.le_of_ble_eq_true rfl⟩ ⟨by show 100 + 16 * j + 2 + 0 + 0 ≤ 601024; omega, by show 4000 + 200 * j + 12 + 0 + 0 ≤ 7293034; omega⟩ (fun r M1 H locs hp hM => ?_)
  obtain ⟨MR3, ⟨N3, F3, B3, ⟨rfl, rfl, rfl, rfl⟩, hrm⟩, dj, rfl⟩ := hp
  rw [mJ_comm dj] at hM
  have hLS := LwS.step (k := kBan N a1 a2) hL (fun hk => stp_ban hL (by omega) hk) dj.sym ho2 hk0 hk1 hm0 hm1 hrm
  refine lv_iload X.1 X.2.1 dL_law_680 (lv_at hl 1 rfl) ?_
  refine lv_icmp_eq (tgt := 687) X.1 X.2.1 dL_law_682 (by decide) (fun _ => ?_) (fun hc => absurd (by rw [h29]) hc)
  refine lv_iload X.1 X.2.1 dL_law_687 (lv_at hl 1 rfl) ?_
  have hk3 : kBan N a1 a2 ≤ 3 := kBan_le _ _ _
  refine b_if_ne (tgt := 704) X dL_law_689 (by decide) (a := ((kBan N a1 a2 : Nat) : Int)) (nI_ti (by omega)) (fun hk => ?_) (fun hk => ?_)
  · skip
    refine lv_goto (tgt := 1098) X.1 X.2.1 dL_law_704 (by decide) ?_
    refine W.widen (k := 100 + 16 * (j + 1)) (n := 4000 + 200 * (j + 1)) (by show 100 + 16 * j + 2 + 0 + 0 ≤ 100 + 16 * (j + 1); omega) (by show 4000 + 200 * j + 12 + 0 + 0 ≤ 4000 + 200 * (j + 1); omega) ?_
    exact kk _ _ _ _ hLS hM (lv_sub hl [2, 3, 4, 5, 6] rfl)
  · have hk : kBan N a1 a2 = 0 := by omega
    refine lv_aload_n X.1 X.2.1 dL_law_692 rfl (lv_at hl 6 rfl) ?_
    refine lv_iconst (v := nI 0) X.1 X.2.1 dL_law_693 (by decide) ?_
    refine mg_lald X hM dL_law_694 (mJ_l (mJ_r (mO_dj ho2) mO_at)) (vp_in_nI (by decide) (by decide)) ?_
    refine lv_iload X.1 X.2.1 dL_law_695 (lv_at hl 0 rfl) ?_
    refine lv_i2l (v := w.toInt64) X.1 X.2.1 dL_law_697 rfl ?_
    refine W.lcmp X.1 X.2.1 dL_law_698 ?_
    refine lv_if_eq (tgt := 704) X.1 X.2.1 dL_law_699 (by decide) (fun _ => ?_) (fun hc => absurd (lg_self (by rw [nI0c, (hk0 hk).2, hw hk])) hc)
    refine lv_goto (tgt := 1098) X.1 X.2.1 dL_law_704 (by decide) ?_
    refine W.widen (k := 100 + 16 * (j + 1)) (n := 4000 + 200 * (j + 1)) (by show 100 + 16 * j + 2 + 0 + 0 ≤ 100 + 16 * (j + 1); omega) (by show 4000 + 200 * j + 12 + 0 + 0 ≤ 4000 + 200 * (j + 1); omega) ?_
    exact kk _ _ _ _ hLS hM (lv_sub hl [2, 3, 4, 5, 6] rfl)
set_option maxHeartbeats 4000000 in
set_option maxRecDepth 100000 in
theorem law_pass (X : Cx p c s m cL_law RL 7 G) (hM : mW G (lA s) s.heap M H locs) (hLS : LwS G x y o ar j M) (hS : XS s) (hZ : XZ G (lA s) s s.heap) (hN : NC s) (hst : l.stackTraces = false) (hX : va_X b L xs s s.heap) (hbl : b < s.heap.size) (hbA : ¬ lA s b) (hl : lv_has ls 7 [(4, .int (nI (4 * j))), (0, .ref b), (1, .ref x), (2, .ref y), (3, .ref o)]) (hjL : 4 * j + 4 ≤ L) (hL2 : L ≤ 2048)
    (kk : ∀ (M1 : Mem) (H1 : Heap) (locs1 : List Loc) (ls1 : Array Slot), LwS G x y o ar (j + 1) M1 → mW G (lA s) s.heap M1 H1 locs1 → lv_has ls1 7 [(4, .int (nI (4 * j))), (0, .ref b), (1, .ref x), (2, .ref y), (3, .ref o)] → W p l e room_1 s m args below meth c H1 locs1 (100 + 16 * (j + 1)) (4000 + 200 * (j + 1)) Q (F0 m 1098 ls1 [])) : W p l e room_1 s m args below meth c H locs (100 + 16 * j) (4000 + 200 * j) Q (F0 m 707 ls []) := by
  obtain ⟨a1, ha1⟩ : ∃ a, a = xs (nI (4 * j + 1)).toNatClampNeg := ⟨_, rfl⟩
  obtain ⟨N, F, B, MC, MR, f, rfl, dj, ho, hcs, hrm, hL⟩ := hLS
  refine lv_aload_n X.1 X.2.1 dL_law_707 rfl (lv_at hl 2 rfl) ?_
  refine lv_aload_n X.1 X.2.1 dL_law_708 rfl (lv_at hl 1 rfl) ?_
  refine lv_iload X.1 X.2.1 dL_law_709 (lv_at hl 0 rfl) ?_
  refine lv_iconst (v := nI 1) X.1 X.2.1 dL_law_711 (by decide) ?_
  refine lv_iadd X.1 X.2.1 dL_law_712 ?_
  refine lv_top (y := nI (4 * j + 1)) (nI_add _ _) ?_
  refine va_sld X.1 X.2.1 hX hbl hbA hM.2.2.1 (vp_in_nI (by omega) (by omega)) dL_law_713 ?_
  refine lv_top (y := a1) ha1.symm ?_
  refine lv_aload_n X.1 X.2.1 dL_law_714 rfl (lv_at hl 4 rfl) ?_
  refine l_callS X hM hS hZ hN kcw_L_pass kini_L (by decide) kar_L_pass kml_L_pass kst_L_pass dL_law_715 ((c_L_pass l G x o N F B MC hcs ho f a1 hst hL.1).fr dj) (As := [.ref x, .int a1, .ref o]) rfl hl rfl (Nat.le_of_ble_eq_true rfl) ⟨Nat.le_of_ble_eq_true rfl, Nat.le_of_ble_eq_true rfl⟩ ⟨by show 100 + 16 * j + 1 ≤ 601024; omega, by show 4000 + 200 * j + 6 ≤ 7293034; omega⟩ (fun r M1 H locs hp hM => ?_)
  obtain ⟨M2, ⟨rfl, MC2, g, rfl, ho2, hk0, hk1⟩, dj, rfl⟩ := hp
  refine lv_istore (lv' := [(5, .int (nI (kPass a1))), (4, .int (nI (4 * j))), (0, .ref b), (1, .ref x), (2, .ref y), (3, .ref o)]) X.1 X.2.1 dL_law_718 hl (by decide) rfl (fun ls hl => ?_)
  refine lv_aload_n X.1 X.2.1 dL_law_720 rfl (lv_at hl 4 rfl) ?_
  refine lv_aload_n X.1 X.2.1 dL_law_721 rfl (lv_at hl 2 rfl) ?_
  refine lv_iload X.1 X.2.1 dL_law_722 (lv_at hl 1 rfl) ?_
  refine lv_iconst (v := nI 1) X.1 X.2.1 dL_law_724 (by decide) ?_
  refine lv_iadd X.1 X.2.1 dL_law_725 ?_
  refine lv_top (y := nI (4 * j + 1)) (nI_add _ _) ?_
  refine va_sld X.1 X.2.1 hX hbl hbA hM.2.2.1 (vp_in_nI (by omega) (by omega)) dL_law_726 ?_
  refine lv_top (y := a1) ha1.symm ?_
  rw [mJ_comm dj] at hM
  refine m_callV X hM ck_L_109 ki_X7_pass ks_X7_pass (ci := 8) rfl dL_law_727 ((c_X7_pass l G y ar N F B a1 hL.1 MR hrm).fr dj.sym) (mJ_l hrm.1) (As := [.int a1]) rfl hl rfl (Nat.le_of_ble_eq_true rfl) ⟨Nat.le_of_ble_eq_true rfl, Nat.le_of_ble_eq_true rfl⟩ ⟨by show 100 + 16 * j + 1 + 0 ≤ 601024; omega, by show 4000 + 200 * j + 6 + 0 ≤ 7293034; omega⟩ (fun r M1 H locs hp hM => ?_)
  obtain ⟨MR2, ⟨N2, F2, B2, ⟨h29, ⟨w, rfl, hw⟩, hm0, hm1⟩, hrm⟩, dj, rfl⟩ := hp
  refine lv_istore (lv' := [(6, .int w), (5, .int (nI (kPass a1))), (4, .int (nI (4 * j))), (0, .ref b), (1, .ref x), (2, .ref y), (3, .ref o)]) X.1 X.2.1 dL_law_730 hl (by decide) rfl (fun ls hl => ?_)
  refine lv_aload_n X.1 X.2.1 dL_law_732 rfl (lv_at hl 5 rfl) ?_
  refine m_callV X hM ck_L_77 ki_X7_thrown ks_X7_thrown (ci := 8) rfl dL_law_733 ((c_X7_thrown l G y ar N2 F2 B2 MR2 hrm).fr dj) (mJ_l hrm.1) (As := []) rfl hl rfl (Nat.le_of_ble_eq_true rfl) ⟨Nat.le_of_ble_eq_true rfl, Nat.le_of_ble_eq_true rfl⟩ ⟨by show 100 + 16 * j + 1 + 0 + 0 ≤ 601024; omega, by show 4000 + 200 * j + 6 + 0 + 0 ≤ 7293034; omega⟩ (fun r M1 H locs hp hM => ?_)
  obtain ⟨MR3, ⟨N3, F3, B3, ⟨rfl, rfl, rfl, rfl⟩, hrm⟩, dj, rfl⟩ := hp
  rw [mJ_comm dj] at hM
  have hLS := LwS.step (k := kPass a1) hL (fun hk => stp_pass hL (by omega) hk) dj.sym ho2 hk0 hk1 hm0 hm1 hrm
  refine lv_iload X.1 X.2.1 dL_law_736 (lv_at hl 1 rfl) ?_
  refine lv_icmp_eq (tgt := 743) X.1 X.2.1 dL_law_738 (by decide) (fun _ => ?_) (fun hc => absurd (by rw [h29]) hc)
  refine lv_iload X.1 X.2.1 dL_law_743 (lv_at hl 1 rfl) ?_
  have hk3 : kPass a1 ≤ 3 := kPass_le _
  refine b_if_ne (tgt := 760) X dL_law_745 (by decide) (a := ((kPass a1 : Nat) : Int)) (nI_ti (by omega)) (fun hk => ?_) (fun hk => ?_)
  · skip
    refine lv_goto (tgt := 1098) X.1 X.2.1 dL_law_760 (by decide) ?_
    refine W.widen (k := 100 + 16 * (j + 1)) (n := 4000 + 200 * (j + 1)) (by show 100 + 16 * j + 1 + 0 + 0 ≤ 100 + 16 * (j + 1); omega) (by show 4000 + 200 * j + 6 + 0 + 0 ≤ 4000 + 200 * (j + 1); omega) ?_
    exact kk _ _ _ _ hLS hM (lv_sub hl [2, 3, 4, 5, 6] rfl)
  · have hk : kPass a1 = 0 := by omega
    refine lv_aload_n X.1 X.2.1 dL_law_748 rfl (lv_at hl 6 rfl) ?_
    refine lv_iconst (v := nI 0) X.1 X.2.1 dL_law_749 (by decide) ?_
    refine mg_lald X hM dL_law_750 (mJ_l (mJ_r (mO_dj ho2) mO_at)) (vp_in_nI (by decide) (by decide)) ?_
    refine lv_iload X.1 X.2.1 dL_law_751 (lv_at hl 0 rfl) ?_
    refine lv_i2l (v := w.toInt64) X.1 X.2.1 dL_law_753 rfl ?_
    refine W.lcmp X.1 X.2.1 dL_law_754 ?_
    refine lv_if_eq (tgt := 760) X.1 X.2.1 dL_law_755 (by decide) (fun _ => ?_) (fun hc => absurd (lg_self (by rw [nI0c, (hk0 hk).2, hw hk])) hc)
    refine lv_goto (tgt := 1098) X.1 X.2.1 dL_law_760 (by decide) ?_
    refine W.widen (k := 100 + 16 * (j + 1)) (n := 4000 + 200 * (j + 1)) (by show 100 + 16 * j + 1 + 0 + 0 ≤ 100 + 16 * (j + 1); omega) (by show 4000 + 200 * j + 6 + 0 + 0 ≤ 4000 + 200 * (j + 1); omega) ?_
    exact kk _ _ _ _ hLS hM (lv_sub hl [2, 3, 4, 5, 6] rfl)
set_option maxHeartbeats 4000000 in
set_option maxRecDepth 100000 in
theorem law_stands (X : Cx p c s m cL_law RL 7 G) (hM : mW G (lA s) s.heap M H locs) (hLS : LwS G x y o ar j M) (hS : XS s) (hZ : XZ G (lA s) s s.heap) (hN : NC s) (hst : l.stackTraces = false) (hX : va_X b L xs s s.heap) (hbl : b < s.heap.size) (hbA : ¬ lA s b) (hl : lv_has ls 7 [(4, .int (nI (4 * j))), (0, .ref b), (1, .ref x), (2, .ref y), (3, .ref o)]) (hjL : 4 * j + 4 ≤ L) (hL2 : L ≤ 2048)
    (kk : ∀ (M1 : Mem) (H1 : Heap) (locs1 : List Loc) (ls1 : Array Slot), LwS G x y o ar (j + 1) M1 → mW G (lA s) s.heap M1 H1 locs1 → lv_has ls1 7 [(4, .int (nI (4 * j))), (0, .ref b), (1, .ref x), (2, .ref y), (3, .ref o)] → W p l e room_1 s m args below meth c H1 locs1 (100 + 16 * (j + 1)) (4000 + 200 * (j + 1)) Q (F0 m 1098 ls1 [])) : W p l e room_1 s m args below meth c H locs (100 + 16 * j) (4000 + 200 * j) Q (F0 m 763 ls []) := by
  obtain ⟨a1, ha1⟩ : ∃ a, a = xs (nI (4 * j + 1)).toNatClampNeg := ⟨_, rfl⟩
  obtain ⟨N, F, B, MC, MR, f, rfl, dj, ho, hcs, hrm, hL⟩ := hLS
  refine lv_aload_n X.1 X.2.1 dL_law_763 rfl (lv_at hl 2 rfl) ?_
  refine lv_aload_n X.1 X.2.1 dL_law_764 rfl (lv_at hl 1 rfl) ?_
  refine lv_iload X.1 X.2.1 dL_law_765 (lv_at hl 0 rfl) ?_
  refine lv_iconst (v := nI 1) X.1 X.2.1 dL_law_767 (by decide) ?_
  refine lv_iadd X.1 X.2.1 dL_law_768 ?_
  refine lv_top (y := nI (4 * j + 1)) (nI_add _ _) ?_
  refine va_sld X.1 X.2.1 hX hbl hbA hM.2.2.1 (vp_in_nI (by omega) (by omega)) dL_law_769 ?_
  refine lv_top (y := a1) ha1.symm ?_
  refine lv_aload_n X.1 X.2.1 dL_law_770 rfl (lv_at hl 4 rfl) ?_
  refine l_callS X hM hS hZ hN kcw_L_stands kini_L (by decide) kar_L_stands kml_L_stands kst_L_stands dL_law_771 ((c_L_stands l G x o N F B MC hcs ho f a1 hst hL.1).fr dj) (As := [.ref x, .int a1, .ref o]) rfl hl rfl (Nat.le_of_ble_eq_true rfl) ⟨Nat.le_of_ble_eq_true rfl, Nat.le_of_ble_eq_true rfl⟩ ⟨by show 100 + 16 * j + 1 ≤ 601024; omega, by show 4000 + 200 * j + 6 ≤ 7293034; omega⟩ (fun r M1 H locs hp hM => ?_)
  obtain ⟨M2, ⟨rfl, MC2, g, rfl, ho2, hk0, hk1⟩, dj, rfl⟩ := hp
  refine lv_istore (lv' := [(5, .int (nI (kOne (iR a1 (N 6))))), (4, .int (nI (4 * j))), (0, .ref b), (1, .ref x), (2, .ref y), (3, .ref o)]) X.1 X.2.1 dL_law_774 hl (by decide) rfl (fun ls hl => ?_)
  refine lv_aload_n X.1 X.2.1 dL_law_776 rfl (lv_at hl 4 rfl) ?_
  refine lv_aload_n X.1 X.2.1 dL_law_777 rfl (lv_at hl 2 rfl) ?_
  refine lv_iload X.1 X.2.1 dL_law_778 (lv_at hl 1 rfl) ?_
  refine lv_iconst (v := nI 1) X.1 X.2.1 dL_law_780 (by decide) ?_
  refine lv_iadd X.1 X.2.1 dL_law_781 ?_
  refine lv_top (y := nI (4 * j + 1)) (nI_add _ _) ?_
  refine va_sld X.1 X.2.1 hX hbl hbA hM.2.2.1 (vp_in_nI (by omega) (by omega)) dL_law_782 ?_
  refine lv_top (y := a1) ha1.symm ?_
  rw [mJ_comm dj] at hM
  refine m_callV X hM ck_L_112 ki_X7_stands ks_X7_stands (ci := 8) rfl dL_law_783 ((c_X7_stands l G y ar N F B a1 hL.1 MR hrm).fr dj.sym) (mJ_l hrm.1) (As := [.int a1]) rfl hl rfl (Nat.le_of_ble_eq_true rfl) ⟨Nat.le_of_ble_eq_true rfl, Nat.le_of_ble_eq_true rfl⟩ ⟨by show 100 + 16 * j + 1 + 0 ≤ 601024; omega, by show 4000 + 200 * j + 6 + 0 ≤ 7293034; omega⟩ (fun r M1 H locs hp hM => ?_)
  obtain ⟨MR2, ⟨N2, F2, B2, ⟨h29, ⟨w, rfl, hw⟩, hm0, hm1⟩, hrm⟩, dj, rfl⟩ := hp
  refine lv_istore (lv' := [(6, .int w), (5, .int (nI (kOne (iR a1 (N 6))))), (4, .int (nI (4 * j))), (0, .ref b), (1, .ref x), (2, .ref y), (3, .ref o)]) X.1 X.2.1 dL_law_786 hl (by decide) rfl (fun ls hl => ?_)
  refine lv_aload_n X.1 X.2.1 dL_law_788 rfl (lv_at hl 5 rfl) ?_
  refine m_callV X hM ck_L_77 ki_X7_thrown ks_X7_thrown (ci := 8) rfl dL_law_789 ((c_X7_thrown l G y ar N2 F2 B2 MR2 hrm).fr dj) (mJ_l hrm.1) (As := []) rfl hl rfl (Nat.le_of_ble_eq_true rfl) ⟨Nat.le_of_ble_eq_true rfl, Nat.le_of_ble_eq_true rfl⟩ ⟨by show 100 + 16 * j + 1 + 0 + 0 ≤ 601024; omega, by show 4000 + 200 * j + 6 + 0 + 0 ≤ 7293034; omega⟩ (fun r M1 H locs hp hM => ?_)
  obtain ⟨MR3, ⟨N3, F3, B3, ⟨rfl, rfl, rfl, rfl⟩, hrm⟩, dj, rfl⟩ := hp
  rw [mJ_comm dj] at hM
  have hLS := LwS.step (k := kOne (iR a1 (N 6))) hL (fun _ => hL.more) dj.sym ho2 hk0 hk1 hm0 hm1 hrm
  refine lv_iload X.1 X.2.1 dL_law_792 (lv_at hl 1 rfl) ?_
  refine lv_icmp_eq (tgt := 799) X.1 X.2.1 dL_law_794 (by decide) (fun _ => ?_) (fun hc => absurd (by rw [h29]) hc)
  refine lv_iload X.1 X.2.1 dL_law_799 (lv_at hl 1 rfl) ?_
  have hk3 : kOne (iR a1 (N 6)) ≤ 3 := kOne_le _
  refine b_if_ne (tgt := 823) X dL_law_801 (by decide) (a := ((kOne (iR a1 (N 6)) : Nat) : Int)) (nI_ti (by omega)) (fun hk => ?_) (fun hk => ?_)
  · skip
    refine lv_goto (tgt := 1098) X.1 X.2.1 dL_law_823 (by decide) ?_
    refine W.widen (k := 100 + 16 * (j + 1)) (n := 4000 + 200 * (j + 1)) (by show 100 + 16 * j + 1 + 0 + 0 ≤ 100 + 16 * (j + 1); omega) (by show 4000 + 200 * j + 6 + 0 + 0 ≤ 4000 + 200 * (j + 1); omega) ?_
    exact kk _ _ _ _ hLS hM (lv_sub hl [2, 3, 4, 5, 6] rfl)
  · have hk : kOne (iR a1 (N 6)) = 0 := by omega
    refine lv_aload_n X.1 X.2.1 dL_law_804 rfl (lv_at hl 6 rfl) ?_
    refine lv_iconst (v := nI 0) X.1 X.2.1 dL_law_805 (by decide) ?_
    refine mg_lald X hM dL_law_806 (mJ_l (mJ_r (mO_dj ho2) mO_at)) (vp_in_nI (by decide) (by decide)) ?_
    refine lv_iload X.1 X.2.1 dL_law_807 (lv_at hl 0 rfl) ?_
    refine lv_top (y := bI (goodS F (ix a1))) (hw hk) ?_
    refine b_bool_eq (tgt := 816) X dL_law_809 (by decide) (fun hb => ?_) (fun hb => ?_)
    · refine lv_lconst (v := 0) X.1 X.2.1 dL_law_816 rfl ?_
      refine W.lcmp X.1 X.2.1 dL_law_817 ?_
      refine lv_if_eq (tgt := 823) X.1 X.2.1 dL_law_818 (by decide) (fun _ => ?_) (fun hc => absurd (lg_self (by rw [nI0c, (hk0 hk).2, hb]; rfl)) hc)
      refine lv_goto (tgt := 1098) X.1 X.2.1 dL_law_823 (by decide) ?_
      refine W.widen (k := 100 + 16 * (j + 1)) (n := 4000 + 200 * (j + 1)) (by show 100 + 16 * j + 1 + 0 + 0 ≤ 100 + 16 * (j + 1); omega) (by show 4000 + 200 * j + 6 + 0 + 0 ≤ 4000 + 200 * (j + 1); omega) ?_
      exact kk _ _ _ _ hLS hM (lv_sub hl [2, 3, 4, 5, 6] rfl)
    · refine lv_lconst (v := 1) X.1 X.2.1 dL_law_812 rfl ?_
      refine lv_goto (tgt := 817) X.1 X.2.1 dL_law_813 (by decide) ?_
      refine W.lcmp X.1 X.2.1 dL_law_817 ?_
      refine lv_if_eq (tgt := 823) X.1 X.2.1 dL_law_818 (by decide) (fun _ => ?_) (fun hc => absurd (lg_self (by rw [nI0c, (hk0 hk).2, hb]; rfl)) hc)
      refine lv_goto (tgt := 1098) X.1 X.2.1 dL_law_823 (by decide) ?_
      refine W.widen (k := 100 + 16 * (j + 1)) (n := 4000 + 200 * (j + 1)) (by show 100 + 16 * j + 1 + 0 + 0 ≤ 100 + 16 * (j + 1); omega) (by show 4000 + 200 * j + 6 + 0 + 0 ≤ 4000 + 200 * (j + 1); omega) ?_
      exact kk _ _ _ _ hLS hM (lv_sub hl [2, 3, 4, 5, 6] rfl)
set_option maxHeartbeats 4000000 in
set_option maxRecDepth 100000 in
theorem law_ranked (X : Cx p c s m cL_law RL 7 G) (hM : mW G (lA s) s.heap M H locs) (hLS : LwS G x y o ar j M) (hS : XS s) (hZ : XZ G (lA s) s s.heap) (hN : NC s) (hst : l.stackTraces = false) (hX : va_X b L xs s s.heap) (hbl : b < s.heap.size) (hbA : ¬ lA s b) (hl : lv_has ls 7 [(4, .int (nI (4 * j))), (0, .ref b), (1, .ref x), (2, .ref y), (3, .ref o)]) (hjL : 4 * j + 4 ≤ L) (hL2 : L ≤ 2048)
    (kk : ∀ (M1 : Mem) (H1 : Heap) (locs1 : List Loc) (ls1 : Array Slot), LwS G x y o ar (j + 1) M1 → mW G (lA s) s.heap M1 H1 locs1 → lv_has ls1 7 [(4, .int (nI (4 * j))), (0, .ref b), (1, .ref x), (2, .ref y), (3, .ref o)] → W p l e room_1 s m args below meth c H1 locs1 (100 + 16 * (j + 1)) (4000 + 200 * (j + 1)) Q (F0 m 1098 ls1 [])) : W p l e room_1 s m args below meth c H locs (100 + 16 * j) (4000 + 200 * j) Q (F0 m 826 ls []) := by
  obtain ⟨a1, ha1⟩ : ∃ a, a = xs (nI (4 * j + 1)).toNatClampNeg := ⟨_, rfl⟩
  obtain ⟨a2, ha2⟩ : ∃ a, a = xs (nI (4 * j + 2)).toNatClampNeg := ⟨_, rfl⟩
  obtain ⟨a3, ha3⟩ : ∃ a, a = xs (nI (4 * j + 3)).toNatClampNeg := ⟨_, rfl⟩
  obtain ⟨N, F, B, MC, MR, f, rfl, dj, ho, hcs, hrm, hL⟩ := hLS
  refine lv_aload_n X.1 X.2.1 dL_law_826 rfl (lv_at hl 2 rfl) ?_
  refine lv_aload_n X.1 X.2.1 dL_law_827 rfl (lv_at hl 1 rfl) ?_
  refine lv_iload X.1 X.2.1 dL_law_828 (lv_at hl 0 rfl) ?_
  refine lv_iconst (v := nI 1) X.1 X.2.1 dL_law_830 (by decide) ?_
  refine lv_iadd X.1 X.2.1 dL_law_831 ?_
  refine lv_top (y := nI (4 * j + 1)) (nI_add _ _) ?_
  refine va_sld X.1 X.2.1 hX hbl hbA hM.2.2.1 (vp_in_nI (by omega) (by omega)) dL_law_832 ?_
  refine lv_top (y := a1) ha1.symm ?_
  refine lv_aload_n X.1 X.2.1 dL_law_833 rfl (lv_at hl 1 rfl) ?_
  refine lv_iload X.1 X.2.1 dL_law_834 (lv_at hl 0 rfl) ?_
  refine lv_iconst (v := nI 2) X.1 X.2.1 dL_law_836 (by decide) ?_
  refine lv_iadd X.1 X.2.1 dL_law_837 ?_
  refine lv_top (y := nI (4 * j + 2)) (nI_add _ _) ?_
  refine va_sld X.1 X.2.1 hX hbl hbA hM.2.2.1 (vp_in_nI (by omega) (by omega)) dL_law_838 ?_
  refine lv_top (y := a2) ha2.symm ?_
  refine lv_aload_n X.1 X.2.1 dL_law_839 rfl (lv_at hl 1 rfl) ?_
  refine lv_iload X.1 X.2.1 dL_law_840 (lv_at hl 0 rfl) ?_
  refine lv_iconst (v := nI 3) X.1 X.2.1 dL_law_842 (by decide) ?_
  refine lv_iadd X.1 X.2.1 dL_law_843 ?_
  refine lv_top (y := nI (4 * j + 3)) (nI_add _ _) ?_
  refine va_sld X.1 X.2.1 hX hbl hbA hM.2.2.1 (vp_in_nI (by omega) (by omega)) dL_law_844 ?_
  refine lv_top (y := a3) ha3.symm ?_
  refine lv_aload_n X.1 X.2.1 dL_law_845 rfl (lv_at hl 4 rfl) ?_
  refine l_callS X hM hS hZ hN kcw_L_ranked kini_L (by decide) kar_L_ranked kml_L_ranked kst_L_ranked dL_law_846 ((c_L_ranked l G x o N F B MC hcs ho f a1 a2 a3 hst hL.1).fr dj) (As := [.ref x, .int a1, .int a2, .int a3, .ref o]) rfl hl rfl (Nat.le_of_ble_eq_true rfl) ⟨Nat.le_of_ble_eq_true rfl, Nat.le_of_ble_eq_true rfl⟩ ⟨by show 100 + 16 * j + 3 ≤ 601024; omega, by show 4000 + 200 * j + 18 ≤ 7293034; omega⟩ (fun r M1 H locs hp hM => ?_)
  obtain ⟨M2, ⟨rfl, MC2, g, rfl, ho2, hk0, hk1⟩, dj, rfl⟩ := hp
  refine lv_istore (lv' := [(5, .int (nI (kRanked N a1 a2 a3))), (4, .int (nI (4 * j))), (0, .ref b), (1, .ref x), (2, .ref y), (3, .ref o)]) X.1 X.2.1 dL_law_849 hl (by decide) rfl (fun ls hl => ?_)
  refine lv_aload_n X.1 X.2.1 dL_law_851 rfl (lv_at hl 4 rfl) ?_
  refine lv_aload_n X.1 X.2.1 dL_law_852 rfl (lv_at hl 2 rfl) ?_
  refine lv_iload X.1 X.2.1 dL_law_853 (lv_at hl 1 rfl) ?_
  refine lv_iconst (v := nI 1) X.1 X.2.1 dL_law_855 (by decide) ?_
  refine lv_iadd X.1 X.2.1 dL_law_856 ?_
  refine lv_top (y := nI (4 * j + 1)) (nI_add _ _) ?_
  refine va_sld X.1 X.2.1 hX hbl hbA hM.2.2.1 (vp_in_nI (by omega) (by omega)) dL_law_857 ?_
  refine lv_top (y := a1) ha1.symm ?_
  refine lv_aload_n X.1 X.2.1 dL_law_858 rfl (lv_at hl 2 rfl) ?_
  refine lv_iload X.1 X.2.1 dL_law_859 (lv_at hl 1 rfl) ?_
  refine lv_iconst (v := nI 2) X.1 X.2.1 dL_law_861 (by decide) ?_
  refine lv_iadd X.1 X.2.1 dL_law_862 ?_
  refine lv_top (y := nI (4 * j + 2)) (nI_add _ _) ?_
  refine va_sld X.1 X.2.1 hX hbl hbA hM.2.2.1 (vp_in_nI (by omega) (by omega)) dL_law_863 ?_
  refine lv_top (y := a2) ha2.symm ?_
  refine lv_aload_n X.1 X.2.1 dL_law_864 rfl (lv_at hl 2 rfl) ?_
  refine lv_iload X.1 X.2.1 dL_law_865 (lv_at hl 1 rfl) ?_
  refine lv_iconst (v := nI 3) X.1 X.2.1 dL_law_867 (by decide) ?_
  refine lv_iadd X.1 X.2.1 dL_law_868 ?_
  refine lv_top (y := nI (4 * j + 3)) (nI_add _ _) ?_
  refine va_sld X.1 X.2.1 hX hbl hbA hM.2.2.1 (vp_in_nI (by omega) (by omega)) dL_law_869 ?_
  refine lv_top (y := a3) ha3.symm ?_
  rw [mJ_comm dj] at hM
  refine m_callV X hM ck_L_115 ki_X7_ranked ks_X7_ranked (ci := 8) rfl dL_law_870 ((c_X7_ranked l G y ar N F B a1 a2 a3 hL.1 MR hrm).fr dj.sym) (mJ_l hrm.1) (As := [.int a1, .int a2, .int a3]) rfl hl rfl (Nat.le_of_ble_eq_true rfl) ⟨Nat.le_of_ble_eq_true rfl, Nat.le_of_ble_eq_true rfl⟩ ⟨by show 100 + 16 * j + 3 + 0 ≤ 601024; omega, by show 4000 + 200 * j + 18 + 0 ≤ 7293034; omega⟩ (fun r M1 H locs hp hM => ?_)
  obtain ⟨MR2, ⟨N2, F2, B2, ⟨h29, ⟨w, rfl, hw⟩, hm0, hm1⟩, hrm⟩, dj, rfl⟩ := hp
  refine lv_istore (lv' := [(6, .int w), (5, .int (nI (kRanked N a1 a2 a3))), (4, .int (nI (4 * j))), (0, .ref b), (1, .ref x), (2, .ref y), (3, .ref o)]) X.1 X.2.1 dL_law_873 hl (by decide) rfl (fun ls hl => ?_)
  refine lv_aload_n X.1 X.2.1 dL_law_875 rfl (lv_at hl 5 rfl) ?_
  refine m_callV X hM ck_L_77 ki_X7_thrown ks_X7_thrown (ci := 8) rfl dL_law_876 ((c_X7_thrown l G y ar N2 F2 B2 MR2 hrm).fr dj) (mJ_l hrm.1) (As := []) rfl hl rfl (Nat.le_of_ble_eq_true rfl) ⟨Nat.le_of_ble_eq_true rfl, Nat.le_of_ble_eq_true rfl⟩ ⟨by show 100 + 16 * j + 3 + 0 + 0 ≤ 601024; omega, by show 4000 + 200 * j + 18 + 0 + 0 ≤ 7293034; omega⟩ (fun r M1 H locs hp hM => ?_)
  obtain ⟨MR3, ⟨N3, F3, B3, ⟨rfl, rfl, rfl, rfl⟩, hrm⟩, dj, rfl⟩ := hp
  rw [mJ_comm dj] at hM
  have hLS := LwS.step (k := kRanked N a1 a2 a3) hL (fun _ => hL.more) dj.sym ho2 hk0 hk1 hm0 hm1 hrm
  refine lv_iload X.1 X.2.1 dL_law_879 (lv_at hl 1 rfl) ?_
  refine lv_icmp_eq (tgt := 886) X.1 X.2.1 dL_law_881 (by decide) (fun _ => ?_) (fun hc => absurd (by rw [h29]) hc)
  refine lv_iload X.1 X.2.1 dL_law_886 (lv_at hl 1 rfl) ?_
  have hk3 : kRanked N a1 a2 a3 ≤ 3 := kRanked_le _ _ _ _
  refine b_if_ne (tgt := 903) X dL_law_888 (by decide) (a := ((kRanked N a1 a2 a3 : Nat) : Int)) (nI_ti (by omega)) (fun hk => ?_) (fun hk => ?_)
  · skip
    refine lv_goto (tgt := 1098) X.1 X.2.1 dL_law_903 (by decide) ?_
    refine W.widen (k := 100 + 16 * (j + 1)) (n := 4000 + 200 * (j + 1)) (by show 100 + 16 * j + 3 + 0 + 0 ≤ 100 + 16 * (j + 1); omega) (by show 4000 + 200 * j + 18 + 0 + 0 ≤ 4000 + 200 * (j + 1); omega) ?_
    exact kk _ _ _ _ hLS hM (lv_sub hl [2, 3, 4, 5, 6] rfl)
  · have hk : kRanked N a1 a2 a3 = 0 := by omega
    refine lv_aload_n X.1 X.2.1 dL_law_891 rfl (lv_at hl 6 rfl) ?_
    refine lv_iconst (v := nI 0) X.1 X.2.1 dL_law_892 (by decide) ?_
    refine mg_lald X hM dL_law_893 (mJ_l (mJ_r (mO_dj ho2) mO_at)) (vp_in_nI (by decide) (by decide)) ?_
    refine lv_iload X.1 X.2.1 dL_law_894 (lv_at hl 0 rfl) ?_
    refine lv_i2l (v := w.toInt64) X.1 X.2.1 dL_law_896 rfl ?_
    refine W.lcmp X.1 X.2.1 dL_law_897 ?_
    refine lv_if_eq (tgt := 903) X.1 X.2.1 dL_law_898 (by decide) (fun _ => ?_) (fun hc => absurd (lg_self (by rw [nI0c, (hk0 hk).2, hw hk])) hc)
    refine lv_goto (tgt := 1098) X.1 X.2.1 dL_law_903 (by decide) ?_
    refine W.widen (k := 100 + 16 * (j + 1)) (n := 4000 + 200 * (j + 1)) (by show 100 + 16 * j + 3 + 0 + 0 ≤ 100 + 16 * (j + 1); omega) (by show 4000 + 200 * j + 18 + 0 + 0 ≤ 4000 + 200 * (j + 1); omega) ?_
    exact kk _ _ _ _ hLS hM (lv_sub hl [2, 3, 4, 5, 6] rfl)
set_option maxHeartbeats 4000000 in
set_option maxRecDepth 100000 in
theorem law_skinOf (X : Cx p c s m cL_law RL 7 G) (hM : mW G (lA s) s.heap M H locs) (hLS : LwS G x y o ar j M) (hS : XS s) (hZ : XZ G (lA s) s s.heap) (hN : NC s) (hst : l.stackTraces = false) (hX : va_X b L xs s s.heap) (hbl : b < s.heap.size) (hbA : ¬ lA s b) (hl : lv_has ls 7 [(4, .int (nI (4 * j))), (0, .ref b), (1, .ref x), (2, .ref y), (3, .ref o)]) (hjL : 4 * j + 4 ≤ L) (hL2 : L ≤ 2048)
    (kk : ∀ (M1 : Mem) (H1 : Heap) (locs1 : List Loc) (ls1 : Array Slot), LwS G x y o ar (j + 1) M1 → mW G (lA s) s.heap M1 H1 locs1 → lv_has ls1 7 [(4, .int (nI (4 * j))), (0, .ref b), (1, .ref x), (2, .ref y), (3, .ref o)] → W p l e room_1 s m args below meth c H1 locs1 (100 + 16 * (j + 1)) (4000 + 200 * (j + 1)) Q (F0 m 1098 ls1 [])) : W p l e room_1 s m args below meth c H locs (100 + 16 * j) (4000 + 200 * j) Q (F0 m 906 ls []) := by
  obtain ⟨a1, ha1⟩ : ∃ a, a = xs (nI (4 * j + 1)).toNatClampNeg := ⟨_, rfl⟩
  obtain ⟨a2, ha2⟩ : ∃ a, a = xs (nI (4 * j + 2)).toNatClampNeg := ⟨_, rfl⟩
  obtain ⟨N, F, B, MC, MR, f, rfl, dj, ho, hcs, hrm, hL⟩ := hLS
  refine lv_aload_n X.1 X.2.1 dL_law_906 rfl (lv_at hl 2 rfl) ?_
  refine lv_aload_n X.1 X.2.1 dL_law_907 rfl (lv_at hl 1 rfl) ?_
  refine lv_iload X.1 X.2.1 dL_law_908 (lv_at hl 0 rfl) ?_
  refine lv_iconst (v := nI 1) X.1 X.2.1 dL_law_910 (by decide) ?_
  refine lv_iadd X.1 X.2.1 dL_law_911 ?_
  refine lv_top (y := nI (4 * j + 1)) (nI_add _ _) ?_
  refine va_sld X.1 X.2.1 hX hbl hbA hM.2.2.1 (vp_in_nI (by omega) (by omega)) dL_law_912 ?_
  refine lv_top (y := a1) ha1.symm ?_
  refine lv_aload_n X.1 X.2.1 dL_law_913 rfl (lv_at hl 1 rfl) ?_
  refine lv_iload X.1 X.2.1 dL_law_914 (lv_at hl 0 rfl) ?_
  refine lv_iconst (v := nI 2) X.1 X.2.1 dL_law_916 (by decide) ?_
  refine lv_iadd X.1 X.2.1 dL_law_917 ?_
  refine lv_top (y := nI (4 * j + 2)) (nI_add _ _) ?_
  refine va_sld X.1 X.2.1 hX hbl hbA hM.2.2.1 (vp_in_nI (by omega) (by omega)) dL_law_918 ?_
  refine lv_top (y := a2) ha2.symm ?_
  refine lv_aload_n X.1 X.2.1 dL_law_919 rfl (lv_at hl 4 rfl) ?_
  refine l_callS X hM hS hZ hN kcw_L_skinOf kini_L (by decide) kar_L_skinOf kml_L_skinOf kst_L_skinOf dL_law_920 ((c_L_skinOf l G x o N F B MC hcs ho f a1 a2 hst hL.1 hL.2.1).fr dj) (As := [.ref x, .int a1, .int a2, .ref o]) rfl hl rfl (Nat.le_of_ble_eq_true rfl) ⟨Nat.le_of_ble_eq_true rfl, Nat.le_of_ble_eq_true rfl⟩ ⟨by show 100 + 16 * j + 2 ≤ 601024; omega, by show 4000 + 200 * j + 12 ≤ 7293034; omega⟩ (fun r M1 H locs hp hM => ?_)
  obtain ⟨M2, ⟨rfl, MC2, g, rfl, ho2, hk0, hk1⟩, dj, rfl⟩ := hp
  refine lv_istore (lv' := [(5, .int (nI (kSkinOf N a1 a2))), (4, .int (nI (4 * j))), (0, .ref b), (1, .ref x), (2, .ref y), (3, .ref o)]) X.1 X.2.1 dL_law_923 hl (by decide) rfl (fun ls hl => ?_)
  refine lv_aload_n X.1 X.2.1 dL_law_925 rfl (lv_at hl 4 rfl) ?_
  refine lv_aload_n X.1 X.2.1 dL_law_926 rfl (lv_at hl 2 rfl) ?_
  refine lv_iload X.1 X.2.1 dL_law_927 (lv_at hl 1 rfl) ?_
  refine lv_iconst (v := nI 1) X.1 X.2.1 dL_law_929 (by decide) ?_
  refine lv_iadd X.1 X.2.1 dL_law_930 ?_
  refine lv_top (y := nI (4 * j + 1)) (nI_add _ _) ?_
  refine va_sld X.1 X.2.1 hX hbl hbA hM.2.2.1 (vp_in_nI (by omega) (by omega)) dL_law_931 ?_
  refine lv_top (y := a1) ha1.symm ?_
  refine lv_aload_n X.1 X.2.1 dL_law_932 rfl (lv_at hl 2 rfl) ?_
  refine lv_iload X.1 X.2.1 dL_law_933 (lv_at hl 1 rfl) ?_
  refine lv_iconst (v := nI 2) X.1 X.2.1 dL_law_935 (by decide) ?_
  refine lv_iadd X.1 X.2.1 dL_law_936 ?_
  refine lv_top (y := nI (4 * j + 2)) (nI_add _ _) ?_
  refine va_sld X.1 X.2.1 hX hbl hbA hM.2.2.1 (vp_in_nI (by omega) (by omega)) dL_law_937 ?_
  refine lv_top (y := a2) ha2.symm ?_
  rw [mJ_comm dj] at hM
  refine m_callV X hM ck_L_118 ki_X7_skinOf ks_X7_skinOf (ci := 8) rfl dL_law_938 ((c_X7_skinOf l G y ar N F B a1 a2 hL.1 MR hrm).fr dj.sym) (mJ_l hrm.1) (As := [.int a1, .int a2]) rfl hl rfl (Nat.le_of_ble_eq_true rfl) ⟨Nat.le_of_ble_eq_true rfl, Nat.le_of_ble_eq_true rfl⟩ ⟨by show 100 + 16 * j + 2 + 0 ≤ 601024; omega, by show 4000 + 200 * j + 12 + 0 ≤ 7293034; omega⟩ (fun r M1 H locs hp hM => ?_)
  obtain ⟨MR2, ⟨N2, F2, B2, ⟨h29, ⟨w, rfl, hw⟩, hm0, hm1⟩, hrm⟩, dj, rfl⟩ := hp
  refine lv_istore (lv' := [(6, .int w), (5, .int (nI (kSkinOf N a1 a2))), (4, .int (nI (4 * j))), (0, .ref b), (1, .ref x), (2, .ref y), (3, .ref o)]) X.1 X.2.1 dL_law_941 hl (by decide) rfl (fun ls hl => ?_)
  refine lv_aload_n X.1 X.2.1 dL_law_943 rfl (lv_at hl 5 rfl) ?_
  refine m_callV X hM ck_L_77 ki_X7_thrown ks_X7_thrown (ci := 8) rfl dL_law_944 ((c_X7_thrown l G y ar N2 F2 B2 MR2 hrm).fr dj) (mJ_l hrm.1) (As := []) rfl hl rfl (Nat.le_of_ble_eq_true rfl) ⟨Nat.le_of_ble_eq_true rfl, Nat.le_of_ble_eq_true rfl⟩ ⟨by show 100 + 16 * j + 2 + 0 + 0 ≤ 601024; omega, by show 4000 + 200 * j + 12 + 0 + 0 ≤ 7293034; omega⟩ (fun r M1 H locs hp hM => ?_)
  obtain ⟨MR3, ⟨N3, F3, B3, ⟨rfl, rfl, rfl, rfl⟩, hrm⟩, dj, rfl⟩ := hp
  rw [mJ_comm dj] at hM
  have hLS := LwS.step (k := kSkinOf N a1 a2) hL (fun _ => hL.more) dj.sym ho2 hk0 hk1 hm0 hm1 hrm
  refine lv_iload X.1 X.2.1 dL_law_947 (lv_at hl 1 rfl) ?_
  refine lv_icmp_eq (tgt := 954) X.1 X.2.1 dL_law_949 (by decide) (fun _ => ?_) (fun hc => absurd (by rw [h29]) hc)
  refine lv_iload X.1 X.2.1 dL_law_954 (lv_at hl 1 rfl) ?_
  have hk3 : kSkinOf N a1 a2 ≤ 3 := kSkinOf_le _ _ _
  refine b_if_ne (tgt := 971) X dL_law_956 (by decide) (a := ((kSkinOf N a1 a2 : Nat) : Int)) (nI_ti (by omega)) (fun hk => ?_) (fun hk => ?_)
  · skip
    refine lv_goto (tgt := 1098) X.1 X.2.1 dL_law_971 (by decide) ?_
    refine W.widen (k := 100 + 16 * (j + 1)) (n := 4000 + 200 * (j + 1)) (by show 100 + 16 * j + 2 + 0 + 0 ≤ 100 + 16 * (j + 1); omega) (by show 4000 + 200 * j + 12 + 0 + 0 ≤ 4000 + 200 * (j + 1); omega) ?_
    exact kk _ _ _ _ hLS hM (lv_sub hl [2, 3, 4, 5, 6] rfl)
  · have hk : kSkinOf N a1 a2 = 0 := by omega
    refine lv_aload_n X.1 X.2.1 dL_law_959 rfl (lv_at hl 6 rfl) ?_
    refine lv_iconst (v := nI 0) X.1 X.2.1 dL_law_960 (by decide) ?_
    refine mg_lald X hM dL_law_961 (mJ_l (mJ_r (mO_dj ho2) mO_at)) (vp_in_nI (by decide) (by decide)) ?_
    refine lv_iload X.1 X.2.1 dL_law_962 (lv_at hl 0 rfl) ?_
    refine lv_i2l (v := w.toInt64) X.1 X.2.1 dL_law_964 rfl ?_
    refine W.lcmp X.1 X.2.1 dL_law_965 ?_
    refine lv_if_eq (tgt := 971) X.1 X.2.1 dL_law_966 (by decide) (fun _ => ?_) (fun hc => absurd (lg_self (by rw [nI0c, (hk0 hk).2, hw hk])) hc)
    refine lv_goto (tgt := 1098) X.1 X.2.1 dL_law_971 (by decide) ?_
    refine W.widen (k := 100 + 16 * (j + 1)) (n := 4000 + 200 * (j + 1)) (by show 100 + 16 * j + 2 + 0 + 0 ≤ 100 + 16 * (j + 1); omega) (by show 4000 + 200 * j + 12 + 0 + 0 ≤ 4000 + 200 * (j + 1); omega) ?_
    exact kk _ _ _ _ hLS hM (lv_sub hl [2, 3, 4, 5, 6] rfl)
set_option maxHeartbeats 4000000 in
set_option maxRecDepth 100000 in
theorem law_money (X : Cx p c s m cL_law RL 7 G) (hM : mW G (lA s) s.heap M H locs) (hLS : LwS G x y o ar j M) (hS : XS s) (hZ : XZ G (lA s) s s.heap) (hN : NC s) (hst : l.stackTraces = false) (hX : va_X b L xs s s.heap) (hbl : b < s.heap.size) (hbA : ¬ lA s b) (hl : lv_has ls 7 [(4, .int (nI (4 * j))), (0, .ref b), (1, .ref x), (2, .ref y), (3, .ref o)]) (hjL : 4 * j + 4 ≤ L) (hL2 : L ≤ 2048)
    (kk : ∀ (M1 : Mem) (H1 : Heap) (locs1 : List Loc) (ls1 : Array Slot), LwS G x y o ar (j + 1) M1 → mW G (lA s) s.heap M1 H1 locs1 → lv_has ls1 7 [(4, .int (nI (4 * j))), (0, .ref b), (1, .ref x), (2, .ref y), (3, .ref o)] → W p l e room_1 s m args below meth c H1 locs1 (100 + 16 * (j + 1)) (4000 + 200 * (j + 1)) Q (F0 m 1098 ls1 [])) : W p l e room_1 s m args below meth c H locs (100 + 16 * j) (4000 + 200 * j) Q (F0 m 974 ls []) := by
  obtain ⟨a1, ha1⟩ : ∃ a, a = xs (nI (4 * j + 1)).toNatClampNeg := ⟨_, rfl⟩
  obtain ⟨N, F, B, MC, MR, f, rfl, dj, ho, hcs, hrm, hL⟩ := hLS
  refine lv_aload_n X.1 X.2.1 dL_law_974 rfl (lv_at hl 2 rfl) ?_
  refine lv_aload_n X.1 X.2.1 dL_law_975 rfl (lv_at hl 1 rfl) ?_
  refine lv_iload X.1 X.2.1 dL_law_976 (lv_at hl 0 rfl) ?_
  refine lv_iconst (v := nI 1) X.1 X.2.1 dL_law_978 (by decide) ?_
  refine lv_iadd X.1 X.2.1 dL_law_979 ?_
  refine lv_top (y := nI (4 * j + 1)) (nI_add _ _) ?_
  refine va_sld X.1 X.2.1 hX hbl hbA hM.2.2.1 (vp_in_nI (by omega) (by omega)) dL_law_980 ?_
  refine lv_top (y := a1) ha1.symm ?_
  refine lv_aload_n X.1 X.2.1 dL_law_981 rfl (lv_at hl 4 rfl) ?_
  refine l_callS X hM hS hZ hN kcw_L_money kini_L (by decide) kar_L_money kml_L_money kst_L_money dL_law_982 ((c_L_money l G x o N F B MC hcs ho f a1 hst hL.1).fr dj) (As := [.ref x, .int a1, .ref o]) rfl hl rfl (Nat.le_of_ble_eq_true rfl) ⟨Nat.le_of_ble_eq_true rfl, Nat.le_of_ble_eq_true rfl⟩ ⟨by show 100 + 16 * j + 1 ≤ 601024; omega, by show 4000 + 200 * j + 6 ≤ 7293034; omega⟩ (fun r M1 H locs hp hM => ?_)
  obtain ⟨M2, ⟨rfl, MC2, g, rfl, ho2, hk0, hk1⟩, dj, rfl⟩ := hp
  refine lv_istore (lv' := [(5, .int (nI (kOne (iR a1 (N 1))))), (4, .int (nI (4 * j))), (0, .ref b), (1, .ref x), (2, .ref y), (3, .ref o)]) X.1 X.2.1 dL_law_985 hl (by decide) rfl (fun ls hl => ?_)
  refine lv_aload_n X.1 X.2.1 dL_law_987 rfl (lv_at hl 4 rfl) ?_
  refine lv_aload_n X.1 X.2.1 dL_law_988 rfl (lv_at hl 2 rfl) ?_
  refine lv_iload X.1 X.2.1 dL_law_989 (lv_at hl 1 rfl) ?_
  refine lv_iconst (v := nI 1) X.1 X.2.1 dL_law_991 (by decide) ?_
  refine lv_iadd X.1 X.2.1 dL_law_992 ?_
  refine lv_top (y := nI (4 * j + 1)) (nI_add _ _) ?_
  refine va_sld X.1 X.2.1 hX hbl hbA hM.2.2.1 (vp_in_nI (by omega) (by omega)) dL_law_993 ?_
  refine lv_top (y := a1) ha1.symm ?_
  rw [mJ_comm dj] at hM
  refine m_callV X hM ck_L_121 ki_X7_money ks_X7_money (ci := 8) rfl dL_law_994 ((c_X7_money l G y ar N F B a1 hL.1 MR hrm).fr dj.sym) (mJ_l hrm.1) (As := [.int a1]) rfl hl rfl (Nat.le_of_ble_eq_true rfl) ⟨Nat.le_of_ble_eq_true rfl, Nat.le_of_ble_eq_true rfl⟩ ⟨by show 100 + 16 * j + 1 + 0 ≤ 601024; omega, by show 4000 + 200 * j + 6 + 0 ≤ 7293034; omega⟩ (fun r M1 H locs hp hM => ?_)
  obtain ⟨MR2, ⟨N2, F2, B2, ⟨h29, ⟨w, rfl, hw⟩, hm0, hm1⟩, hrm⟩, dj, rfl⟩ := hp
  refine lv_istore (lv' := [(6, .int w), (5, .int (nI (kOne (iR a1 (N 1))))), (4, .int (nI (4 * j))), (0, .ref b), (1, .ref x), (2, .ref y), (3, .ref o)]) X.1 X.2.1 dL_law_997 hl (by decide) rfl (fun ls hl => ?_)
  refine lv_aload_n X.1 X.2.1 dL_law_999 rfl (lv_at hl 5 rfl) ?_
  refine m_callV X hM ck_L_77 ki_X7_thrown ks_X7_thrown (ci := 8) rfl dL_law_1000 ((c_X7_thrown l G y ar N2 F2 B2 MR2 hrm).fr dj) (mJ_l hrm.1) (As := []) rfl hl rfl (Nat.le_of_ble_eq_true rfl) ⟨Nat.le_of_ble_eq_true rfl, Nat.le_of_ble_eq_true rfl⟩ ⟨by show 100 + 16 * j + 1 + 0 + 0 ≤ 601024; omega, by show 4000 + 200 * j + 6 + 0 + 0 ≤ 7293034; omega⟩ (fun r M1 H locs hp hM => ?_)
  obtain ⟨MR3, ⟨N3, F3, B3, ⟨rfl, rfl, rfl, rfl⟩, hrm⟩, dj, rfl⟩ := hp
  rw [mJ_comm dj] at hM
  have hLS := LwS.step (k := kOne (iR a1 (N 1))) hL (fun _ => hL.more) dj.sym ho2 hk0 hk1 hm0 hm1 hrm
  refine lv_iload X.1 X.2.1 dL_law_1003 (lv_at hl 1 rfl) ?_
  refine lv_icmp_eq (tgt := 1010) X.1 X.2.1 dL_law_1005 (by decide) (fun _ => ?_) (fun hc => absurd (by rw [h29]) hc)
  refine lv_iload X.1 X.2.1 dL_law_1010 (lv_at hl 1 rfl) ?_
  have hk3 : kOne (iR a1 (N 1)) ≤ 3 := kOne_le _
  refine b_if_ne (tgt := 1027) X dL_law_1012 (by decide) (a := ((kOne (iR a1 (N 1)) : Nat) : Int)) (nI_ti (by omega)) (fun hk => ?_) (fun hk => ?_)
  · skip
    refine lv_goto (tgt := 1098) X.1 X.2.1 dL_law_1027 (by decide) ?_
    refine W.widen (k := 100 + 16 * (j + 1)) (n := 4000 + 200 * (j + 1)) (by show 100 + 16 * j + 1 + 0 + 0 ≤ 100 + 16 * (j + 1); omega) (by show 4000 + 200 * j + 6 + 0 + 0 ≤ 4000 + 200 * (j + 1); omega) ?_
    exact kk _ _ _ _ hLS hM (lv_sub hl [2, 3, 4, 5, 6] rfl)
  · have hk : kOne (iR a1 (N 1)) = 0 := by omega
    refine lv_aload_n X.1 X.2.1 dL_law_1015 rfl (lv_at hl 6 rfl) ?_
    refine lv_iconst (v := nI 0) X.1 X.2.1 dL_law_1016 (by decide) ?_
    refine mg_lald X hM dL_law_1017 (mJ_l (mJ_r (mO_dj ho2) mO_at)) (vp_in_nI (by decide) (by decide)) ?_
    refine lv_iload X.1 X.2.1 dL_law_1018 (lv_at hl 0 rfl) ?_
    refine lv_i2l (v := w.toInt64) X.1 X.2.1 dL_law_1020 rfl ?_
    refine W.lcmp X.1 X.2.1 dL_law_1021 ?_
    refine lv_if_eq (tgt := 1027) X.1 X.2.1 dL_law_1022 (by decide) (fun _ => ?_) (fun hc => absurd (lg_self (by rw [nI0c, (hk0 hk).2, hw hk])) hc)
    refine lv_goto (tgt := 1098) X.1 X.2.1 dL_law_1027 (by decide) ?_
    refine W.widen (k := 100 + 16 * (j + 1)) (n := 4000 + 200 * (j + 1)) (by show 100 + 16 * j + 1 + 0 + 0 ≤ 100 + 16 * (j + 1); omega) (by show 4000 + 200 * j + 6 + 0 + 0 ≤ 4000 + 200 * (j + 1); omega) ?_
    exact kk _ _ _ _ hLS hM (lv_sub hl [2, 3, 4, 5, 6] rfl)
set_option maxHeartbeats 4000000 in
set_option maxRecDepth 100000 in
theorem law_label (X : Cx p c s m cL_law RL 7 G) (hM : mW G (lA s) s.heap M H locs) (hLS : LwS G x y o ar j M) (hS : XS s) (hZ : XZ G (lA s) s s.heap) (hN : NC s) (hst : l.stackTraces = false) (hX : va_X b L xs s s.heap) (hbl : b < s.heap.size) (hbA : ¬ lA s b) (hl : lv_has ls 7 [(4, .int (nI (4 * j))), (0, .ref b), (1, .ref x), (2, .ref y), (3, .ref o)]) (hjL : 4 * j + 4 ≤ L) (hL2 : L ≤ 2048)
    (kk : ∀ (M1 : Mem) (H1 : Heap) (locs1 : List Loc) (ls1 : Array Slot), LwS G x y o ar (j + 1) M1 → mW G (lA s) s.heap M1 H1 locs1 → lv_has ls1 7 [(4, .int (nI (4 * j))), (0, .ref b), (1, .ref x), (2, .ref y), (3, .ref o)] → W p l e room_1 s m args below meth c H1 locs1 (100 + 16 * (j + 1)) (4000 + 200 * (j + 1)) Q (F0 m 1098 ls1 [])) : W p l e room_1 s m args below meth c H locs (100 + 16 * j) (4000 + 200 * j) Q (F0 m 1030 ls []) := by
  obtain ⟨a1, ha1⟩ : ∃ a, a = xs (nI (4 * j + 1)).toNatClampNeg := ⟨_, rfl⟩
  obtain ⟨a2, ha2⟩ : ∃ a, a = xs (nI (4 * j + 2)).toNatClampNeg := ⟨_, rfl⟩
  obtain ⟨N, F, B, MC, MR, f, rfl, dj, ho, hcs, hrm, hL⟩ := hLS
  refine lv_aload_n X.1 X.2.1 dL_law_1030 rfl (lv_at hl 2 rfl) ?_
  refine lv_aload_n X.1 X.2.1 dL_law_1031 rfl (lv_at hl 1 rfl) ?_
  refine lv_iload X.1 X.2.1 dL_law_1032 (lv_at hl 0 rfl) ?_
  refine lv_iconst (v := nI 1) X.1 X.2.1 dL_law_1034 (by decide) ?_
  refine lv_iadd X.1 X.2.1 dL_law_1035 ?_
  refine lv_top (y := nI (4 * j + 1)) (nI_add _ _) ?_
  refine va_sld X.1 X.2.1 hX hbl hbA hM.2.2.1 (vp_in_nI (by omega) (by omega)) dL_law_1036 ?_
  refine lv_top (y := a1) ha1.symm ?_
  refine lv_aload_n X.1 X.2.1 dL_law_1037 rfl (lv_at hl 1 rfl) ?_
  refine lv_iload X.1 X.2.1 dL_law_1038 (lv_at hl 0 rfl) ?_
  refine lv_iconst (v := nI 2) X.1 X.2.1 dL_law_1040 (by decide) ?_
  refine lv_iadd X.1 X.2.1 dL_law_1041 ?_
  refine lv_top (y := nI (4 * j + 2)) (nI_add _ _) ?_
  refine va_sld X.1 X.2.1 hX hbl hbA hM.2.2.1 (vp_in_nI (by omega) (by omega)) dL_law_1042 ?_
  refine lv_top (y := a2) ha2.symm ?_
  refine lv_aload_n X.1 X.2.1 dL_law_1043 rfl (lv_at hl 4 rfl) ?_
  refine l_callS X hM hS hZ hN kcw_L_label kini_L (by decide) kar_L_label kml_L_label kst_L_label dL_law_1044 ((c_L_label l G x o N F B MC hcs ho f a1 a2 hst hL.1).fr dj) (As := [.ref x, .int a1, .int a2, .ref o]) rfl hl rfl (Nat.le_of_ble_eq_true rfl) ⟨Nat.le_of_ble_eq_true rfl, Nat.le_of_ble_eq_true rfl⟩ ⟨by show 100 + 16 * j + 3 ≤ 601024; omega, by show 4000 + 200 * j + 26 ≤ 7293034; omega⟩ (fun r M1 H locs hp hM => ?_)
  obtain ⟨M2, ⟨rfl, MC2, g, rfl, ho2, hk0, hk1⟩, dj, rfl⟩ := hp
  refine lv_istore (lv' := [(5, .int (nI (kLabel N a1 a2))), (4, .int (nI (4 * j))), (0, .ref b), (1, .ref x), (2, .ref y), (3, .ref o)]) X.1 X.2.1 dL_law_1047 hl (by decide) rfl (fun ls hl => ?_)
  refine lv_aload_n X.1 X.2.1 dL_law_1049 rfl (lv_at hl 4 rfl) ?_
  refine lv_aload_n X.1 X.2.1 dL_law_1050 rfl (lv_at hl 2 rfl) ?_
  refine lv_iload X.1 X.2.1 dL_law_1051 (lv_at hl 1 rfl) ?_
  refine lv_iconst (v := nI 1) X.1 X.2.1 dL_law_1053 (by decide) ?_
  refine lv_iadd X.1 X.2.1 dL_law_1054 ?_
  refine lv_top (y := nI (4 * j + 1)) (nI_add _ _) ?_
  refine va_sld X.1 X.2.1 hX hbl hbA hM.2.2.1 (vp_in_nI (by omega) (by omega)) dL_law_1055 ?_
  refine lv_top (y := a1) ha1.symm ?_
  refine lv_aload_n X.1 X.2.1 dL_law_1056 rfl (lv_at hl 2 rfl) ?_
  refine lv_iload X.1 X.2.1 dL_law_1057 (lv_at hl 1 rfl) ?_
  refine lv_iconst (v := nI 2) X.1 X.2.1 dL_law_1059 (by decide) ?_
  refine lv_iadd X.1 X.2.1 dL_law_1060 ?_
  refine lv_top (y := nI (4 * j + 2)) (nI_add _ _) ?_
  refine va_sld X.1 X.2.1 hX hbl hbA hM.2.2.1 (vp_in_nI (by omega) (by omega)) dL_law_1061 ?_
  refine lv_top (y := a2) ha2.symm ?_
  rw [mJ_comm dj] at hM
  refine m_callV X hM ck_L_124 ki_X7_label ks_X7_label (ci := 8) rfl dL_law_1062 ((c_X7_label l G y ar N F B a1 a2 hL.1 MR hrm).fr dj.sym) (mJ_l hrm.1) (As := [.int a1, .int a2]) rfl hl rfl (Nat.le_of_ble_eq_true rfl) ⟨Nat.le_of_ble_eq_true rfl, Nat.le_of_ble_eq_true rfl⟩ ⟨by show 100 + 16 * j + 3 + 0 ≤ 601024; omega, by show 4000 + 200 * j + 26 + 0 ≤ 7293034; omega⟩ (fun r M1 H locs hp hM => ?_)
  obtain ⟨MR2, ⟨N2, F2, B2, ⟨h29, ⟨w, rfl, hw⟩, hm0, hm1⟩, hrm⟩, dj, rfl⟩ := hp
  refine lv_istore (lv' := [(6, .int w), (5, .int (nI (kLabel N a1 a2))), (4, .int (nI (4 * j))), (0, .ref b), (1, .ref x), (2, .ref y), (3, .ref o)]) X.1 X.2.1 dL_law_1065 hl (by decide) rfl (fun ls hl => ?_)
  refine lv_aload_n X.1 X.2.1 dL_law_1067 rfl (lv_at hl 5 rfl) ?_
  refine m_callV X hM ck_L_77 ki_X7_thrown ks_X7_thrown (ci := 8) rfl dL_law_1068 ((c_X7_thrown l G y ar N2 F2 B2 MR2 hrm).fr dj) (mJ_l hrm.1) (As := []) rfl hl rfl (Nat.le_of_ble_eq_true rfl) ⟨Nat.le_of_ble_eq_true rfl, Nat.le_of_ble_eq_true rfl⟩ ⟨by show 100 + 16 * j + 3 + 0 + 0 ≤ 601024; omega, by show 4000 + 200 * j + 26 + 0 + 0 ≤ 7293034; omega⟩ (fun r M1 H locs hp hM => ?_)
  obtain ⟨MR3, ⟨N3, F3, B3, ⟨rfl, rfl, rfl, rfl⟩, hrm⟩, dj, rfl⟩ := hp
  rw [mJ_comm dj] at hM
  have hLS := LwS.step (k := kLabel N a1 a2) hL (fun _ => hL.more) dj.sym ho2 hk0 hk1 hm0 hm1 hrm
  refine lv_iload X.1 X.2.1 dL_law_1071 (lv_at hl 1 rfl) ?_
  refine lv_icmp_eq (tgt := 1078) X.1 X.2.1 dL_law_1073 (by decide) (fun _ => ?_) (fun hc => absurd (by rw [h29]) hc)
  refine lv_iload X.1 X.2.1 dL_law_1078 (lv_at hl 1 rfl) ?_
  have hk3 : kLabel N a1 a2 ≤ 3 := kLabel_le _ _ _
  refine b_if_ne (tgt := 1095) X dL_law_1080 (by decide) (a := ((kLabel N a1 a2 : Nat) : Int)) (nI_ti (by omega)) (fun hk => ?_) (fun hk => ?_)
  · skip
    refine lv_goto (tgt := 1098) X.1 X.2.1 dL_law_1095 (by decide) ?_
    refine W.widen (k := 100 + 16 * (j + 1)) (n := 4000 + 200 * (j + 1)) (by show 100 + 16 * j + 3 + 0 + 0 ≤ 100 + 16 * (j + 1); omega) (by show 4000 + 200 * j + 26 + 0 + 0 ≤ 4000 + 200 * (j + 1); omega) ?_
    exact kk _ _ _ _ hLS hM (lv_sub hl [2, 3, 4, 5, 6] rfl)
  · have hk : kLabel N a1 a2 = 0 := by omega
    refine lv_aload_n X.1 X.2.1 dL_law_1083 rfl (lv_at hl 6 rfl) ?_
    refine lv_iconst (v := nI 0) X.1 X.2.1 dL_law_1084 (by decide) ?_
    refine mg_lald X hM dL_law_1085 (mJ_l (mJ_r (mO_dj ho2) mO_at)) (vp_in_nI (by decide) (by decide)) ?_
    refine lv_iload X.1 X.2.1 dL_law_1086 (lv_at hl 0 rfl) ?_
    refine lv_i2l (v := w.toInt64) X.1 X.2.1 dL_law_1088 rfl ?_
    refine W.lcmp X.1 X.2.1 dL_law_1089 ?_
    refine lv_if_eq (tgt := 1095) X.1 X.2.1 dL_law_1090 (by decide) (fun _ => ?_) (fun hc => absurd (lg_self (by rw [nI0c, (hk0 hk).2, hw hk])) hc)
    refine lv_goto (tgt := 1098) X.1 X.2.1 dL_law_1095 (by decide) ?_
    refine W.widen (k := 100 + 16 * (j + 1)) (n := 4000 + 200 * (j + 1)) (by show 100 + 16 * j + 3 + 0 + 0 ≤ 100 + 16 * (j + 1); omega) (by show 4000 + 200 * j + 26 + 0 + 0 ≤ 4000 + 200 * (j + 1); omega) ?_
    exact kk _ _ _ _ hLS hM (lv_sub hl [2, 3, 4, 5, 6] rfl)
end LAWC
