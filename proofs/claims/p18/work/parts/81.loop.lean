set_option maxHeartbeats 4000000 in
set_option maxRecDepth 100000 in
/-- the law's loop -/
theorem law_loop {p : Program} {l : Launch} {e : Env} {s : State} {m : MethodId} {below : List Frame} {meth : Method} {c : Code} {G : mG} {b L x : Nat} {xs : Nat → Int32} {ar : Nat → Nat} (C0 : lw_At p s m meth c b L xs) (hL : L ≤ 260) (X : Cx p c s m cL_law RL 23 G) (hS : XS s) (hZ : XZ G (lA s) s s.heap) (hN : NC s) (hst : l.stackTraces = false) :
    ∀ (n9 j : Nat), 65 ≤ n9 + j → j ≤ 64 → ∀ (N : Nat → Nat) (F : Nat → Nat → Nat) (B : Nat → Int32) (H : Heap) (locs : List Loc) (ls : Array Slot), LI j N F B → qM G (lA s) s x ar (N, F, B) (N, F, B) H locs → lv_has ls 23 [(12, .int (nI (1))), (13, .int (nI (j))), (0, .ref b), (1, .ref x), (2, .ref (ar 0)), (3, .ref (ar 1)), (4, .ref (ar 2)), (5, .ref (ar 3)), (6, .ref (ar 4)), (7, .ref (ar 5)), (8, .ref (ar 6)), (9, .ref (ar 7)), (10, .ref (ar 8)), (11, .ref (ar 9))] → W p l e room_1 s m #[Value.ref b] below meth c H locs (1000 + 1100 * j) (10000 + 7000 * j) (lw_Z below #[Value.ref b] s) (F0 m 196 ls []) := by
  have hX : va_X b L xs s s.heap := C0.2.2.2.2.2.2.1
  have hbl : b < s.heap.size := C0.2.2.2.2.2.2.2.1
  have hbA : ¬ lA s b := Nat.not_le.mpr hbl
  intro n9
  induction n9 with
  | zero => intro j h1 h2; exact absurd h1 (by omega)
  | succ n9 ih =>
    intro j hm9 hj N F B H locs ls hLI h hl
    have hI := hLI.1
    have hJ := hLI.2.1
    have hn := hI.n
    have h6 := qM.n6 h
    refine lv_iload X.1 X.2.1 dL_law_196 (lv_at hl 1 rfl) ?_
    refine lv_bipush (v := nI (64)) X.1 X.2.1 dL_law_198 (by decide) ?_
    refine b_icmp_ge (tgt := 1309) X dL_law_200 (by decide) (a := ((j : Nat) : Int)) (b := ((64 : Nat) : Int)) (nI_ti (by omega)) (nI_ti (by omega)) (fun c1 => ?_) (fun c1 => ?_)
    · skip
      refine lv_iload X.1 X.2.1 dL_law_1309 (lv_at hl 0 rfl) ?_
      refine lv_top (y := 1) (by decide) ?_
      obtain ⟨M9, hM9, -⟩ := h
      refine va_forget (fun q hq => hM9.2.2.1.2.2 q hq) ?_
      refine W.widen (k := 733361) (n := 6901384) (show 1000 + 1100 * j ≤ 733361 by omega) (show 10000 + 7000 * j ≤ 6901384 by omega) ?_
      exact lw_ret X.1 X.2.1 C0.2.2.1 C0.2.2.2.2.2.2.2.2.1 dL_law_1311
    · skip
      refine lv_iload X.1 X.2.1 dL_law_203 (lv_at hl 0 rfl) ?_
      refine b_if_eq (tgt := 1309) X dL_law_205 (by decide) (a := ((1 : Nat) : Int)) (nI_ti (by omega)) (fun c2 => ?_) (fun c2 => ?_)
      · skip
        exact absurd c2 (by first | decide | omega)
      · skip
        have K239 : ∀ (wh : Nat) (hwh : wh < 32) (H : Heap) (locs : List Loc) (ls : Array Slot), qM G (lA s) s x ar (N, F, B) (N, F, B) H locs → lv_has ls 23 [(12, .int (nI (1))), (13, .int (nI (j))), (0, .ref b), (1, .ref x), (2, .ref (ar 0)), (3, .ref (ar 1)), (4, .ref (ar 2)), (5, .ref (ar 3)), (6, .ref (ar 4)), (7, .ref (ar 5)), (8, .ref (ar 6)), (9, .ref (ar 7)), (10, .ref (ar 8)), (11, .ref (ar 9))] → W p l e room_1 s m #[Value.ref b] below meth c H locs (1000 + 1100 * j) (10000 + 7000 * j) (lw_Z below #[Value.ref b] s) (F0 m 239 ls [.int (nI (wh))]) := by
          intro wh hwh H locs ls h hl
          refine lv_istore (lv' := [(14, .int (nI (wh))), (12, .int (nI (1))), (13, .int (nI (j))), (0, .ref b), (1, .ref x), (2, .ref (ar 0)), (3, .ref (ar 1)), (4, .ref (ar 2)), (5, .ref (ar 3)), (6, .ref (ar 4)), (7, .ref (ar 5)), (8, .ref (ar 6)), (9, .ref (ar 7)), (10, .ref (ar 8)), (11, .ref (ar 9))]) X.1 X.2.1 dL_law_239 hl (by decide) rfl (fun ls hl => ?_)
          refine lv_aload_n X.1 X.2.1 dL_law_241 rfl (lv_at hl 3 rfl) ?_
          refine lv_iconst (v := nI (3)) X.1 X.2.1 dL_law_242 (by decide) ?_
          refine lv_iload X.1 X.2.1 dL_law_243 (lv_at hl 2 rfl) ?_
          refine lv_imul X.1 X.2.1 dL_law_245 ?_
          refine lv_top (y := nI (3 * j)) (pk_mul _ _) ?_
          refine lv_iconst (v := nI (1)) X.1 X.2.1 dL_law_246 (by decide) ?_
          refine lv_iadd X.1 X.2.1 dL_law_247 ?_
          refine lv_top (y := nI (3 * j + 1)) (nI_add _ _) ?_
          refine lv_ldc (own := RL) (index := 112) (v := 60000) X.1 X.2.1 X.2.2.2.1 (X.2.2.2.2.1.use kco_L_112) dL_law_248 ?_
          refine lv_top (y := nI 60000) rfl ?_
          refine p_call X hS hZ hN h hX hbl hbA hL (k := 3 * j + 1) (n := 60000) (by omega) (by omega) (by omega) hl (Nat.le_of_ble_eq_true rfl) dL_law_250 ⟨Nat.le_of_ble_eq_true rfl, Nat.le_of_ble_eq_true rfl⟩ ⟨show 1000 + 1100 * j ≤ 733361 by omega, show 10000 + 7000 * j ≤ 6901384 by omega⟩ (fun q3 H locs hq3 h => ?_)
          refine lv_istore (lv' := [(15, .int (nI (q3))), (14, .int (nI (wh))), (12, .int (nI (1))), (13, .int (nI (j))), (0, .ref b), (1, .ref x), (2, .ref (ar 0)), (3, .ref (ar 1)), (4, .ref (ar 2)), (5, .ref (ar 3)), (6, .ref (ar 4)), (7, .ref (ar 5)), (8, .ref (ar 6)), (9, .ref (ar 7)), (10, .ref (ar 8)), (11, .ref (ar 9))]) X.1 X.2.1 dL_law_253 hl (by decide) rfl (fun ls hl => ?_)
          refine lv_aload_n X.1 X.2.1 dL_law_255 rfl (lv_at hl 4 rfl) ?_
          refine lv_iconst (v := nI (3)) X.1 X.2.1 dL_law_256 (by decide) ?_
          refine lv_iload X.1 X.2.1 dL_law_257 (lv_at hl 3 rfl) ?_
          refine lv_imul X.1 X.2.1 dL_law_259 ?_
          refine lv_top (y := nI (3 * j)) (pk_mul _ _) ?_
          refine lv_iconst (v := nI (2)) X.1 X.2.1 dL_law_260 (by decide) ?_
          refine lv_iadd X.1 X.2.1 dL_law_261 ?_
          refine lv_top (y := nI (3 * j + 2)) (nI_add _ _) ?_
          refine lv_ldc (own := RL) (index := 112) (v := 60000) X.1 X.2.1 X.2.2.2.1 (X.2.2.2.2.1.use kco_L_112) dL_law_262 ?_
          refine lv_top (y := nI 60000) rfl ?_
          refine p_call X hS hZ hN h hX hbl hbA hL (k := 3 * j + 2) (n := 60000) (by omega) (by omega) (by omega) hl (Nat.le_of_ble_eq_true rfl) dL_law_264 ⟨Nat.le_of_ble_eq_true rfl, Nat.le_of_ble_eq_true rfl⟩ ⟨show 1000 + 1100 * j ≤ 733361 by omega, show 10000 + 7000 * j ≤ 6901384 by omega⟩ (fun q4 H locs hq4 h => ?_)
          refine lv_istore (lv' := [(16, .int (nI (q4))), (15, .int (nI (q3))), (14, .int (nI (wh))), (12, .int (nI (1))), (13, .int (nI (j))), (0, .ref b), (1, .ref x), (2, .ref (ar 0)), (3, .ref (ar 1)), (4, .ref (ar 2)), (5, .ref (ar 3)), (6, .ref (ar 4)), (7, .ref (ar 5)), (8, .ref (ar 6)), (9, .ref (ar 7)), (10, .ref (ar 8)), (11, .ref (ar 9))]) X.1 X.2.1 dL_law_267 hl (by decide) rfl (fun ls hl => ?_)
          refine lv_iload X.1 X.2.1 dL_law_269 (lv_at hl 1 rfl) ?_
          refine lv_aload X.1 X.2.1 dL_law_271 (lv_at hl 16 rfl) ?_
          refine lv_iconst (v := nI (1)) X.1 X.2.1 dL_law_273 (by decide) ?_
          refine q_ald X h 9 (by decide) dL_law_274 (i := 1) (v := nI (N 1)) rfl (by show _ < 9; omega) (fun V r => LR.g1 r) ?_
          refine lv_iconst (v := nI (1)) X.1 X.2.1 dL_law_275 (by decide) ?_
          refine lv_iadd X.1 X.2.1 dL_law_276 ?_
          refine lv_top (y := nI (N 1 + 1)) (nI_add _ _) ?_
          refine lv_irem X.1 X.2.1 dL_law_277 (nI_n0 (by omega) (by omega)) ?_
          refine lv_top (y := nI (q3 % (N 1 + 1))) (pk_rem (by omega) (by omega) (by omega)) ?_
          have hr5 := Nat.mod_lt q3 (show 0 < N 1 + 1 by omega)
          generalize q3 % (N 1 + 1) = r5 at hr5 ⊢
          refine lv_istore (lv' := [(17, .int (nI (r5))), (16, .int (nI (q4))), (15, .int (nI (q3))), (14, .int (nI (wh))), (12, .int (nI (1))), (13, .int (nI (j))), (0, .ref b), (1, .ref x), (2, .ref (ar 0)), (3, .ref (ar 1)), (4, .ref (ar 2)), (5, .ref (ar 3)), (6, .ref (ar 4)), (7, .ref (ar 5)), (8, .ref (ar 6)), (9, .ref (ar 7)), (10, .ref (ar 8)), (11, .ref (ar 9))]) X.1 X.2.1 dL_law_278 hl (by decide) rfl (fun ls hl => ?_)
          have K294 : ∀ (H : Heap) (locs : List Loc) (ls : Array Slot), qM G (lA s) s x ar (N, F, B) (N, F, B) H locs → lv_has ls 23 [(17, .int (nI (r5))), (16, .int (nI (q4))), (15, .int (nI (q3))), (14, .int (nI (wh))), (12, .int (nI (1))), (13, .int (nI (j))), (0, .ref b), (1, .ref x), (2, .ref (ar 0)), (3, .ref (ar 1)), (4, .ref (ar 2)), (5, .ref (ar 3)), (6, .ref (ar 4)), (7, .ref (ar 5)), (8, .ref (ar 6)), (9, .ref (ar 7)), (10, .ref (ar 8)), (11, .ref (ar 9))] → W p l e room_1 s m #[Value.ref b] below meth c H locs (1000 + 1100 * j) (10000 + 7000 * j) (lw_Z below #[Value.ref b] s) (F0 m 294 ls [.int (bI (decide (r5 < N 1)))]) := by
            intro  H locs ls h hl
            refine lv_istore (lv' := [(18, .int (bI (decide (r5 < N 1)))), (17, .int (nI (r5))), (16, .int (nI (q4))), (15, .int (nI (q3))), (14, .int (nI (wh))), (12, .int (nI (1))), (13, .int (nI (j))), (0, .ref b), (1, .ref x), (2, .ref (ar 0)), (3, .ref (ar 1)), (4, .ref (ar 2)), (5, .ref (ar 3)), (6, .ref (ar 4)), (7, .ref (ar 5)), (8, .ref (ar 6)), (9, .ref (ar 7)), (10, .ref (ar 8)), (11, .ref (ar 9))]) X.1 X.2.1 dL_law_294 hl (by decide) rfl (fun ls hl => ?_)
            have K : LK p l e s m below meth c G x ar j b q3 q4 := by
              intro N F B H locs ls hL1 h hl
              have hI := hL1.1
              have hJ := hL1.2.1
              have hn := hI.n
              have h6 := qM.n6 h
              refine lv_iload X.1 X.2.1 dL_law_1241 (lv_at hl 0 rfl) ?_
              refine b_if_eq (tgt := 1300) X dL_law_1243 (by decide) (a := ((1 : Nat) : Int)) (nI_ti (by omega)) (fun c6 => ?_) (fun c6 => ?_)
              · skip
                exact absurd c6 (by first | decide | omega)
              · skip
                refine lv_aload_n X.1 X.2.1 dL_law_1246 rfl (lv_at hl 5 rfl) ?_
                refine lv_aload_n X.1 X.2.1 dL_law_1247 rfl (lv_at hl 6 rfl) ?_
                refine lv_aload_n X.1 X.2.1 dL_law_1248 rfl (lv_at hl 7 rfl) ?_
                refine lv_aload X.1 X.2.1 dL_law_1249 (lv_at hl 8 rfl) ?_
                refine lv_aload X.1 X.2.1 dL_law_1251 (lv_at hl 9 rfl) ?_
                refine lv_aload X.1 X.2.1 dL_law_1253 (lv_at hl 10 rfl) ?_
                refine lv_aload X.1 X.2.1 dL_law_1255 (lv_at hl 11 rfl) ?_
                refine lv_aload X.1 X.2.1 dL_law_1257 (lv_at hl 12 rfl) ?_
                refine lv_aload X.1 X.2.1 dL_law_1259 (lv_at hl 13 rfl) ?_
                refine lv_aload X.1 X.2.1 dL_law_1261 (lv_at hl 15 rfl) ?_
                refine lv_iload X.1 X.2.1 dL_law_1263 (lv_at hl 3 rfl) ?_
                refine q_call X hS hZ hN h ck_L_125 kst_L_isSo dL_law_1265 (As := [.ref x, .ref (ar 0), .ref (ar 1), .ref (ar 2), .ref (ar 3), .ref (ar 4), .ref (ar 5), .ref (ar 6), .ref (ar 7), .ref (ar 9), .int (nI (q4))]) (c_L_isSo l G x ar N F B q4 hst hI hJ (by omega)) rfl hl rfl (Nat.le_of_ble_eq_true rfl) ⟨Nat.le_of_ble_eq_true rfl, Nat.le_of_ble_eq_true rfl⟩ ⟨show 1000 + 1100 * j + 40 + 1000 ≤ 733361 by omega, show 10000 + 7000 * j + 400 + 6000 ≤ 6901384 by omega⟩ ?_
                rintro _ _ _ H locs ⟨rfl, rfl, rfl⟩ h
                refine b_if_eq (tgt := 1300) X dL_law_1268 (by decide) (a := ((1 : Nat) : Int)) (nI_ti (by omega)) (fun c7 => ?_) (fun c7 => ?_)
                · skip
                  exact absurd c7 (by first | decide | omega)
                · skip
                  refine lv_aload X.1 X.2.1 dL_law_1271 (lv_at hl 15 rfl) ?_
                  refine lv_iconst (v := nI (4)) X.1 X.2.1 dL_law_1273 (by decide) ?_
                  refine q_ald X h 9 (by decide) dL_law_1274 (i := 4) (v := nI (N 13)) rfl (by show _ < 9; omega) (fun V r => LR.g4 r) ?_
                  refine b_if_eq (tgt := 1296) X dL_law_1275 (by decide) (a := ((N 13 : Nat) : Int)) (nI_ti (by omega)) (fun c8 => ?_) (fun c8 => ?_)
                  · skip
                    refine lv_iconst (v := nI (1)) X.1 X.2.1 dL_law_1296 (by decide) ?_
                    refine lv_goto (tgt := 1301) X.1 X.2.1 dL_law_1297 (by decide) ?_
                    refine lv_istore (lv' := [(12, .int (nI (1))), (13, .int (nI (j))), (15, .int (nI (q3))), (16, .int (nI (q4))), (0, .ref b), (1, .ref x), (2, .ref (ar 0)), (3, .ref (ar 1)), (4, .ref (ar 2)), (5, .ref (ar 3)), (6, .ref (ar 4)), (7, .ref (ar 5)), (8, .ref (ar 6)), (9, .ref (ar 7)), (10, .ref (ar 8)), (11, .ref (ar 9))]) X.1 X.2.1 dL_law_1301 hl (by decide) rfl (fun ls hl => ?_)
                    refine lv_iinc (v := nI (j + 1)) (lv' := [(13, .int (nI (j + 1))), (12, .int (nI (1))), (15, .int (nI (q3))), (16, .int (nI (q4))), (0, .ref b), (1, .ref x), (2, .ref (ar 0)), (3, .ref (ar 1)), (4, .ref (ar 2)), (5, .ref (ar 3)), (6, .ref (ar 4)), (7, .ref (ar 5)), (8, .ref (ar 6)), (9, .ref (ar 7)), (10, .ref (ar 8)), (11, .ref (ar 9))]) X.1 X.2.1 dL_law_1303 hl (k := 1) rfl (nI_add (j) 1) (by decide) rfl (fun ls hl => ?_)
                    refine lv_goto (tgt := 196) X.1 X.2.1 dL_law_1306 (by decide) ?_
                    refine W.widen (k := 1000 + 1100 * (j + 1)) (n := 10000 + 7000 * (j + 1)) (show 1000 + 1100 * j + 40 + 1000 ≤ 1000 + 1100 * (j + 1) by omega) (show 10000 + 7000 * j + 400 + 6000 ≤ 10000 + 7000 * (j + 1) by omega) ?_
                    exact ih (j + 1) (by omega) (by omega) N F B _ _ _ hL1 h (lv_sub hl [1, 0, 4, 5, 6, 7, 8, 9, 10, 11, 12, 13, 14, 15] rfl)
                  · skip
                    refine lv_aload_n X.1 X.2.1 dL_law_1278 rfl (lv_at hl 5 rfl) ?_
                    refine lv_aload X.1 X.2.1 dL_law_1279 (lv_at hl 9 rfl) ?_
                    refine lv_aload X.1 X.2.1 dL_law_1281 (lv_at hl 10 rfl) ?_
                    refine lv_iload X.1 X.2.1 dL_law_1283 (lv_at hl 2 rfl) ?_
                    refine lv_aload X.1 X.2.1 dL_law_1285 (lv_at hl 15 rfl) ?_
                    refine lv_iconst (v := nI (4)) X.1 X.2.1 dL_law_1287 (by decide) ?_
                    refine q_ald X h 9 (by decide) dL_law_1288 (i := 4) (v := nI (N 13)) rfl (by show _ < 9; omega) (fun V r => LR.g4 r) ?_
                    refine lv_irem X.1 X.2.1 dL_law_1289 (nI_n0 (by omega) (by omega)) ?_
                    refine lv_top (y := nI (q3 % (N 13))) (pk_rem (by omega) (by omega) (by omega)) ?_
                    have hr9 := Nat.mod_lt q3 (show 0 < N 13 by omega)
                    generalize q3 % (N 13) = r9 at hr9 ⊢
                    refine q_call X hS hZ hN h ck_L_129 kst_L_isLabel dL_law_1290 (As := [.ref x, .ref (ar 3), .ref (ar 4), .int (nI (r9))]) (c_L_isLabel l G x ar N F B r9 hst hI (by omega)) rfl hl rfl (Nat.le_of_ble_eq_true rfl) ⟨Nat.le_of_ble_eq_true rfl, Nat.le_of_ble_eq_true rfl⟩ ⟨show 1000 + 1100 * j + 40 + 1000 + 60 ≤ 733361 by omega, show 10000 + 7000 * j + 400 + 6000 + 500 ≤ 6901384 by omega⟩ ?_
                    rintro _ _ _ H locs ⟨rfl, rfl, rfl⟩ h
                    refine b_if_eq (tgt := 1300) X dL_law_1293 (by decide) (a := ((1 : Nat) : Int)) (nI_ti (by omega)) (fun c10 => ?_) (fun c10 => ?_)
                    · skip
                      exact absurd c10 (by first | decide | omega)
                    · skip
                      refine lv_iconst (v := nI (1)) X.1 X.2.1 dL_law_1296 (by decide) ?_
                      refine lv_goto (tgt := 1301) X.1 X.2.1 dL_law_1297 (by decide) ?_
                      refine lv_istore (lv' := [(12, .int (nI (1))), (13, .int (nI (j))), (15, .int (nI (q3))), (16, .int (nI (q4))), (0, .ref b), (1, .ref x), (2, .ref (ar 0)), (3, .ref (ar 1)), (4, .ref (ar 2)), (5, .ref (ar 3)), (6, .ref (ar 4)), (7, .ref (ar 5)), (8, .ref (ar 6)), (9, .ref (ar 7)), (10, .ref (ar 8)), (11, .ref (ar 9))]) X.1 X.2.1 dL_law_1301 hl (by decide) rfl (fun ls hl => ?_)
                      refine lv_iinc (v := nI (j + 1)) (lv' := [(13, .int (nI (j + 1))), (12, .int (nI (1))), (15, .int (nI (q3))), (16, .int (nI (q4))), (0, .ref b), (1, .ref x), (2, .ref (ar 0)), (3, .ref (ar 1)), (4, .ref (ar 2)), (5, .ref (ar 3)), (6, .ref (ar 4)), (7, .ref (ar 5)), (8, .ref (ar 6)), (9, .ref (ar 7)), (10, .ref (ar 8)), (11, .ref (ar 9))]) X.1 X.2.1 dL_law_1303 hl (k := 1) rfl (nI_add (j) 1) (by decide) rfl (fun ls hl => ?_)
                      refine lv_goto (tgt := 196) X.1 X.2.1 dL_law_1306 (by decide) ?_
                      refine W.widen (k := 1000 + 1100 * (j + 1)) (n := 10000 + 7000 * (j + 1)) (show 1000 + 1100 * j + 40 + 1000 + 60 ≤ 1000 + 1100 * (j + 1) by omega) (show 10000 + 7000 * j + 400 + 6000 + 500 ≤ 10000 + 7000 * (j + 1) by omega) ?_
                      exact ih (j + 1) (by omega) (by omega) N F B _ _ _ hL1 h (lv_sub hl [1, 0, 4, 5, 6, 7, 8, 9, 10, 11, 12, 13, 14, 15] rfl)
            refine lv_iload X.1 X.2.1 dL_law_296 (lv_at hl 4 rfl) ?_
            refine b_if_ne (tgt := 374) X dL_law_298 (by decide) (a := ((wh : Nat) : Int)) (nI_ti (by omega)) (fun c11 => ?_) (fun c11 => ?_)
            · skip
              refine lv_iload X.1 X.2.1 dL_law_374 (lv_at hl 4 rfl) ?_
              refine lv_bipush (v := nI (13)) X.1 X.2.1 dL_law_376 (by decide) ?_
              refine b_icmp_ge (tgt := 400) X dL_law_378 (by decide) (a := ((wh : Nat) : Int)) (b := ((13 : Nat) : Int)) (nI_ti (by omega)) (nI_ti (by omega)) (fun c12 => ?_) (fun c12 => ?_)
              · skip
                refine lv_iload X.1 X.2.1 dL_law_400 (lv_at hl 4 rfl) ?_
                refine lv_bipush (v := nI (15)) X.1 X.2.1 dL_law_402 (by decide) ?_
                refine b_icmp_ge (tgt := 570) X dL_law_404 (by decide) (a := ((wh : Nat) : Int)) (b := ((15 : Nat) : Int)) (nI_ti (by omega)) (nI_ti (by omega)) (fun c13 => ?_) (fun c13 => ?_)
                · skip
                  refine lv_iload X.1 X.2.1 dL_law_570 (lv_at hl 4 rfl) ?_
                  refine lv_bipush (v := nI (21)) X.1 X.2.1 dL_law_572 (by decide) ?_
                  refine b_icmp_ge (tgt := 615) X dL_law_574 (by decide) (a := ((wh : Nat) : Int)) (b := ((21 : Nat) : Int)) (nI_ti (by omega)) (nI_ti (by omega)) (fun c14 => ?_) (fun c14 => ?_)
                  · skip
                    refine lv_iload X.1 X.2.1 dL_law_615 (lv_at hl 4 rfl) ?_
                    refine lv_bipush (v := nI (24)) X.1 X.2.1 dL_law_617 (by decide) ?_
                    refine b_icmp_ge (tgt := 796) X dL_law_619 (by decide) (a := ((wh : Nat) : Int)) (b := ((24 : Nat) : Int)) (nI_ti (by omega)) (nI_ti (by omega)) (fun c15 => ?_) (fun c15 => ?_)
                    · skip
                      refine lv_iload X.1 X.2.1 dL_law_796 (lv_at hl 4 rfl) ?_
                      refine lv_bipush (v := nI (26)) X.1 X.2.1 dL_law_798 (by decide) ?_
                      refine b_icmp_ge (tgt := 892) X dL_law_800 (by decide) (a := ((wh : Nat) : Int)) (b := ((26 : Nat) : Int)) (nI_ti (by omega)) (nI_ti (by omega)) (fun c16 => ?_) (fun c16 => ?_)
                      · skip
                        refine lv_iload X.1 X.2.1 dL_law_892 (lv_at hl 4 rfl) ?_
                        refine lv_bipush (v := nI (26)) X.1 X.2.1 dL_law_894 (by decide) ?_
                        refine b_icmp_ne (tgt := 1041) X dL_law_896 (by decide) (a := ((wh : Nat) : Int)) (b := ((26 : Nat) : Int)) (nI_ti (by omega)) (nI_ti (by omega)) (fun c17 => ?_) (fun c17 => ?_)
                        · skip
                          refine lv_iload X.1 X.2.1 dL_law_1041 (lv_at hl 4 rfl) ?_
                          refine lv_bipush (v := nI (27)) X.1 X.2.1 dL_law_1043 (by decide) ?_
                          refine b_icmp_ne (tgt := 1200) X dL_law_1045 (by decide) (a := ((wh : Nat) : Int)) (b := ((27 : Nat) : Int)) (nI_ti (by omega)) (nI_ti (by omega)) (fun c18 => ?_) (fun c18 => ?_)
                          · skip
                            exact law_pass X hS hZ hN hst hLI (by omega) (by omega) (by omega)  h (lv_sub hl [6, 3, 2, 7, 8, 9, 10, 11, 12, 13, 14, 15, 16, 17, 18] rfl) K
                          · skip
                            exact law_room X hS hZ hN hst hLI (by omega) (by omega) (by omega)  h (lv_sub hl [6, 3, 2, 7, 8, 9, 10, 11, 12, 13, 14, 15, 16, 17, 18] rfl) K
                        · skip
                          exact law_ban X hS hZ hN hst hLI (by omega) (by omega) (by omega) (by omega) h (lv_sub hl [6, 3, 2, 1, 0, 7, 8, 9, 10, 11, 12, 13, 14, 15, 16, 17, 18] rfl) K
                      · skip
                        exact law_clear X hS hZ hN hst hLI (by omega) (by omega) (by omega) (by omega) h (lv_sub hl [6, 3, 2, 1, 0, 7, 8, 9, 10, 11, 12, 13, 14, 15, 16, 17, 18] rfl) K
                    · skip
                      exact law_proof X hS hZ hN hst hLI (by omega) (by omega) (by omega) (by omega) h (lv_sub hl [6, 3, 2, 1, 0, 7, 8, 9, 10, 11, 12, 13, 14, 15, 16, 17, 18] rfl) K
                  · skip
                    exact law_skin X hS hZ hN hst hLI (by omega) (by omega) (by omega) hwh h (lv_sub hl [6, 3, 2, 4, 7, 8, 9, 10, 11, 12, 13, 14, 15, 16, 17, 18] rfl) K
                · skip
                  exact law_end X hS hZ hN hst hLI (by omega) (by omega) (by omega)  h (lv_sub hl [6, 3, 2, 7, 8, 9, 10, 11, 12, 13, 14, 15, 16, 17, 18] rfl) K
              · skip
                exact law_play X hS hZ hN hst hLI (by omega) (by omega) (by omega)  h (lv_sub hl [6, 3, 2, 7, 8, 9, 10, 11, 12, 13, 14, 15, 16, 17, 18] rfl) K
            · skip
              exact law_player X hS hZ hN hst hLI (by omega) (by omega) (by omega)  h (lv_sub hl [6, 3, 2, 7, 8, 9, 10, 11, 12, 13, 14, 15, 16, 17, 18] rfl) K
          refine lv_iload X.1 X.2.1 dL_law_280 (lv_at hl 0 rfl) ?_
          refine lv_aload X.1 X.2.1 dL_law_282 (lv_at hl 17 rfl) ?_
          refine lv_iconst (v := nI (1)) X.1 X.2.1 dL_law_284 (by decide) ?_
          refine q_ald X h 9 (by decide) dL_law_285 (i := 1) (v := nI (N 1)) rfl (by show _ < 9; omega) (fun V r => LR.g1 r) ?_
          refine b_icmp_ge (tgt := 293) X dL_law_286 (by decide) (a := ((r5 : Nat) : Int)) (b := ((N 1 : Nat) : Int)) (nI_ti (by omega)) (nI_ti (by omega)) (fun c19 => ?_) (fun c19 => ?_)
          · skip
            refine lv_iconst (v := nI (0)) X.1 X.2.1 dL_law_293 (by decide) ?_
            refine lv_top (y := bI (decide (r5 < N 1))) (bI_f (decide_eq_false (by omega))) ?_
            exact K294   _ _ _ h (lv_sub hl [0, 1, 2, 3, 4, 5, 6, 7, 8, 9, 10, 11, 12, 13, 14, 15, 16, 17] rfl)
          · skip
            refine lv_iconst (v := nI (1)) X.1 X.2.1 dL_law_289 (by decide) ?_
            refine lv_goto (tgt := 294) X.1 X.2.1 dL_law_290 (by decide) ?_
            refine lv_top (y := bI (decide (r5 < N 1))) (bI_t (decide_eq_true (by omega))) ?_
            exact K294   _ _ _ h (lv_sub hl [0, 1, 2, 3, 4, 5, 6, 7, 8, 9, 10, 11, 12, 13, 14, 15, 16, 17] rfl)
        refine lv_iload X.1 X.2.1 dL_law_208 (lv_at hl 1 rfl) ?_
        refine lv_iconst (v := nI (5)) X.1 X.2.1 dL_law_210 (by decide) ?_
        refine b_icmp_ge (tgt := 218) X dL_law_211 (by decide) (a := ((j : Nat) : Int)) (b := ((5 : Nat) : Int)) (nI_ti (by omega)) (nI_ti (by omega)) (fun c20 => ?_) (fun c20 => ?_)
        · skip
          refine lv_iload X.1 X.2.1 dL_law_218 (lv_at hl 1 rfl) ?_
          refine lv_bipush (v := nI (9)) X.1 X.2.1 dL_law_220 (by decide) ?_
          refine b_icmp_ge (tgt := 229) X dL_law_222 (by decide) (a := ((j : Nat) : Int)) (b := ((9 : Nat) : Int)) (nI_ti (by omega)) (nI_ti (by omega)) (fun c21 => ?_) (fun c21 => ?_)
          · skip
            refine lv_aload_n X.1 X.2.1 dL_law_229 rfl (lv_at hl 2 rfl) ?_
            refine lv_iconst (v := nI (3)) X.1 X.2.1 dL_law_230 (by decide) ?_
            refine lv_iload X.1 X.2.1 dL_law_231 (lv_at hl 1 rfl) ?_
            refine lv_imul X.1 X.2.1 dL_law_233 ?_
            refine lv_top (y := nI (3 * j)) (pk_mul _ _) ?_
            refine lv_bipush (v := nI (32)) X.1 X.2.1 dL_law_234 (by decide) ?_
            refine p_call X hS hZ hN h hX hbl hbA hL (k := 3 * j) (n := 32) (by omega) (by omega) (by omega) hl (Nat.le_of_ble_eq_true rfl) dL_law_236 ⟨Nat.le_of_ble_eq_true rfl, Nat.le_of_ble_eq_true rfl⟩ ⟨show 1000 + 1100 * j ≤ 733361 by omega, show 10000 + 7000 * j ≤ 6901384 by omega⟩ (fun q22 H locs hq22 h => ?_)
            exact K239 (q22) (by omega) _ _ _ h (lv_sub hl [0, 1, 2, 3, 4, 5, 6, 7, 8, 9, 10, 11, 12, 13] rfl)
          · skip
            refine lv_iconst (v := nI (1)) X.1 X.2.1 dL_law_225 (by decide) ?_
            refine lv_goto (tgt := 239) X.1 X.2.1 dL_law_226 (by decide) ?_
            exact K239 1 (by omega) _ _ _ h (lv_sub hl [0, 1, 2, 3, 4, 5, 6, 7, 8, 9, 10, 11, 12, 13] rfl)
        · skip
          refine lv_iconst (v := nI (0)) X.1 X.2.1 dL_law_214 (by decide) ?_
          refine lv_goto (tgt := 239) X.1 X.2.1 dL_law_215 (by decide) ?_
          exact K239 0 (by omega) _ _ _ h (lv_sub hl [0, 1, 2, 3, 4, 5, 6, 7, 8, 9, 10, 11, 12, 13] rfl)
