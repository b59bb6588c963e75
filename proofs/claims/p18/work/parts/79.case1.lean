set_option maxHeartbeats 4000000 in
set_option maxRecDepth 100000 in
theorem law_player {p : Program} {l : Launch} {e : Env} {s : State} {m : MethodId} {below : List Frame} {meth : Method} {c : Code} {H : Heap} {locs : List Loc} {ls : Array Slot} {G : mG} {x : Nat} {ar : Nat → Nat} {j b one two : Nat} {N : Nat → Nat} {F : Nat → Nat → Nat} {B : Nat → Int32}  (X : Cx p c s m cL_law RL 23 G) (hS : XS s) (hZ : XZ G (lA s) s s.heap) (hN : NC s) (hst : l.stackTraces = false) (hLI : LI j N F B) (hjj : j < 64) (hone : one < 60000) (htwo : two < 60000)  (h : qM G (lA s) s x ar (N, F, B) (N, F, B) H locs) (hl : lv_has ls 23 [(13, .int (nI (j))), (15, .int (nI (one))), (16, .int (nI (two))), (0, .ref b), (1, .ref x), (2, .ref (ar 0)), (3, .ref (ar 1)), (4, .ref (ar 2)), (5, .ref (ar 3)), (6, .ref (ar 4)), (7, .ref (ar 5)), (8, .ref (ar 6)), (9, .ref (ar 7)), (10, .ref (ar 8)), (11, .ref (ar 9))]) (K : LK p l e s m below meth c G x ar j b one two) : W p l e room_1 s m #[Value.ref b] below meth c H locs (1000 + 1100 * j) (10000 + 7000 * j) (lw_Z below #[Value.ref b] s) (F0 m 301 ls []) := by
  have hI := hLI.1
  have hJ := hLI.2.1
  have hn := hI.n
  have h6 := qM.n6 h
  refine lv_aload X.1 X.2.1 dL_law_301 (lv_at hl 14 rfl) ?_
  refine lv_iconst (v := nI (1)) X.1 X.2.1 dL_law_303 (by decide) ?_
  refine q_ald X h 9 (by decide) dL_law_304 (i := 1) (v := nI (N 1)) rfl (by show _ < 9; omega) (fun V r => LR.g1 r) ?_
  refine lv_bipush (v := nI (16)) X.1 X.2.1 dL_law_305 (by decide) ?_
  refine b_icmp_ge (tgt := 314) X dL_law_307 (by decide) (a := ((N 1 : Nat) : Int)) (b := ((16 : Nat) : Int)) (nI_ti (by omega)) (nI_ti (by omega)) (fun c1 => ?_) (fun c1 => ?_)
  · skip
    refine lv_iconst (v := nI (0)) X.1 X.2.1 dL_law_314 (by decide) ?_
    refine lv_istore (lv' := [(19, .int (nI (0))), (13, .int (nI (j))), (15, .int (nI (one))), (16, .int (nI (two))), (0, .ref b), (1, .ref x), (2, .ref (ar 0)), (3, .ref (ar 1)), (4, .ref (ar 2)), (5, .ref (ar 3)), (6, .ref (ar 4)), (7, .ref (ar 5)), (8, .ref (ar 6)), (9, .ref (ar 7)), (10, .ref (ar 8)), (11, .ref (ar 9))]) X.1 X.2.1 dL_law_315 hl (by decide) rfl (fun ls hl => ?_)
    refine lv_iload X.1 X.2.1 dL_law_317 (lv_at hl 0 rfl) ?_
    refine b_if_eq (tgt := 337) X dL_law_319 (by decide) (a := ((0 : Nat) : Int)) (nI_ti (by omega)) (fun c2 => ?_) (fun c2 => ?_)
    · skip
      have hK9 : kPlayer N = 1 := kPlayer_1 (by omega)
      refine lv_aload_n X.1 X.2.1 dL_law_337 rfl (lv_at hl 5 rfl) ?_
      refine lv_iconst (v := nI (0)) X.1 X.2.1 dL_law_338 (by decide) ?_
      refine lv_iconst (v := nI (0)) X.1 X.2.1 dL_law_339 (by decide) ?_
      refine lv_iconst (v := nI (0)) X.1 X.2.1 dL_law_340 (by decide) ?_
      refine lv_iconst (v := nI (0)) X.1 X.2.1 dL_law_341 (by decide) ?_
      refine q_callL X hS hZ hN h kcw_L_does kini_L (by decide) kar_L_does kml_L_does kst_L_does dL_law_342 (As := [.ref x, .int (nI (0)), .int (nI (0)), .int (nI (0)), .int (nI (0))]) ((c_L_does_player l G x ar N F B (N, F, B) (nI (0)) (nI (0)) (nI (0)) hst hI hJ).k (k := 1) (hK9) (w := (-1000000)) (rfl) (C2 := (N, F, B)) (rfl)) rfl hl rfl (Nat.le_of_ble_eq_true rfl) ⟨Nat.le_of_ble_eq_true rfl, Nat.le_of_ble_eq_true rfl⟩ ⟨show 1000 + 1100 * j + 1 ≤ 733361 by omega, show 10000 + 7000 * j + 6 ≤ 6901384 by omega⟩ ?_
      rintro _ _ _ H locs ⟨rfl, rfl, rfl⟩ h
      refine lv_iload X.1 X.2.1 dL_law_345 (lv_at hl 0 rfl) ?_
      refine b_if_eq (tgt := 359) X dL_law_347 (by decide) (a := ((0 : Nat) : Int)) (nI_ti (by omega)) (fun c3 => ?_) (fun c3 => ?_)
      · skip
        refine lv_ldc (own := RL) (index := 70) (v := (-1000000)) X.1 X.2.1 X.2.2.2.1 (X.2.2.2.2.1.use kco_L_70) dL_law_359 ?_
        refine b_icmp_ne (tgt := 368) X dL_law_361 (by decide) (a := (-1000000)) (b := (-1000000)) ((by decide)) ((by decide)) (fun c4 => ?_) (fun c4 => ?_)
        · skip
          exact absurd c4 (by first | decide | omega)
        · skip
          refine lv_iconst (v := nI (1)) X.1 X.2.1 dL_law_364 (by decide) ?_
          refine lv_goto (tgt := 369) X.1 X.2.1 dL_law_365 (by decide) ?_
          refine lv_istore (lv' := [(12, .int (nI (1))), (19, .int (nI (0))), (13, .int (nI (j))), (15, .int (nI (one))), (16, .int (nI (two))), (0, .ref b), (1, .ref x), (2, .ref (ar 0)), (3, .ref (ar 1)), (4, .ref (ar 2)), (5, .ref (ar 3)), (6, .ref (ar 4)), (7, .ref (ar 5)), (8, .ref (ar 6)), (9, .ref (ar 7)), (10, .ref (ar 8)), (11, .ref (ar 9))]) X.1 X.2.1 dL_law_369 hl (by decide) rfl (fun ls hl => ?_)
          refine lv_goto (tgt := 1241) X.1 X.2.1 dL_law_371 (by decide) ?_
          refine W.widen (k := 1000 + 1100 * j + 40) (n := 10000 + 7000 * j + 400) (show 1000 + 1100 * j + 1 ≤ 1000 + 1100 * j + 40 by omega) (show 10000 + 7000 * j + 6 ≤ 10000 + 7000 * j + 400 by omega) ?_
          exact K N F B _ _ _ (hLI.more) h (lv_sub hl [0, 2, 3, 4, 5, 6, 7, 8, 9, 10, 11, 12, 13, 14, 15, 16] rfl)
      · skip
        exact absurd c3 (by first | decide | omega)
    · skip
      exact absurd c2 (by first | decide | omega)
  · skip
    refine lv_iconst (v := nI (1)) X.1 X.2.1 dL_law_310 (by decide) ?_
    refine lv_goto (tgt := 315) X.1 X.2.1 dL_law_311 (by decide) ?_
    refine lv_istore (lv' := [(19, .int (nI (1))), (13, .int (nI (j))), (15, .int (nI (one))), (16, .int (nI (two))), (0, .ref b), (1, .ref x), (2, .ref (ar 0)), (3, .ref (ar 1)), (4, .ref (ar 2)), (5, .ref (ar 3)), (6, .ref (ar 4)), (7, .ref (ar 5)), (8, .ref (ar 6)), (9, .ref (ar 7)), (10, .ref (ar 8)), (11, .ref (ar 9))]) X.1 X.2.1 dL_law_315 hl (by decide) rfl (fun ls hl => ?_)
    refine lv_iload X.1 X.2.1 dL_law_317 (lv_at hl 0 rfl) ?_
    refine b_if_eq (tgt := 337) X dL_law_319 (by decide) (a := ((1 : Nat) : Int)) (nI_ti (by omega)) (fun c5 => ?_) (fun c5 => ?_)
    · skip
      exact absurd c5 (by first | decide | omega)
    · skip
      obtain ⟨V, lr, h⟩ := qM.opn h
      refine lv_aload_n X.1 X.2.1 dL_law_322 rfl (lv_at hl 6 rfl) ?_
      refine lv_aload X.1 X.2.1 dL_law_323 (lv_at hl 15 rfl) ?_
      refine lv_iconst (v := nI (1)) X.1 X.2.1 dL_law_325 (by decide) ?_
      refine v_ald X h 9 (by decide) dL_law_326 (i := 1) (v := nI (N 1)) rfl (by show _ < 9; omega) (show V 9 (1) = _ from LR.g1 lr) ?_
      refine lv_iconst (v := nI (0) - 1) X.1 X.2.1 dL_law_327 (by decide) ?_
      refine v_ast X h 0 (by decide) dL_law_328 (i := N 1) (w := nI (0) - 1) rfl (by show _ < 48; omega) (fun H locs h => ?_)
      refine lv_aload X.1 X.2.1 dL_law_329 (lv_at hl 15 rfl) ?_
      refine lv_iconst (v := nI (1)) X.1 X.2.1 dL_law_331 (by decide) ?_
      refine lv_dup2_11 X.1 X.2.1 dL_law_332 rfl rfl ?_
      refine v_ald X h 9 (by decide) dL_law_333 (i := 1) (v := nI (N 1)) rfl (by show _ < 9; omega) (show V 9 (1) = _ from LR.g1 lr) ?_
      refine lv_iconst (v := nI (1)) X.1 X.2.1 dL_law_334 (by decide) ?_
      refine lv_iadd X.1 X.2.1 dL_law_335 ?_
      refine lv_top (y := nI (N 1 + 1)) (nI_add _ _) ?_
      refine v_ast X h 9 (by decide) dL_law_336 (i := 1) (w := nI (N 1 + 1)) rfl (by show _ < 9; omega) (fun H locs h => ?_)
      have h := qV.close h (lr.pl (by omega))
      have hK9 : kPlayer N = 0 := kPlayer_0 (by omega)
      refine lv_aload_n X.1 X.2.1 dL_law_337 rfl (lv_at hl 5 rfl) ?_
      refine lv_iconst (v := nI (0)) X.1 X.2.1 dL_law_338 (by decide) ?_
      refine lv_iconst (v := nI (0)) X.1 X.2.1 dL_law_339 (by decide) ?_
      refine lv_iconst (v := nI (0)) X.1 X.2.1 dL_law_340 (by decide) ?_
      refine lv_iconst (v := nI (0)) X.1 X.2.1 dL_law_341 (by decide) ?_
      refine q_callL X hS hZ hN h kcw_L_does kini_L (by decide) kar_L_does kml_L_does kst_L_does dL_law_342 (As := [.ref x, .int (nI (0)), .int (nI (0)), .int (nI (0)), .int (nI (0))]) ((c_L_does_player l G x ar N F B ((va_up N 1 (N 1 + 1)), (set1 F 2 (N 1) 0), B) (nI (0)) (nI (0)) (nI (0)) hst hI hJ).k (k := 0) (hK9) (w := nI (N 1)) (rfl) (C2 := (va_up N 1 (N 1 + 1), set1 F 2 (N 1) 0, B)) (rfl)) rfl hl rfl (Nat.le_of_ble_eq_true rfl) ⟨Nat.le_of_ble_eq_true rfl, Nat.le_of_ble_eq_true rfl⟩ ⟨show 1000 + 1100 * j + 1 ≤ 733361 by omega, show 10000 + 7000 * j + 6 ≤ 6901384 by omega⟩ ?_
      rintro _ _ _ H locs ⟨rfl, rfl, rfl⟩ h
      refine lv_iload X.1 X.2.1 dL_law_345 (lv_at hl 0 rfl) ?_
      refine b_if_eq (tgt := 359) X dL_law_347 (by decide) (a := ((1 : Nat) : Int)) (nI_ti (by omega)) (fun c6 => ?_) (fun c6 => ?_)
      · skip
        exact absurd c6 (by first | decide | omega)
      · skip
        refine lv_aload X.1 X.2.1 dL_law_350 (lv_at hl 15 rfl) ?_
        refine lv_iconst (v := nI (1)) X.1 X.2.1 dL_law_352 (by decide) ?_
        refine q_ald X h 9 (by decide) dL_law_353 (i := 1) (v := nI ((N 1 + 1))) rfl (by show _ < 9; omega) (fun V r => have z9 := LR.g1 r; z9) ?_
        refine lv_iconst (v := nI (1)) X.1 X.2.1 dL_law_354 (by decide) ?_
        refine lv_isub X.1 X.2.1 dL_law_355 ?_
        refine lv_top (y := nI ((N 1 + 1)) - 1) rfl ?_
        refine lv_goto (tgt := 361) X.1 X.2.1 dL_law_356 (by decide) ?_
        refine b_icmp_ne (tgt := 368) X dL_law_361 (by decide) (a := ((N 1 : Nat) : Int)) (b := (((N 1 + 1) : Nat) : Int) - 1) (nI_ti (by omega)) (eI_ti (by omega)) (fun c7 => ?_) (fun c7 => ?_)
        · skip
          exact absurd c7 (by omega)
        · skip
          refine lv_iconst (v := nI (1)) X.1 X.2.1 dL_law_364 (by decide) ?_
          refine lv_goto (tgt := 369) X.1 X.2.1 dL_law_365 (by decide) ?_
          refine lv_istore (lv' := [(12, .int (nI (1))), (19, .int (nI (1))), (13, .int (nI (j))), (15, .int (nI (one))), (16, .int (nI (two))), (0, .ref b), (1, .ref x), (2, .ref (ar 0)), (3, .ref (ar 1)), (4, .ref (ar 2)), (5, .ref (ar 3)), (6, .ref (ar 4)), (7, .ref (ar 5)), (8, .ref (ar 6)), (9, .ref (ar 7)), (10, .ref (ar 8)), (11, .ref (ar 9))]) X.1 X.2.1 dL_law_369 hl (by decide) rfl (fun ls hl => ?_)
          refine lv_goto (tgt := 1241) X.1 X.2.1 dL_law_371 (by decide) ?_
          refine W.widen (k := 1000 + 1100 * j + 40) (n := 10000 + 7000 * j + 400) (show 1000 + 1100 * j + 1 ≤ 1000 + 1100 * j + 40 by omega) (show 10000 + 7000 * j + 6 ≤ 10000 + 7000 * j + 400 by omega) ?_
          exact K (va_up N 1 (N 1 + 1)) (set1 F 2 (N 1) 0) B _ _ _ (stp_player hLI hK9) h (lv_sub hl [0, 2, 3, 4, 5, 6, 7, 8, 9, 10, 11, 12, 13, 14, 15, 16] rfl)
set_option maxHeartbeats 4000000 in
set_option maxRecDepth 100000 in
theorem law_play {p : Program} {l : Launch} {e : Env} {s : State} {m : MethodId} {below : List Frame} {meth : Method} {c : Code} {H : Heap} {locs : List Loc} {ls : Array Slot} {G : mG} {x : Nat} {ar : Nat → Nat} {j b one two : Nat} {N : Nat → Nat} {F : Nat → Nat → Nat} {B : Nat → Int32}  (X : Cx p c s m cL_law RL 23 G) (hS : XS s) (hZ : XZ G (lA s) s s.heap) (hN : NC s) (hst : l.stackTraces = false) (hLI : LI j N F B) (hjj : j < 64) (hone : one < 60000) (htwo : two < 60000)  (h : qM G (lA s) s x ar (N, F, B) (N, F, B) H locs) (hl : lv_has ls 23 [(13, .int (nI (j))), (15, .int (nI (one))), (16, .int (nI (two))), (0, .ref b), (1, .ref x), (2, .ref (ar 0)), (3, .ref (ar 1)), (4, .ref (ar 2)), (5, .ref (ar 3)), (6, .ref (ar 4)), (7, .ref (ar 5)), (8, .ref (ar 6)), (9, .ref (ar 7)), (10, .ref (ar 8)), (11, .ref (ar 9))]) (K : LK p l e s m below meth c G x ar j b one two) : W p l e room_1 s m #[Value.ref b] below meth c H locs (1000 + 1100 * j) (10000 + 7000 * j) (lw_Z below #[Value.ref b] s) (F0 m 381 ls []) := by
  have hI := hLI.1
  have hJ := hLI.2.1
  have hn := hI.n
  have h6 := qM.n6 h
  refine lv_aload_n X.1 X.2.1 dL_law_381 rfl (lv_at hl 4 rfl) ?_
  refine lv_aload_n X.1 X.2.1 dL_law_382 rfl (lv_at hl 5 rfl) ?_
  refine lv_aload_n X.1 X.2.1 dL_law_383 rfl (lv_at hl 6 rfl) ?_
  refine lv_aload X.1 X.2.1 dL_law_384 (lv_at hl 7 rfl) ?_
  refine lv_aload X.1 X.2.1 dL_law_386 (lv_at hl 14 rfl) ?_
  refine lv_iload X.1 X.2.1 dL_law_388 (lv_at hl 1 rfl) ?_
  refine lv_iload X.1 X.2.1 dL_law_390 (lv_at hl 2 rfl) ?_
  refine q_call X hS hZ hN h ck_L_113 kst_L_isPlay dL_law_392 (As := [.ref x, .ref (ar 0), .ref (ar 1), .ref (ar 2), .ref (ar 9), .int (nI (one)), .int (nI (two))]) (c_L_isPlay l G x ar N F B j one two hst hLI (by omega) (by omega)) rfl hl rfl (Nat.le_of_ble_eq_true rfl) ⟨Nat.le_of_ble_eq_true rfl, Nat.le_of_ble_eq_true rfl⟩ ⟨show 1000 + 1100 * j + 20 ≤ 733361 by omega, show 10000 + 7000 * j + 200 ≤ 6901384 by omega⟩ ?_
  rintro _ C1 _ H locs ⟨rfl, rfl, hL1⟩ h
  obtain ⟨N1, F1, B1⟩ := C1
  have hL1 : LI (j + 1) N1 F1 B1 := hL1
  refine lv_istore (lv' := [(12, .int (nI (1))), (13, .int (nI (j))), (15, .int (nI (one))), (16, .int (nI (two))), (0, .ref b), (1, .ref x), (2, .ref (ar 0)), (3, .ref (ar 1)), (4, .ref (ar 2)), (5, .ref (ar 3)), (6, .ref (ar 4)), (7, .ref (ar 5)), (8, .ref (ar 6)), (9, .ref (ar 7)), (10, .ref (ar 8)), (11, .ref (ar 9))]) X.1 X.2.1 dL_law_395 hl (by decide) rfl (fun ls hl => ?_)
  refine lv_goto (tgt := 1241) X.1 X.2.1 dL_law_397 (by decide) ?_
  refine W.widen (k := 1000 + 1100 * j + 40) (n := 10000 + 7000 * j + 400) (show 1000 + 1100 * j + 20 ≤ 1000 + 1100 * j + 40 by omega) (show 10000 + 7000 * j + 200 ≤ 10000 + 7000 * j + 400 by omega) ?_
  exact K N1 F1 B1 _ _ _ (hL1) h (lv_sub hl [0, 1, 2, 3, 4, 5, 6, 7, 8, 9, 10, 11, 12, 13, 14, 15] rfl)
set_option maxHeartbeats 4000000 in
set_option maxRecDepth 100000 in
theorem law_skin {p : Program} {l : Launch} {e : Env} {s : State} {m : MethodId} {below : List Frame} {meth : Method} {c : Code} {H : Heap} {locs : List Loc} {ls : Array Slot} {G : mG} {x : Nat} {ar : Nat → Nat} {j b one two : Nat} {N : Nat → Nat} {F : Nat → Nat → Nat} {B : Nat → Int32} {wh : Nat} (X : Cx p c s m cL_law RL 23 G) (hS : XS s) (hZ : XZ G (lA s) s s.heap) (hN : NC s) (hst : l.stackTraces = false) (hLI : LI j N F B) (hjj : j < 64) (hone : one < 60000) (htwo : two < 60000) (hwh : wh < 32) (h : qM G (lA s) s x ar (N, F, B) (N, F, B) H locs) (hl : lv_has ls 23 [(13, .int (nI (j))), (15, .int (nI (one))), (16, .int (nI (two))), (14, .int (nI (wh))), (0, .ref b), (1, .ref x), (2, .ref (ar 0)), (3, .ref (ar 1)), (4, .ref (ar 2)), (5, .ref (ar 3)), (6, .ref (ar 4)), (7, .ref (ar 5)), (8, .ref (ar 6)), (9, .ref (ar 7)), (10, .ref (ar 8)), (11, .ref (ar 9))]) (K : LK p l e s m below meth c G x ar j b one two) : W p l e room_1 s m #[Value.ref b] below meth c H locs (1000 + 1100 * j) (10000 + 7000 * j) (lw_Z below #[Value.ref b] s) (F0 m 577 ls []) := by
  have hI := hLI.1
  have hJ := hLI.2.1
  have hn := hI.n
  have h6 := qM.n6 h
  refine lv_aload_n X.1 X.2.1 dL_law_577 rfl (lv_at hl 5 rfl) ?_
  refine lv_aload_n X.1 X.2.1 dL_law_578 rfl (lv_at hl 6 rfl) ?_
  refine lv_aload X.1 X.2.1 dL_law_579 (lv_at hl 10 rfl) ?_
  refine lv_aload X.1 X.2.1 dL_law_581 (lv_at hl 11 rfl) ?_
  refine lv_aload X.1 X.2.1 dL_law_583 (lv_at hl 12 rfl) ?_
  refine lv_aload X.1 X.2.1 dL_law_585 (lv_at hl 13 rfl) ?_
  refine lv_aload X.1 X.2.1 dL_law_587 (lv_at hl 14 rfl) ?_
  refine lv_aload X.1 X.2.1 dL_law_589 (lv_at hl 15 rfl) ?_
  refine lv_iload X.1 X.2.1 dL_law_591 (lv_at hl 3 rfl) ?_
  refine lv_bipush (v := nI (19)) X.1 X.2.1 dL_law_593 (by decide) ?_
  refine b_icmp_ge (tgt := 602) X dL_law_595 (by decide) (a := ((wh : Nat) : Int)) (b := ((19 : Nat) : Int)) (nI_ti (by omega)) (nI_ti (by omega)) (fun c1 => ?_) (fun c1 => ?_)
  · skip
    refine lv_iconst (v := nI (0)) X.1 X.2.1 dL_law_602 (by decide) ?_
    refine lv_iload X.1 X.2.1 dL_law_603 (lv_at hl 1 rfl) ?_
    refine lv_iload X.1 X.2.1 dL_law_605 (lv_at hl 2 rfl) ?_
    refine q_call X hS hZ hN h ck_L_117 kst_L_isSkin dL_law_607 (As := [.ref x, .ref (ar 0), .ref (ar 4), .ref (ar 5), .ref (ar 6), .ref (ar 7), .ref (ar 8), .ref (ar 9), .int (nI (0)), .int (nI (one)), .int (nI (two))]) (c_L_isSkin0 l G x ar N F B j one two hst hLI (by omega) (by omega)) rfl hl rfl (Nat.le_of_ble_eq_true rfl) ⟨Nat.le_of_ble_eq_true rfl, Nat.le_of_ble_eq_true rfl⟩ ⟨show 1000 + 1100 * j + 20 ≤ 733361 by omega, show 10000 + 7000 * j + 200 ≤ 6901384 by omega⟩ ?_
    rintro _ C1 _ H locs ⟨rfl, rfl, hL1⟩ h
    obtain ⟨N1, F1, B1⟩ := C1
    have hL1 : LI (j + 1) N1 F1 B1 := hL1
    refine lv_istore (lv' := [(12, .int (nI (1))), (13, .int (nI (j))), (15, .int (nI (one))), (16, .int (nI (two))), (14, .int (nI (wh))), (0, .ref b), (1, .ref x), (2, .ref (ar 0)), (3, .ref (ar 1)), (4, .ref (ar 2)), (5, .ref (ar 3)), (6, .ref (ar 4)), (7, .ref (ar 5)), (8, .ref (ar 6)), (9, .ref (ar 7)), (10, .ref (ar 8)), (11, .ref (ar 9))]) X.1 X.2.1 dL_law_610 hl (by decide) rfl (fun ls hl => ?_)
    refine lv_goto (tgt := 1241) X.1 X.2.1 dL_law_612 (by decide) ?_
    refine W.widen (k := 1000 + 1100 * j + 40) (n := 10000 + 7000 * j + 400) (show 1000 + 1100 * j + 20 ≤ 1000 + 1100 * j + 40 by omega) (show 10000 + 7000 * j + 200 ≤ 10000 + 7000 * j + 400 by omega) ?_
    exact K N1 F1 B1 _ _ _ (hL1) h (lv_sub hl [0, 1, 2, 3, 5, 6, 7, 8, 9, 10, 11, 12, 13, 14, 15, 16] rfl)
  · skip
    refine lv_iconst (v := nI (1)) X.1 X.2.1 dL_law_598 (by decide) ?_
    refine lv_goto (tgt := 603) X.1 X.2.1 dL_law_599 (by decide) ?_
    refine lv_iload X.1 X.2.1 dL_law_603 (lv_at hl 1 rfl) ?_
    refine lv_iload X.1 X.2.1 dL_law_605 (lv_at hl 2 rfl) ?_
    refine q_call X hS hZ hN h ck_L_117 kst_L_isSkin dL_law_607 (As := [.ref x, .ref (ar 0), .ref (ar 4), .ref (ar 5), .ref (ar 6), .ref (ar 7), .ref (ar 8), .ref (ar 9), .int (nI (1)), .int (nI (one)), .int (nI (two))]) (c_L_isSkin1 l G x ar N F B j one two hst hLI (by omega) (by omega)) rfl hl rfl (Nat.le_of_ble_eq_true rfl) ⟨Nat.le_of_ble_eq_true rfl, Nat.le_of_ble_eq_true rfl⟩ ⟨show 1000 + 1100 * j + 20 ≤ 733361 by omega, show 10000 + 7000 * j + 200 ≤ 6901384 by omega⟩ ?_
    rintro _ C1 _ H locs ⟨rfl, rfl, hL1⟩ h
    obtain ⟨N1, F1, B1⟩ := C1
    have hL1 : LI (j + 1) N1 F1 B1 := hL1
    refine lv_istore (lv' := [(12, .int (nI (1))), (13, .int (nI (j))), (15, .int (nI (one))), (16, .int (nI (two))), (14, .int (nI (wh))), (0, .ref b), (1, .ref x), (2, .ref (ar 0)), (3, .ref (ar 1)), (4, .ref (ar 2)), (5, .ref (ar 3)), (6, .ref (ar 4)), (7, .ref (ar 5)), (8, .ref (ar 6)), (9, .ref (ar 7)), (10, .ref (ar 8)), (11, .ref (ar 9))]) X.1 X.2.1 dL_law_610 hl (by decide) rfl (fun ls hl => ?_)
    refine lv_goto (tgt := 1241) X.1 X.2.1 dL_law_612 (by decide) ?_
    refine W.widen (k := 1000 + 1100 * j + 40) (n := 10000 + 7000 * j + 400) (show 1000 + 1100 * j + 20 ≤ 1000 + 1100 * j + 40 by omega) (show 10000 + 7000 * j + 200 ≤ 10000 + 7000 * j + 400 by omega) ?_
    exact K N1 F1 B1 _ _ _ (hL1) h (lv_sub hl [0, 1, 2, 3, 5, 6, 7, 8, 9, 10, 11, 12, 13, 14, 15, 16] rfl)
set_option maxHeartbeats 4000000 in
set_option maxRecDepth 100000 in
theorem law_end {p : Program} {l : Launch} {e : Env} {s : State} {m : MethodId} {below : List Frame} {meth : Method} {c : Code} {H : Heap} {locs : List Loc} {ls : Array Slot} {G : mG} {x : Nat} {ar : Nat → Nat} {j b one two : Nat} {N : Nat → Nat} {F : Nat → Nat → Nat} {B : Nat → Int32}  (X : Cx p c s m cL_law RL 23 G) (hS : XS s) (hZ : XZ G (lA s) s s.heap) (hN : NC s) (hst : l.stackTraces = false) (hLI : LI j N F B) (hjj : j < 64) (hone : one < 60000) (htwo : two < 60000)  (h : qM G (lA s) s x ar (N, F, B) (N, F, B) H locs) (hl : lv_has ls 23 [(13, .int (nI (j))), (15, .int (nI (one))), (16, .int (nI (two))), (0, .ref b), (1, .ref x), (2, .ref (ar 0)), (3, .ref (ar 1)), (4, .ref (ar 2)), (5, .ref (ar 3)), (6, .ref (ar 4)), (7, .ref (ar 5)), (8, .ref (ar 6)), (9, .ref (ar 7)), (10, .ref (ar 8)), (11, .ref (ar 9))]) (K : LK p l e s m below meth c G x ar j b one two) : W p l e room_1 s m #[Value.ref b] below meth c H locs (1000 + 1100 * j) (10000 + 7000 * j) (lw_Z below #[Value.ref b] s) (F0 m 407 ls []) := by
  have hI := hLI.1
  have hJ := hLI.2.1
  have hn := hI.n
  have h6 := qM.n6 h
  refine lv_aload X.1 X.2.1 dL_law_407 (lv_at hl 14 rfl) ?_
  refine lv_iconst (v := nI (4)) X.1 X.2.1 dL_law_409 (by decide) ?_
  refine q_ald X h 9 (by decide) dL_law_410 (i := 4) (v := nI (N 13)) rfl (by show _ < 9; omega) (fun V r => LR.g4 r) ?_
  refine lv_istore (lv' := [(19, .int (nI (N 13))), (13, .int (nI (j))), (15, .int (nI (one))), (16, .int (nI (two))), (0, .ref b), (1, .ref x), (2, .ref (ar 0)), (3, .ref (ar 1)), (4, .ref (ar 2)), (5, .ref (ar 3)), (6, .ref (ar 4)), (7, .ref (ar 5)), (8, .ref (ar 6)), (9, .ref (ar 7)), (10, .ref (ar 8)), (11, .ref (ar 9))]) X.1 X.2.1 dL_law_411 hl (by decide) rfl (fun ls hl => ?_)
  refine lv_aload X.1 X.2.1 dL_law_413 (lv_at hl 15 rfl) ?_
  refine lv_iconst (v := nI (3)) X.1 X.2.1 dL_law_415 (by decide) ?_
  refine q_ald X h 9 (by decide) dL_law_416 (i := 3) (v := nI (N 12)) rfl (by show _ < 9; omega) (fun V r => LR.g3 r) ?_
  refine lv_bipush (v := nI (11)) X.1 X.2.1 dL_law_417 (by decide) ?_
  refine b_icmp_ge (tgt := 426) X dL_law_419 (by decide) (a := ((N 12 : Nat) : Int)) (b := ((11 : Nat) : Int)) (nI_ti (by omega)) (nI_ti (by omega)) (fun c1 => ?_) (fun c1 => ?_)
  · skip
    refine lv_iconst (v := nI (0)) X.1 X.2.1 dL_law_426 (by decide) ?_
    refine lv_istore (lv' := [(20, .int (nI (0))), (19, .int (nI (N 13))), (13, .int (nI (j))), (15, .int (nI (one))), (16, .int (nI (two))), (0, .ref b), (1, .ref x), (2, .ref (ar 0)), (3, .ref (ar 1)), (4, .ref (ar 2)), (5, .ref (ar 3)), (6, .ref (ar 4)), (7, .ref (ar 5)), (8, .ref (ar 6)), (9, .ref (ar 7)), (10, .ref (ar 8)), (11, .ref (ar 9))]) X.1 X.2.1 dL_law_427 hl (by decide) rfl (fun ls hl => ?_)
    refine lv_iconst (v := nI (1)) X.1 X.2.1 dL_law_429 (by decide) ?_
    refine lv_istore (lv' := [(21, .int (nI (1))), (20, .int (nI (0))), (19, .int (nI (N 13))), (13, .int (nI (j))), (15, .int (nI (one))), (16, .int (nI (two))), (0, .ref b), (1, .ref x), (2, .ref (ar 0)), (3, .ref (ar 1)), (4, .ref (ar 2)), (5, .ref (ar 3)), (6, .ref (ar 4)), (7, .ref (ar 5)), (8, .ref (ar 6)), (9, .ref (ar 7)), (10, .ref (ar 8)), (11, .ref (ar 9))]) X.1 X.2.1 dL_law_430 hl (by decide) rfl (fun ls hl => ?_)
    refine lv_iload X.1 X.2.1 dL_law_432 (lv_at hl 0 rfl) ?_
    refine lv_iconst (v := nI (4)) X.1 X.2.1 dL_law_434 (by decide) ?_
    refine b_icmp_ge (tgt := 515) X dL_law_435 (by decide) (a := ((1 : Nat) : Int)) (b := ((4 : Nat) : Int)) (nI_ti (by omega)) (nI_ti (by omega)) (fun c2 => ?_) (fun c2 => ?_)
    · skip
      exact absurd c2 (by first | decide | omega)
    · skip
      refine lv_iload X.1 X.2.1 dL_law_438 (lv_at hl 1 rfl) ?_
      refine b_if_eq (tgt := 515) X dL_law_440 (by decide) (a := ((0 : Nat) : Int)) (nI_ti (by omega)) (fun c3 => ?_) (fun c3 => ?_)
      · skip
        refine lv_aload X.1 X.2.1 dL_law_515 (lv_at hl 17 rfl) ?_
        refine lv_iconst (v := nI (3)) X.1 X.2.1 dL_law_517 (by decide) ?_
        refine lv_dup2_11 X.1 X.2.1 dL_law_518 rfl rfl ?_
        refine q_ald X h 9 (by decide) dL_law_519 (i := 3) (v := nI (N 12)) rfl (by show _ < 9; omega) (fun V r => LR.g3 r) ?_
        refine lv_iload X.1 X.2.1 dL_law_520 (lv_at hl 1 rfl) ?_
        refine b_if_eq (tgt := 529) X dL_law_522 (by decide) (a := ((0 : Nat) : Int)) (nI_ti (by omega)) (fun c4 => ?_) (fun c4 => ?_)
        · skip
          refine lv_iconst (v := nI (0)) X.1 X.2.1 dL_law_529 (by decide) ?_
          refine lv_iadd X.1 X.2.1 dL_law_530 ?_
          refine lv_top (y := nI (N 12 + 0)) (nI_add _ _) ?_
          refine q_ast X h 9 (by decide) dL_law_531 (i := 3) N F B rfl (by show _ < 9; omega) (fun V r => LR.gsame r) (fun H locs h => ?_)
          have hK9 : kEnd N = 1 := kEnd_1 (by omega)
          refine lv_aload_n X.1 X.2.1 dL_law_532 rfl (lv_at hl 7 rfl) ?_
          refine lv_iconst (v := nI (3)) X.1 X.2.1 dL_law_533 (by decide) ?_
          refine lv_iconst (v := nI (0)) X.1 X.2.1 dL_law_534 (by decide) ?_
          refine lv_iconst (v := nI (0)) X.1 X.2.1 dL_law_535 (by decide) ?_
          refine lv_iconst (v := nI (0)) X.1 X.2.1 dL_law_536 (by decide) ?_
          refine q_callL X hS hZ hN h kcw_L_does kini_L (by decide) kar_L_does kml_L_does kst_L_does dL_law_537 (As := [.ref x, .int (nI (3)), .int (nI (0)), .int (nI (0)), .int (nI (0))]) ((c_L_does_end l G x ar N F B (N, F, B) (nI (0)) (nI (0)) (nI (0)) hst hI hJ).k (k := 1) (hK9) (w := (-1000000)) (rfl) (C2 := (N, F, B)) (rfl)) rfl hl rfl (Nat.le_of_ble_eq_true rfl) ⟨Nat.le_of_ble_eq_true rfl, Nat.le_of_ble_eq_true rfl⟩ ⟨show 1000 + 1100 * j + 9 ≤ 733361 by omega, show 10000 + 7000 * j + 125 ≤ 6901384 by omega⟩ ?_
          rintro _ _ _ H locs ⟨rfl, rfl, rfl⟩ h
          refine lv_iload X.1 X.2.1 dL_law_540 (lv_at hl 1 rfl) ?_
          refine b_if_eq (tgt := 555) X dL_law_542 (by decide) (a := ((0 : Nat) : Int)) (nI_ti (by omega)) (fun c5 => ?_) (fun c5 => ?_)
          · skip
            refine lv_ldc (own := RL) (index := 70) (v := (-1000000)) X.1 X.2.1 X.2.2.2.1 (X.2.2.2.2.1.use kco_L_70) dL_law_555 ?_
            refine b_icmp_ne (tgt := 564) X dL_law_557 (by decide) (a := (-1000000)) (b := (-1000000)) ((by decide)) ((by decide)) (fun c6 => ?_) (fun c6 => ?_)
            · skip
              exact absurd c6 (by first | decide | omega)
            · skip
              refine lv_iconst (v := nI (1)) X.1 X.2.1 dL_law_560 (by decide) ?_
              refine lv_goto (tgt := 565) X.1 X.2.1 dL_law_561 (by decide) ?_
              refine lv_istore (lv' := [(12, .int (nI (1))), (21, .int (nI (1))), (20, .int (nI (0))), (19, .int (nI (N 13))), (13, .int (nI (j))), (15, .int (nI (one))), (16, .int (nI (two))), (0, .ref b), (1, .ref x), (2, .ref (ar 0)), (3, .ref (ar 1)), (4, .ref (ar 2)), (5, .ref (ar 3)), (6, .ref (ar 4)), (7, .ref (ar 5)), (8, .ref (ar 6)), (9, .ref (ar 7)), (10, .ref (ar 8)), (11, .ref (ar 9))]) X.1 X.2.1 dL_law_565 hl (by decide) rfl (fun ls hl => ?_)
              refine lv_goto (tgt := 1241) X.1 X.2.1 dL_law_567 (by decide) ?_
              refine W.widen (k := 1000 + 1100 * j + 40) (n := 10000 + 7000 * j + 400) (show 1000 + 1100 * j + 9 ≤ 1000 + 1100 * j + 40 by omega) (show 10000 + 7000 * j + 125 ≤ 10000 + 7000 * j + 400 by omega) ?_
              exact K N F B _ _ _ (hLI.more) h (lv_sub hl [0, 4, 5, 6, 7, 8, 9, 10, 11, 12, 13, 14, 15, 16, 17, 18] rfl)
          · skip
            exact absurd c5 (by first | decide | omega)
        · skip
          exact absurd c4 (by first | decide | omega)
      · skip
        exact absurd c3 (by first | decide | omega)
  · skip
    refine lv_iconst (v := nI (1)) X.1 X.2.1 dL_law_422 (by decide) ?_
    refine lv_goto (tgt := 427) X.1 X.2.1 dL_law_423 (by decide) ?_
    refine lv_istore (lv' := [(20, .int (nI (1))), (19, .int (nI (N 13))), (13, .int (nI (j))), (15, .int (nI (one))), (16, .int (nI (two))), (0, .ref b), (1, .ref x), (2, .ref (ar 0)), (3, .ref (ar 1)), (4, .ref (ar 2)), (5, .ref (ar 3)), (6, .ref (ar 4)), (7, .ref (ar 5)), (8, .ref (ar 6)), (9, .ref (ar 7)), (10, .ref (ar 8)), (11, .ref (ar 9))]) X.1 X.2.1 dL_law_427 hl (by decide) rfl (fun ls hl => ?_)
    refine lv_iconst (v := nI (1)) X.1 X.2.1 dL_law_429 (by decide) ?_
    refine lv_istore (lv' := [(21, .int (nI (1))), (20, .int (nI (1))), (19, .int (nI (N 13))), (13, .int (nI (j))), (15, .int (nI (one))), (16, .int (nI (two))), (0, .ref b), (1, .ref x), (2, .ref (ar 0)), (3, .ref (ar 1)), (4, .ref (ar 2)), (5, .ref (ar 3)), (6, .ref (ar 4)), (7, .ref (ar 5)), (8, .ref (ar 6)), (9, .ref (ar 7)), (10, .ref (ar 8)), (11, .ref (ar 9))]) X.1 X.2.1 dL_law_430 hl (by decide) rfl (fun ls hl => ?_)
    have h : qM G (lA s) s x ar (N, F, B) (va_up N 13 (N 13 + 0), F, B) H locs := by rw [show va_up N 13 (N 13 + 0) = N from va_up_id N 13]; exact h
    have loop : ∀ (n9 : Nat) (n : Nat) (c0 : Nat) (F1 : Nat → Nat → Nat), (4 ≤ n + n9) → (n ≤ 3) → (awS N F n = (c0, F1)) → ∀ (H : Heap) (locs : List Loc) (ls : Array Slot), qM G (lA s) s x ar (N, F, B) ((va_up N 13 (N 13 + c0)), F1, B) H locs → lv_has ls 23 [(21, .int (nI (n + 1))), (20, .int (nI (1))), (19, .int (nI (N 13))), (13, .int (nI (j))), (15, .int (nI (one))), (16, .int (nI (two))), (0, .ref b), (1, .ref x), (2, .ref (ar 0)), (3, .ref (ar 1)), (4, .ref (ar 2)), (5, .ref (ar 3)), (6, .ref (ar 4)), (7, .ref (ar 5)), (8, .ref (ar 6)), (9, .ref (ar 7)), (10, .ref (ar 8)), (11, .ref (ar 9))] → W p l e room_1 s m #[Value.ref b] below meth c H locs (1000 + 1100 * j) (10000 + 7000 * j) (lw_Z below #[Value.ref b] s) (F0 m 432 ls []) := by
      intro n9
      induction n9 with
      | zero => intro n c0 F1 hm9 hnn hA; exact absurd hm9 (by omega)
      | succ n9 ih_loop =>
        intro n c0 F1 hm9 hnn hA H locs ls h hl
        have hcl : c0 ≤ n := by have z9 := awS_le N F n; rw [hA] at z9; exact z9
        refine lv_iload X.1 X.2.1 dL_law_432 (lv_at hl 0 rfl) ?_
        refine lv_iconst (v := nI (4)) X.1 X.2.1 dL_law_434 (by decide) ?_
        refine b_icmp_ge (tgt := 515) X dL_law_435 (by decide) (a := ((n + 1 : Nat) : Int)) (b := ((4 : Nat) : Int)) (nI_ti (by omega)) (nI_ti (by omega)) (fun c7 => ?_) (fun c7 => ?_)
        · skip
          refine lv_aload X.1 X.2.1 dL_law_515 (lv_at hl 17 rfl) ?_
          refine lv_iconst (v := nI (3)) X.1 X.2.1 dL_law_517 (by decide) ?_
          refine lv_dup2_11 X.1 X.2.1 dL_law_518 rfl rfl ?_
          refine q_ald X h 9 (by decide) dL_law_519 (i := 3) (v := nI (N 12)) rfl (by show _ < 9; omega) (fun V r => have z9 := LR.g3 r; z9) ?_
          refine lv_iload X.1 X.2.1 dL_law_520 (lv_at hl 1 rfl) ?_
          refine b_if_eq (tgt := 529) X dL_law_522 (by decide) (a := ((1 : Nat) : Int)) (nI_ti (by omega)) (fun c8 => ?_) (fun c8 => ?_)
          · skip
            exact absurd c8 (by first | decide | omega)
          · skip
            refine lv_iconst (v := nI (1)) X.1 X.2.1 dL_law_525 (by decide) ?_
            refine lv_goto (tgt := 530) X.1 X.2.1 dL_law_526 (by decide) ?_
            refine lv_iadd X.1 X.2.1 dL_law_530 ?_
            refine lv_top (y := nI (N 12 + 1)) (nI_add _ _) ?_
            have en : n = 3 := by omega
            subst en
            refine q_ast X h 9 (by decide) dL_law_531 (i := 3) (va_up (va_up N 13 (N 13 + c0)) 12 (N 12 + 1)) F1 B rfl (by show _ < 9; omega) (fun V r => LR.wsea r _) (fun H locs h => ?_)
            have hK9 : kEnd N = 0 := kEnd_0 (by omega)
            refine lv_aload_n X.1 X.2.1 dL_law_532 rfl (lv_at hl 7 rfl) ?_
            refine lv_iconst (v := nI (3)) X.1 X.2.1 dL_law_533 (by decide) ?_
            refine lv_iconst (v := nI (0)) X.1 X.2.1 dL_law_534 (by decide) ?_
            refine lv_iconst (v := nI (0)) X.1 X.2.1 dL_law_535 (by decide) ?_
            refine lv_iconst (v := nI (0)) X.1 X.2.1 dL_law_536 (by decide) ?_
            refine q_callL X hS hZ hN h kcw_L_does kini_L (by decide) kar_L_does kml_L_does kst_L_does dL_law_537 (As := [.ref x, .int (nI (3)), .int (nI (0)), .int (nI (0)), .int (nI (0))]) ((c_L_does_end l G x ar N F B ((va_up (va_up N 13 (N 13 + c0)) 12 (N 12 + 1)), F1, B) (nI (0)) (nI (0)) (nI (0)) hst hI hJ).k (k := 0) (hK9) (w := nI (c0)) (by show nI (awS N F 3).1 = nI c0; rw [hA]) (C2 := (va_up (va_up N 13 (N 13 + c0)) 12 (N 12 + 1), F1, B)) (by show (nEnd N F, (awS N F 3).2, B) = _; rw [nEnd, hA])) rfl hl rfl (Nat.le_of_ble_eq_true rfl) ⟨Nat.le_of_ble_eq_true rfl, Nat.le_of_ble_eq_true rfl⟩ ⟨show 1000 + 1100 * j + 9 ≤ 733361 by omega, show 10000 + 7000 * j + 125 ≤ 6901384 by omega⟩ ?_
            rintro _ _ _ H locs ⟨rfl, rfl, rfl⟩ h
            refine lv_iload X.1 X.2.1 dL_law_540 (lv_at hl 1 rfl) ?_
            refine b_if_eq (tgt := 555) X dL_law_542 (by decide) (a := ((1 : Nat) : Int)) (nI_ti (by omega)) (fun c9 => ?_) (fun c9 => ?_)
            · skip
              exact absurd c9 (by first | decide | omega)
            · skip
              refine lv_aload X.1 X.2.1 dL_law_545 (lv_at hl 17 rfl) ?_
              refine lv_iconst (v := nI (4)) X.1 X.2.1 dL_law_547 (by decide) ?_
              refine q_ald X h 9 (by decide) dL_law_548 (i := 4) (v := nI (N 13 + c0)) rfl (by show _ < 9; omega) (fun V r => have z9 := LR.g4 r; z9) ?_
              refine lv_iload X.1 X.2.1 dL_law_549 (lv_at hl 2 rfl) ?_
              refine lv_isub X.1 X.2.1 dL_law_551 ?_
              refine lv_top (y := nI (c0)) ((pk_sub (by omega)).trans (congrArg nI (by omega))) ?_
              refine lv_goto (tgt := 557) X.1 X.2.1 dL_law_552 (by decide) ?_
              refine b_icmp_ne (tgt := 564) X dL_law_557 (by decide) (a := ((c0 : Nat) : Int)) (b := ((c0 : Nat) : Int)) (nI_ti (by omega)) (nI_ti (by omega)) (fun c10 => ?_) (fun c10 => ?_)
              · skip
                exact absurd c10 (by first | decide | omega)
              · skip
                refine lv_iconst (v := nI (1)) X.1 X.2.1 dL_law_560 (by decide) ?_
                refine lv_goto (tgt := 565) X.1 X.2.1 dL_law_561 (by decide) ?_
                refine lv_istore (lv' := [(12, .int (nI (1))), (21, .int (nI (3 + 1))), (20, .int (nI (1))), (19, .int (nI (N 13))), (13, .int (nI (j))), (15, .int (nI (one))), (16, .int (nI (two))), (0, .ref b), (1, .ref x), (2, .ref (ar 0)), (3, .ref (ar 1)), (4, .ref (ar 2)), (5, .ref (ar 3)), (6, .ref (ar 4)), (7, .ref (ar 5)), (8, .ref (ar 6)), (9, .ref (ar 7)), (10, .ref (ar 8)), (11, .ref (ar 9))]) X.1 X.2.1 dL_law_565 hl (by decide) rfl (fun ls hl => ?_)
                refine lv_goto (tgt := 1241) X.1 X.2.1 dL_law_567 (by decide) ?_
                refine W.widen (k := 1000 + 1100 * j + 40) (n := 10000 + 7000 * j + 400) (show 1000 + 1100 * j + 9 ≤ 1000 + 1100 * j + 40 by omega) (show 10000 + 7000 * j + 125 ≤ 10000 + 7000 * j + 400 by omega) ?_
                exact K (va_up (va_up N 13 (N 13 + c0)) 12 (N 12 + 1)) F1 B _ _ _ (by have z9 := stp_end hLI hK9; rw [nEnd, hA] at z9; exact z9) h (lv_sub hl [0, 4, 5, 6, 7, 8, 9, 10, 11, 12, 13, 14, 15, 16, 17, 18] rfl)
        · skip
          refine lv_iload X.1 X.2.1 dL_law_438 (lv_at hl 1 rfl) ?_
          refine b_if_eq (tgt := 515) X dL_law_440 (by decide) (a := ((1 : Nat) : Int)) (nI_ti (by omega)) (fun c11 => ?_) (fun c11 => ?_)
          · skip
            exact absurd c11 (by first | decide | omega)
          · skip
            refine lv_aload_n X.1 X.2.1 dL_law_443 rfl (lv_at hl 8 rfl) ?_
            refine lv_aload_n X.1 X.2.1 dL_law_444 rfl (lv_at hl 9 rfl) ?_
            refine lv_aload X.1 X.2.1 dL_law_445 (lv_at hl 10 rfl) ?_
            refine lv_aload X.1 X.2.1 dL_law_447 (lv_at hl 17 rfl) ?_
            refine lv_aload X.1 X.2.1 dL_law_449 (lv_at hl 17 rfl) ?_
            refine lv_iconst (v := nI (3)) X.1 X.2.1 dL_law_451 (by decide) ?_
            refine q_ald X h 9 (by decide) dL_law_452 (i := 3) (v := nI (N 12)) rfl (by show _ < 9; omega) (fun V r => have z9 := LR.g3 r; z9) ?_
            refine lv_iload X.1 X.2.1 dL_law_453 (lv_at hl 0 rfl) ?_
            refine q_call X hS hZ hN h ck_L_88 kst_L_who dL_law_455 (As := [.ref (ar 0), .ref (ar 1), .ref (ar 2), .ref (ar 9), .int (nI (N 12)), .int (nI (n + 1))]) (c_L_who l G x ar (N, F, B) (va_up N 13 (N 13 + c0)) F1 B (N 12) (n + 1) (Ih.aw hI.ih hA) (by omega) (by omega) (by omega)) rfl hl rfl (Nat.le_of_ble_eq_true rfl) ⟨Nat.le_of_ble_eq_true rfl, Nat.le_of_ble_eq_true rfl⟩ ⟨show 1000 + 1100 * j + 0 ≤ 733361 by omega, show 10000 + 7000 * j + 0 ≤ 6901384 by omega⟩ ?_
            rintro _ _ _ H locs ⟨rfl, rfl, rfl⟩ h
            rw [heirS_aw hA]
            obtain ⟨v, hv⟩ : ∃ v, heirS N F (N 12) (n + 1) = v := ⟨_, rfl⟩
            rw [hv]
            have hvb : v ≤ N 1 := by rw [← hv]; exact heirS_le _ _ _ _
            refine lv_istore (lv' := [(22, .int (nI (v) - 1)), (21, .int (nI (n + 1))), (20, .int (nI (1))), (19, .int (nI (N 13))), (13, .int (nI (j))), (15, .int (nI (one))), (16, .int (nI (two))), (0, .ref b), (1, .ref x), (2, .ref (ar 0)), (3, .ref (ar 1)), (4, .ref (ar 2)), (5, .ref (ar 3)), (6, .ref (ar 4)), (7, .ref (ar 5)), (8, .ref (ar 6)), (9, .ref (ar 7)), (10, .ref (ar 8)), (11, .ref (ar 9))]) X.1 X.2.1 dL_law_458 hl (by decide) rfl (fun ls hl => ?_)
            refine lv_iload X.1 X.2.1 dL_law_460 (lv_at hl 0 rfl) ?_
            refine b_if_lt (tgt := 509) X dL_law_462 (by decide) (a := ((v : Nat) : Int) - 1) (eI_ti (by omega)) (fun c12 => ?_) (fun c12 => ?_)
            · skip
              refine lv_iinc (v := nI (n + 1 + 1)) (lv' := [(21, .int (nI (n + 1 + 1))), (22, .int (nI (v) - 1)), (20, .int (nI (1))), (19, .int (nI (N 13))), (13, .int (nI (j))), (15, .int (nI (one))), (16, .int (nI (two))), (0, .ref b), (1, .ref x), (2, .ref (ar 0)), (3, .ref (ar 1)), (4, .ref (ar 2)), (5, .ref (ar 3)), (6, .ref (ar 4)), (7, .ref (ar 5)), (8, .ref (ar 6)), (9, .ref (ar 7)), (10, .ref (ar 8)), (11, .ref (ar 9))]) X.1 X.2.1 dL_law_509 hl (k := 1) rfl (nI_add (n + 1) 1) (by decide) rfl (fun ls hl => ?_)
              refine lv_goto (tgt := 432) X.1 X.2.1 dL_law_512 (by decide) ?_
              exact ih_loop (n + 1) c0 F1 (by omega) (by omega) (aw_no hA hv (by omega)) _ _ _ h (lv_sub hl [0, 2, 3, 4, 5, 6, 7, 8, 9, 10, 11, 12, 13, 14, 15, 16, 17, 18] rfl)
            · skip
              obtain ⟨V, lr, h⟩ := qM.opn h
              refine lv_aload X.1 X.2.1 dL_law_465 (lv_at hl 12 rfl) ?_
              refine lv_aload X.1 X.2.1 dL_law_467 (lv_at hl 18 rfl) ?_
              refine lv_iconst (v := nI (4)) X.1 X.2.1 dL_law_469 (by decide) ?_
              refine v_ald X h 9 (by decide) dL_law_470 (i := 4) (v := nI (N 13 + c0)) rfl (by show _ < 9; omega) (have z9 := LR.g4 lr; z9) ?_
              refine lv_aload X.1 X.2.1 dL_law_471 (lv_at hl 18 rfl) ?_
              refine lv_iconst (v := nI (3)) X.1 X.2.1 dL_law_473 (by decide) ?_
              refine v_ald X h 9 (by decide) dL_law_474 (i := 3) (v := nI (N 12)) rfl (by show _ < 9; omega) (have z9 := LR.g3 lr; z9) ?_
              refine lv_bipush (v := nI (16)) X.1 X.2.1 dL_law_475 (by decide) ?_
              refine lv_iload X.1 X.2.1 dL_law_477 (lv_at hl 1 rfl) ?_
              refine lv_imul X.1 X.2.1 dL_law_479 ?_
              refine lv_top (y := nI (16 * (n + 1))) (pk_mul _ _) ?_
              refine lv_iadd X.1 X.2.1 dL_law_480 ?_
              refine lv_top (y := nI (N 12 + (16 * (n + 1)))) (nI_add _ _) ?_
              refine v_ast X h 3 (by decide) dL_law_481 (i := N 13 + c0) (w := nI (N 12 + (16 * (n + 1)))) rfl (by show _ < 36; omega) (fun H locs h => ?_)
              refine lv_aload X.1 X.2.1 dL_law_482 (lv_at hl 13 rfl) ?_
              refine lv_aload X.1 X.2.1 dL_law_484 (lv_at hl 18 rfl) ?_
              refine lv_iconst (v := nI (4)) X.1 X.2.1 dL_law_486 (by decide) ?_
              refine v_ald X h 9 (by decide) dL_law_487 (i := 4) (v := nI (N 13 + c0)) rfl (by show _ < 9; omega) (have z9 := LR.g4 lr; z9) ?_
              refine lv_iload X.1 X.2.1 dL_law_488 (lv_at hl 0 rfl) ?_
              refine lv_iconst (v := nI (1)) X.1 X.2.1 dL_law_490 (by decide) ?_
              refine lv_iadd X.1 X.2.1 dL_law_491 ?_
              refine lv_top (y := nI (v)) (sh_suc _) ?_
              refine lv_bipush (v := nI (32)) X.1 X.2.1 dL_law_492 (by decide) ?_
              refine lv_iload X.1 X.2.1 dL_law_494 (lv_at hl 0 rfl) ?_
              refine lv_iconst (v := nI (1)) X.1 X.2.1 dL_law_496 (by decide) ?_
              refine lv_iadd X.1 X.2.1 dL_law_497 ?_
              refine lv_top (y := nI (v)) (sh_suc _) ?_
              refine lv_imul X.1 X.2.1 dL_law_498 ?_
              refine lv_top (y := nI (32 * v)) (pk_mul _ _) ?_
              refine lv_iadd X.1 X.2.1 dL_law_499 ?_
              refine lv_top (y := nI (v + (32 * v))) (nI_add _ _) ?_
              refine v_ast X h 4 (by decide) dL_law_500 (i := N 13 + c0) (w := nI (v + (32 * v))) rfl (by show _ < 36; omega) (fun H locs h => ?_)
              refine lv_aload X.1 X.2.1 dL_law_501 (lv_at hl 18 rfl) ?_
              refine lv_iconst (v := nI (4)) X.1 X.2.1 dL_law_503 (by decide) ?_
              refine lv_dup2_11 X.1 X.2.1 dL_law_504 rfl rfl ?_
              refine v_ald X h 9 (by decide) dL_law_505 (i := 4) (v := nI (N 13 + c0)) rfl (by show _ < 9; omega) (have z9 := LR.g4 lr; z9) ?_
              refine lv_iconst (v := nI (1)) X.1 X.2.1 dL_law_506 (by decide) ?_
              refine lv_iadd X.1 X.2.1 dL_law_507 ?_
              refine lv_top (y := nI (N 13 + c0 + 1)) (nI_add _ _) ?_
              refine v_ast X h 9 (by decide) dL_law_508 (i := 4) (w := nI (N 13 + c0 + 1)) rfl (by show _ < 9; omega) (fun H locs h => ?_)
              have h := qV.close h (lr.aw (v := v) (pl := n + 1) (show N 13 + c0 < 36 by omega))
              have h : qM G (lA s) s x ar (N, F, B) (va_up N 13 (N 13 + (c0 + 1)), awF F1 (N 13 + c0) (N 12) (n + 1) v, B) H locs := by
                have e9 : va_up (va_up N 13 (N 13 + c0)) 13 (N 13 + c0 + 1) = va_up N 13 (N 13 + (c0 + 1)) := va_up_2 N 13 _ _
                rw [← e9]; exact h
              refine lv_iinc (v := nI (n + 1 + 1)) (lv' := [(21, .int (nI (n + 1 + 1))), (22, .int (nI (v) - 1)), (20, .int (nI (1))), (19, .int (nI (N 13))), (13, .int (nI (j))), (15, .int (nI (one))), (16, .int (nI (two))), (0, .ref b), (1, .ref x), (2, .ref (ar 0)), (3, .ref (ar 1)), (4, .ref (ar 2)), (5, .ref (ar 3)), (6, .ref (ar 4)), (7, .ref (ar 5)), (8, .ref (ar 6)), (9, .ref (ar 7)), (10, .ref (ar 8)), (11, .ref (ar 9))]) X.1 X.2.1 dL_law_509 hl (k := 1) rfl (nI_add (n + 1) 1) (by decide) rfl (fun ls hl => ?_)
              refine lv_goto (tgt := 432) X.1 X.2.1 dL_law_512 (by decide) ?_
              exact ih_loop (n + 1) (c0 + 1) (awF F1 (N 13 + c0) (N 12) (n + 1) v) (by omega) (by omega) (aw_yes hA hv (by omega)) _ _ _ h (lv_sub hl [0, 2, 3, 4, 5, 6, 7, 8, 9, 10, 11, 12, 13, 14, 15, 16, 17, 18] rfl)
    exact loop 4 0 0 F (by omega) (by omega) rfl _ _ _ h (lv_sub hl [0, 1, 2, 3, 4, 5, 6, 7, 8, 9, 10, 11, 12, 13, 14, 15, 16, 17] rfl)
