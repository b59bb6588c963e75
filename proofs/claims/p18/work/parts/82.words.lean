/-! What the Statement gives at the law's start -/
theorem eq_ev {t : Term} {v : Int32} {args : Array Value} {s : State} (h : (Cond.eq t (.int v)).before args s = true) : t.eval args s none [] s = some (.int v) := by
  simp only [Cond.before, Cond.holds, Cond.value, Term.eval] at h
  cases ht : t.eval args s none [] s with
  | none => simp [ht] at h
  | some w =>
    cases w with
    | int z => simp [ht] at h; rw [h]
    | _ => simp [ht] at h
theorem bX_of {t : Term} {args : Array Value} {s : State} {f : Nat → Int32} (hA : (Cond.arrayOf t .byte).before args s = true) (hL : (Cond.eq (.length t) (.int 100)).before args s = true) (hE : ∀ k, k < 100 → (Cond.eq (.elem t (.int (nI k))) (.int (f k))).before args s = true) :
    ∃ a, t.eval args s none [] s = some (.ref a) ∧ bX f a s s.heap := by
  obtain ⟨a, j, z, h1, -, h3, -, -⟩ := Term.elem_spec (eq_ev (hE 0 (by decide)))
  obtain ⟨g1, g2, -, -⟩ := State.arrayAt?_spec h3
  have g3 := Cond.arrayOf_spec hA h1 g1
  have hsz : z.slots.size = 100 := by
    have h4 := eq_ev hL
    simp only [Term.eval, h1, h3, Option.bind_eq_bind, Option.bind_some] at h4
    split at h4
    · rename_i hlt
      have h5 := Value.int.inj (Option.some.inj h4)
      have h6 : (Int32.ofNat z.slots.size).toInt = ((z.slots.size : Nat) : Int) := Int32.toInt_ofNat_of_lt hlt
      have h7 : (Int32.ofNat z.slots.size) = 100 := h5
      rw [h7] at h6
      have h8 : (100 : Int32).toInt = 100 := by decide
      omega
    · cases h4
  refine ⟨a, h1, z, g1, g3.1, g3.2, hsz, fun k hk => ?_⟩
  obtain ⟨a2, j2, z2, e1, e2, e3, -, e5⟩ := Term.elem_spec (eq_ev (hE k hk))
  cases Option.some.inj (e1.symm.trans h1)
  cases Option.some.inj (e3.symm.trans h3)
  have e6 : j2 = nI k := (Value.int.inj (Option.some.inj e2)).symm
  rw [e6, nI_clamp (by omega)] at e5
  exact e5
def flN : List Cond := flatC (Jvm.Cond.and given_1 narrow_1)
abbrev tOn : Term := .static "java/lang/Integer" "DigitOnes" "[B"
abbrev tTe : Term := .static "java/lang/Integer" "DigitTens" "[B"
theorem fl_on : ∀ k, k < 100 → flN[10 + k]? = some (Cond.eq (.elem tOn (.int (nI k))) (.int (dgO k))) := by decide +kernel
theorem fl_te : ∀ k, k < 100 → flN[113 + k]? = some (Cond.eq (.elem tTe (.int (nI k))) (.int (dgT k))) := by decide +kernel
theorem fl_in {args : Array Value} {s : State} (h : (Jvm.Cond.and given_1 narrow_1).before args s = true) (i : Nat) {w : Cond} (hw : flN[i]? = some w) : w.before args s = true := flat_of_before _ h w (List.mem_of_getElem? hw)
theorem tb_in {args : Array Value} {s : State} (h : ∀ w ∈ lw_tbl, w.before args s = true) (i : Nat) {w : Cond} (hw : lw_tbl[i]? = some w) : w.before args s = true := h w (List.mem_of_getElem? hw)
theorem NC_of {args : Array Value} {s : State} (h : (Jvm.Cond.and given_1 narrow_1).before args s = true) : NC s :=
  ⟨va_Nc.of (fl_in h 222 (by decide +kernel)), va_Nc.of (fl_in h 220 (by decide +kernel)), va_Nc.of (fl_in h 230 (by decide +kernel))⟩
theorem ak_int {args : Array Value} {s : State} (h : (Cond.arrayClass .int).before args s = true) : ∃ cA, ArrOfT s cA .int ∧ va_RA s cA .int := by
  obtain ⟨c, k, comp, h1, h2, h3⟩ := Cond.arrayClass_spec h
  exact ⟨c, fun n z => ⟨(fun k h => by cases h), k, h2, comp, h3⟩, h1⟩
theorem ak_byte {args : Array Value} {s : State} (h : (Cond.arrayClass .byte).before args s = true) : ∃ cA, ArrOfT s cA .byte ∧ va_RA s cA .byte := by
  obtain ⟨c, k, comp, h1, h2, h3⟩ := Cond.arrayClass_spec h
  exact ⟨c, fun n z => ⟨(fun k h => by cases h), k, h2, comp, h3⟩, h1⟩
theorem ak_obj {args : Array Value} {s : State} {C : String} (h : (Cond.arrayOver (.object C)).before args s = true) : ∃ cA, ArrOfT s cA (.object C) ∧ va_RA s cA (.object C) := by
  obtain ⟨comp, c, k, h1, h2, h3, h4, h5⟩ := Cond.arrayOver_spec h
  exact ⟨c, fun n z => ⟨(fun k h => by cases h), k, h3, comp, h4⟩, k, comp, h3, h4, h1, h5⟩
theorem mK_of {args : Array Value} {s : State} (h : ∀ w ∈ KTW, w.before args s = true) : ∃ G : mG, mK G s := by
  obtain ⟨c0, i0, k0⟩ := u_known (C := RJ4) (T := TJ4) (N := 4) h kwJ4 (h _ kinst_J4)
  obtain ⟨c1, i1, k1⟩ := u_known (C := RX0) (T := TX0) (N := 4) h kwX0 (h _ kinst_X0)
  obtain ⟨c2, i2, k2⟩ := u_known (C := RX1) (T := TX1) (N := 4) h kwX1 (h _ kinst_X1)
  obtain ⟨c3, i3, k3⟩ := u_known (C := RX2) (T := TX2) (N := 2) h kwX2 (h _ kinst_X2)
  obtain ⟨c4, i4, k4⟩ := u_known (C := RX3) (T := TX3) (N := 3) h kwX3 (h _ kinst_X3)
  obtain ⟨c5, i5, k5⟩ := u_known (C := RX4) (T := TX4) (N := 3) h kwX4 (h _ kinst_X4)
  obtain ⟨c6, i6, k6⟩ := u_known (C := RX5) (T := TX5) (N := 10) h kwX5 (h _ kinst_X5)
  obtain ⟨c7, i7, k7⟩ := u_known (C := RX6) (T := TX6) (N := 10) h kwX6 (h _ kinst_X6)
  obtain ⟨a0, b0⟩ := ak_int (h _ kac_int)
  obtain ⟨a2, b2⟩ := ak_byte (h _ kac_byte)
  obtain ⟨a3, b3⟩ := ak_obj (h _ kao_X1)
  obtain ⟨a4, b4⟩ := ak_obj (h _ kao_X0)
  obtain ⟨a5, b5⟩ := ak_obj (h _ kao_X4)
  obtain ⟨a6, b6⟩ := ak_obj (h _ kao_X5)
  obtain ⟨a7, b7⟩ := ak_obj (h _ kao_X2)
  obtain ⟨a8, b8⟩ := ak_obj (h _ kao_X3)
  refine ⟨((fun k => [c0, c1, c2, c3, c4, c5, c6, c7].getD k c0, fun k => [i0, i1, i2, i3, i4, i5, i6, i7].getD k i0), fun k => [a0, a0, a2, a3, a4, a5, a6, a7, a8].getD k a0), fun c q hq => ?_, fun k q hq => ?_⟩
  · match c, hq with
    | 0, hq => cases hq; exact k0
    | 1, hq => cases hq; exact k1
    | 2, hq => cases hq; exact k2
    | 3, hq => cases hq; exact k3
    | 4, hq => cases hq; exact k4
    | 5, hq => cases hq; exact k5
    | 6, hq => cases hq; exact k6
    | 7, hq => cases hq; exact k7
    | n + 8, hq => simp [vwCl] at hq
  · match k, hq with
    | 0, hq => cases hq; exact b0
    | 1, hq => cases hq; exact b0
    | 2, hq => cases hq; exact b2
    | 3, hq => cases hq; exact b3
    | 4, hq => cases hq; exact b4
    | 5, hq => cases hq; exact b5
    | 6, hq => cases hq; exact b6
    | 7, hq => cases hq; exact b7
    | 8, hq => cases hq; exact b8
    | n + 9, hq => simp [mTys] at hq
theorem xs_in : ∀ q ∈ xsL, Cond.stringRef RX6 q.1 q.2 ∈ lw_tbl := by decide +kernel
theorem XS_of {args : Array Value} {s : State} (h : ∀ w ∈ lw_tbl, w.before args s = true) : XS s := by
  have hk : ∀ w ∈ KTW, w.before args s = true := fun w hw => h w (List.mem_filter.mp hw).1
  refine ⟨fun q hq => ?_, ?_⟩
  · obtain ⟨c, k, hc, -⟩ := Cond.instantiable_spec (hk _ kinst_X6)
    have h1 := h _ (xs_in q hq)
    obtain ⟨k, cf, i, a, -, -, -, -, -, h2⟩ := Cond.stringRef_spec hc h1
    exact ⟨a, vk_R.of h1 h2⟩
  · obtain ⟨c, k, h1, h2, h3⟩ := Cond.sameMethod_class (tb_in h 807 (w := .sameMethod RJ5 RJ5 "ensureCapacityInternal" "(I)V") (by decide +kernel))
    exact KT.one (State.WarmedH.refl s) (by decide +kernel) (sel_priv (args := args) (n := 4) (by decide +kernel) (hk _ kinst_J4) ⟨c, k, h1, h2, h3⟩ (tb_in h 624 (by decide +kernel)) (tb_in h 625 (by decide +kernel)))
theorem XZ_of {args : Array Value} {s : State} {G : mG} {A : Nat → Prop} (h : ∀ w ∈ lw_tbl, w.before args s = true) (hg : (Jvm.Cond.and given_1 narrow_1).before args s = true) (hA : ∀ a : Nat, a < s.heap.size → ¬ A a) : XZ G A s s.heap := by
  have hon : ∃ a, Term.eval args s none [] s tOn = some (.ref a) ∧ bX dgO a s s.heap := bX_of (fl_in hg 8 (by decide +kernel)) (fl_in hg 9 (by decide +kernel)) (fun k hk => fl_in hg (10 + k) (fl_on k hk))
  have hte : ∃ a, Term.eval args s none [] s tTe = some (.ref a) ∧ bX dgT a s s.heap := bX_of (fl_in hg 111 (by decide +kernel)) (fl_in hg 112 (by decide +kernel)) (fun k hk => fl_in hg (113 + k) (fl_te k hk))
  have hlt : ∀ {f : Nat → Int32} {a : Nat}, bX f a s s.heap → a < s.heap.size := fun {f a} hb => by
    obtain ⟨z, h1, -⟩ := hb
    exact (Array.getElem?_eq_some_iff.mp h1).1
  obtain ⟨a, ha, hb⟩ := hon
  obtain ⟨d, hd, he⟩ := hte
  refine ⟨vx_Zqof (tb_in h 182 (by decide +kernel)) (tb_in h 39 (by decide +kernel)) (fl_in hg 4 (by decide +kernel)) hA, vx_Zqof (tb_in h 184 (by decide +kernel)) (tb_in h 39 (by decide +kernel)) (fl_in hg 5 (by decide +kernel)) hA, va_Zof (tb_in h 589 (by decide +kernel)) (tb_in h 51 (by decide +kernel)) (eq_ev (fl_in hg 6 (by decide +kernel))) hA, ⟨dgO, fun _ _ => rfl, a, va_Zref (tb_in h 667 (by decide +kernel)) (tb_in h 53 (by decide +kernel)) ha hA, hA a (hlt hb), hb⟩, ⟨dgT, fun _ _ => rfl, d, va_Zref (tb_in h 669 (by decide +kernel)) (tb_in h 53 (by decide +kernel)) hd hA, hA d (hlt he), he⟩, va_Zqof (tb_in h 683 (by decide +kernel)) (tb_in h 58 (by decide +kernel)) (fl_in hg 213 (by decide +kernel)) hA⟩
