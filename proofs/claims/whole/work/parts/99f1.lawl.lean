/-! the law: its start, its loop -/
theorem lq_nest : xg_nest = [26, 28, 87, 103, 111, 161, 166, 186, 205, 269, 270, 313, 330, 337, 358, 363, 400, 618, 623].filterMap (fun i => tables_1[i]?) := by decide +kernel
theorem lq_tb {i : Nat} {w : Cond} {args : Array Value} {s : State} (hts : ∀ w ∈ lw_tbl, w.before args s = true) (h : tables_1[i]? = some w) : w.before args s = true := hts w (List.mem_append_right _ (List.mem_of_getElem? h))
theorem lq_Nw {args : Array Value} {s : State} (hts : ∀ w ∈ lw_tbl, w.before args s = true) : ∀ w ∈ xg_nest, va_Nw w s := by
  intro w hw
  have hw2 := hw
  rw [lq_nest] at hw2
  obtain ⟨i, -, hi⟩ := List.mem_filterMap.mp hw2
  have hb := lq_tb hts hi
  rcases xg_nest_kind w hw with ⟨a, j, x, q, rfl⟩ | ⟨a, j, b, n, d, q, rfl⟩
  · exact va_Nw.of rfl hb
  · exact va_Nw.of rfl hb
theorem lq_St0 {n : String} {f : Nat → Int32} {args : Array Value} {s : State} (hl : (Cond.laysStatic "DareBridge" n "[I").before args s = true) (hini : (Cond.initialized "DareBridge").before args s = true) (h1 : (Cond.arrayOf (.static "DareBridge" n "[I") .int).before args s = true) (h2 : (Term.length (.static "DareBridge" n "[I")).eval args s none [] s = some (.int (Int32.ofNat 7))) (h3 : ∀ j : Nat, j < 7 → (Term.elem (.static "DareBridge" n "[I") (.int (Int32.ofNat j))).eval args s none [] s = some (.int (f j))) : xg_St s.heap.size n f s := by
  have hA : ∀ a : Nat, a < s.heap.size → ¬ xg_A s.heap.size a := fun a ha h => absurd h (Nat.not_le.mpr ha)
  obtain ⟨t, ht, hT⟩ := va_Tof (A := xg_A s.heap.size) (f := fun j => .int (f j)) (by decide) h1 h2 h3 hA
  have hT2 := xg_X.ofT hT
  refine ⟨t, ?_, va_Zref hl hini ht hA, hT2⟩
  obtain ⟨cell, c1, -⟩ := hT2
  exact (Array.getElem?_eq_some_iff.mp c1).1
theorem lq_7 {P : Nat → Prop} (h0 : P 0) (h1 : P 1) (h2 : P 2) (h3 : P 3) (h4 : P 4) (h5 : P 5) (h6 : P 6) : ∀ j : Nat, j < 7 → P j := by
  intro j hj
  rcases (show j = 0 ∨ j = 1 ∨ j = 2 ∨ j = 3 ∨ j = 4 ∨ j = 5 ∨ j = 6 by omega) with q | q | q | q | q | q | q <;> subst q <;> assumption
set_option maxRecDepth 20000 in
theorem lq_xg_f0 {b : Nat} {s : State} (hts : ∀ w ∈ lw_tbl, w.before #[Value.ref b] s = true) (hgv : (Jvm.Cond.and given_1 narrow_1).before #[Value.ref b] s = true) : xg_St s.heap.size "RULE_FIRST" xg_f0 s := by
  have hs := flat_of_before _ hgv
  have hl := lq_tb (i := 27) (w := .laysStatic "DareBridge" "RULE_FIRST" "[I") hts (by decide +kernel)
  have hini := lq_tb (i := 1) (w := .initialized "DareBridge") hts (by decide +kernel)
  have h1 := hs (.arrayOf (.static "DareBridge" "RULE_FIRST" "[I") .int) (by decide +kernel)
  have h2 := va_eqt (hs (.eq (.length (.static "DareBridge" "RULE_FIRST" "[I")) (.int 7)) (by decide +kernel))
  have e0 := va_eqt (hs (.eq (.elem (.static "DareBridge" "RULE_FIRST" "[I") (.int 0)) (.int 2)) (by decide +kernel))
  have e1 := va_eqt (hs (.eq (.elem (.static "DareBridge" "RULE_FIRST" "[I") (.int 1)) (.int 3)) (by decide +kernel))
  have e2 := va_eqt (hs (.eq (.elem (.static "DareBridge" "RULE_FIRST" "[I") (.int 2)) (.int 20)) (by decide +kernel))
  have e3 := va_eqt (hs (.eq (.elem (.static "DareBridge" "RULE_FIRST" "[I") (.int 3)) (.int 1)) (by decide +kernel))
  have e4 := va_eqt (hs (.eq (.elem (.static "DareBridge" "RULE_FIRST" "[I") (.int 4)) (.int 6)) (by decide +kernel))
  have e5 := va_eqt (hs (.eq (.elem (.static "DareBridge" "RULE_FIRST" "[I") (.int 5)) (.int 0)) (by decide +kernel))
  have e6 := va_eqt (hs (.eq (.elem (.static "DareBridge" "RULE_FIRST" "[I") (.int 6)) (.int 1)) (by decide +kernel))
  exact lq_St0 hl hini h1 h2 (lq_7 (P := fun j => (Term.elem (.static "DareBridge" "RULE_FIRST" "[I") (.int (Int32.ofNat j))).eval #[Value.ref b] s none [] s = some (.int (xg_f0 j))) e0 e1 e2 e3 e4 e5 e6)
set_option maxRecDepth 20000 in
theorem lq_xg_f1 {b : Nat} {s : State} (hts : ∀ w ∈ lw_tbl, w.before #[Value.ref b] s = true) (hgv : (Jvm.Cond.and given_1 narrow_1).before #[Value.ref b] s = true) : xg_St s.heap.size "RULE_LEAST" xg_f1 s := by
  have hs := flat_of_before _ hgv
  have hl := lq_tb (i := 298) (w := .laysStatic "DareBridge" "RULE_LEAST" "[I") hts (by decide +kernel)
  have hini := lq_tb (i := 1) (w := .initialized "DareBridge") hts (by decide +kernel)
  have h1 := hs (.arrayOf (.static "DareBridge" "RULE_LEAST" "[I") .int) (by decide +kernel)
  have h2 := va_eqt (hs (.eq (.length (.static "DareBridge" "RULE_LEAST" "[I")) (.int 7)) (by decide +kernel))
  have e0 := va_eqt (hs (.eq (.elem (.static "DareBridge" "RULE_LEAST" "[I") (.int 0)) (.int 1)) (by decide +kernel))
  have e1 := va_eqt (hs (.eq (.elem (.static "DareBridge" "RULE_LEAST" "[I") (.int 1)) (.int 0)) (by decide +kernel))
  have e2 := va_eqt (hs (.eq (.elem (.static "DareBridge" "RULE_LEAST" "[I") (.int 2)) (.int 0)) (by decide +kernel))
  have e3 := va_eqt (hs (.eq (.elem (.static "DareBridge" "RULE_LEAST" "[I") (.int 3)) (.int 0)) (by decide +kernel))
  have e4 := va_eqt (hs (.eq (.elem (.static "DareBridge" "RULE_LEAST" "[I") (.int 4)) (.int 1)) (by decide +kernel))
  have e5 := va_eqt (hs (.eq (.elem (.static "DareBridge" "RULE_LEAST" "[I") (.int 5)) (.int 0)) (by decide +kernel))
  have e6 := va_eqt (hs (.eq (.elem (.static "DareBridge" "RULE_LEAST" "[I") (.int 6)) (.int 0)) (by decide +kernel))
  exact lq_St0 hl hini h1 h2 (lq_7 (P := fun j => (Term.elem (.static "DareBridge" "RULE_LEAST" "[I") (.int (Int32.ofNat j))).eval #[Value.ref b] s none [] s = some (.int (xg_f1 j))) e0 e1 e2 e3 e4 e5 e6)
set_option maxRecDepth 20000 in
theorem lq_xg_f2 {b : Nat} {s : State} (hts : ∀ w ∈ lw_tbl, w.before #[Value.ref b] s = true) (hgv : (Jvm.Cond.and given_1 narrow_1).before #[Value.ref b] s = true) : xg_St s.heap.size "RULE_MOST" xg_f2 s := by
  have hs := flat_of_before _ hgv
  have hl := lq_tb (i := 300) (w := .laysStatic "DareBridge" "RULE_MOST" "[I") hts (by decide +kernel)
  have hini := lq_tb (i := 1) (w := .initialized "DareBridge") hts (by decide +kernel)
  have h1 := hs (.arrayOf (.static "DareBridge" "RULE_MOST" "[I") .int) (by decide +kernel)
  have h2 := va_eqt (hs (.eq (.length (.static "DareBridge" "RULE_MOST" "[I")) (.int 7)) (by decide +kernel))
  have e0 := va_eqt (hs (.eq (.elem (.static "DareBridge" "RULE_MOST" "[I") (.int 0)) (.int 9)) (by decide +kernel))
  have e1 := va_eqt (hs (.eq (.elem (.static "DareBridge" "RULE_MOST" "[I") (.int 1)) (.int 9)) (by decide +kernel))
  have e2 := va_eqt (hs (.eq (.elem (.static "DareBridge" "RULE_MOST" "[I") (.int 2)) (.int 99)) (by decide +kernel))
  have e3 := va_eqt (hs (.eq (.elem (.static "DareBridge" "RULE_MOST" "[I") (.int 3)) (.int 9)) (by decide +kernel))
  have e4 := va_eqt (hs (.eq (.elem (.static "DareBridge" "RULE_MOST" "[I") (.int 4)) (.int 42)) (by decide +kernel))
  have e5 := va_eqt (hs (.eq (.elem (.static "DareBridge" "RULE_MOST" "[I") (.int 5)) (.int 1)) (by decide +kernel))
  have e6 := va_eqt (hs (.eq (.elem (.static "DareBridge" "RULE_MOST" "[I") (.int 6)) (.int 9999)) (by decide +kernel))
  exact lq_St0 hl hini h1 h2 (lq_7 (P := fun j => (Term.elem (.static "DareBridge" "RULE_MOST" "[I") (.int (Int32.ofNat j))).eval #[Value.ref b] s none [] s = some (.int (xg_f2 j))) e0 e1 e2 e3 e4 e5 e6)
theorem lq_arr {args : Array Value} {s : State} {ty : FieldType} (h : (Cond.arrayClass ty).before args s = true) : ∃ cA : ClassId, ArrOfT s cA ty ∧ s.vm.findClass ("[" ++ ty.toString) = some cA := by
  obtain ⟨cA, kA, comp, h1, h2, h3⟩ := Cond.arrayClass_spec h
  exact ⟨cA, fun n z => ⟨fun k h => (by cases h), kA, h2, comp, h3⟩, h1⟩
/-- the classes and arrays as the tables have them -/
theorem lq_K {b : Nat} {s : State} (hts : ∀ w ∈ lw_tbl, w.before #[Value.ref b] s = true) (hgv : (Jvm.Cond.and given_1 narrow_1).before #[Value.ref b] s = true) : ∃ (D : va_G) (cI cZ : ClassId), xg_K D cI cZ s.heap.size s := by
  have hw : ∀ w ∈ wsL_law, w.before #[Value.ref b] s = true := fun w h => hts w (wsL_law_in w h)
  obtain ⟨cI, hI1, hI2⟩ := lq_arr (ty := .int) (lq_tb (i := 84) hts (by decide +kernel))
  obtain ⟨cZ, hZ1, hZ2⟩ := lq_arr (ty := .boolean) (lq_tb (i := 793) hts (by decide +kernel))
  obtain ⟨c0, iS0, hKn0⟩ := u_known (C := RX0) (T := TX0) (N := 2) (n := 2) hts inX0 (lq_tb (i := 110) (w := .instantiable RX0 2) hts (by decide +kernel))
  obtain ⟨c1, iS1, hKn1⟩ := u_known (C := RX1) (T := TX1) (N := 4) (n := 4) hts inX1 (lq_tb (i := 160) (w := .instantiable RX1 4) hts (by decide +kernel))
  obtain ⟨c2, iS2, hKn2⟩ := u_known (C := RX2) (T := TX2) (N := 3) (n := 3) hts inX2 (lq_tb (i := 185) (w := .instantiable RX2 3) hts (by decide +kernel))
  obtain ⟨c3, iS3, hKn3⟩ := u_known (C := RX3) (T := TX3) (N := 2) (n := 2) hts inX3 (lq_tb (i := 86) (w := .instantiable RX3 2) hts (by decide +kernel))
  obtain ⟨c4, iS4, hKn4⟩ := u_known (C := RX4) (T := TX4) (N := 9) (n := 9) hts inX4 (lq_tb (i := 102) (w := .instantiable RX4 9) hts (by decide +kernel))
  obtain ⟨c5, iS5, hKn5⟩ := u_known (C := RX5) (T := TX5) (N := 13) (n := 13) hts inX5 (lq_tb (i := 21) (w := .instantiable RX5 13) hts (by decide +kernel))
  obtain ⟨c6, iS6, hKn6⟩ := u_known (C := RX6) (T := TX6) (N := 4) (n := 4) hts inX6 (lq_tb (i := 204) (w := .instantiable RX6 4) hts (by decide +kernel))
  obtain ⟨c7, iS7, hKn7⟩ := u_known (C := RX7) (T := TX7) (N := 10) (n := 10) hts inX7 (lq_tb (i := 13) (w := .instantiable RX7 10) hts (by decide +kernel))
  obtain ⟨c8, iS8, hKn8⟩ := u_known (C := RX8) (T := TX8) (N := 46) (n := 46) hts inX8 (lq_tb (i := 649) (w := .instantiable RX8 46) hts (by decide +kernel))
  refine ⟨(fun k => if k = 0 then c0 else if k = 1 then c1 else if k = 2 then c2 else if k = 3 then c3 else if k = 4 then c4 else if k = 5 then c5 else if k = 6 then c6 else if k = 7 then c7 else c8, fun k => if k = 0 then iS0 else if k = 1 then iS1 else if k = 2 then iS2 else if k = 3 then iS3 else if k = 4 then iS4 else if k = 5 then iS5 else if k = 6 then iS6 else if k = 7 then iS7 else iS8), cI, cZ, ⟨⟨fun k q hq => ?_, fun k q hk => ?_⟩, lq_Nw hts, Nat.le_refl _, lq_xg_f0 hts hgv, lq_xg_f1 hts hgv, lq_xg_f2 hts hgv⟩⟩
  · match k, hq with
    | 0, hq => cases hq; exact hKn0
    | 1, hq => cases hq; exact hKn1
    | 2, hq => cases hq; exact hKn2
    | 3, hq => cases hq; exact hKn3
    | 4, hq => cases hq; exact hKn4
    | 5, hq => cases hq; exact hKn5
    | 6, hq => cases hq; exact hKn6
    | 7, hq => cases hq; exact hKn7
    | 8, hq => cases hq; exact hKn8
    | k + 9, hq => simp [vwCl] at hq
  · match k, hk with
    | 0, hk => cases hk; exact ⟨hI1, hI2⟩
    | 1, hk => cases hk; exact ⟨hZ1, hZ2⟩
    | k + 2, hk => simp at hk
