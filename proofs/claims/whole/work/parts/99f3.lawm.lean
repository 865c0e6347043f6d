/-! THE CLAIM OUT OF ONE WALK OF THE LAW'S BODY. Your part is whole_start (and what it stands on); all else here is the same for every law, but numbers. -/
def R_law : String := "DareBridgeLaw"
def lw_P (b : Addr) (xs : List Int32) (args : Array Value) (s : State) : Prop := args = #[.ref b] ∧ s.IntsAt b xs ∧ xs.length ≤ 384 ∧ (Jvm.Cond.and given_1 narrow_1).before args s = true
def lw_Q (_ : Array Value) (s : State) (o : Outcome) (t : State) : Prop := o = .returned (some (.int 1)) ∧ Framed s o t [] 99 1284
def lw_Z (below : List Frame) (a : Array Value) (s : State) : State → Prop := fun t => ∃ o, t.status = .running ∧ Ended t below o ∧ lw_Q a s o t
/-- the law's own end, with 1 on the stack, nothing written that was there before, its room as the claim has it -/
theorem lw_ret {p : Program} {l : Launch} {e : Env} {s : State} {m : MethodId} {below : List Frame} {meth : Method} {c : Code} {b : Nat} (hx : p.tables.exec = Jvm.exec) (hb : c.code = code) (hr : meth.sig.returnType = ret) (hlocks : meth.locks = false) {pc : Nat} {H : Heap} {ls : Array Slot} (hdg : decode code pc = .ok (.ireturn, 1)) : W p l e room_1 s m #[Value.ref b] below meth c H [] 99 1284 (lw_Z below #[Value.ref b] s) (F0 m pc ls [.int 1]) := by
  intro T hT X
  obtain ⟨fs, hret, hrun, hended, hW, hframe⟩ := X.leave (v := some (.int 1)) (hlocks := hlocks) (fun h => by rw [hr] at h; cases h)
  have hmeth' : T.vm.method? m = some meth := X.method'
  refine ⟨T.setFrames fs, ?_, .returned (some (.int 1)), hrun, hended, rfl, ⟨_, rfl⟩, hW, hframe⟩
  jvm_step X.here [X.here.top, hx, hb, hdg, hmeth', hr, ret, narrow_b1]
  (try refine ⟨rfl, ?_⟩); (try refine ⟨rfl, ?_⟩)
  first | (intro acts; rw [hret _ acts rfl rfl rfl]) | rw [hret _ _ rfl rfl rfl]
  exact Steps.refl _
/-- what holds at the law's entry: the machine, the code, the tables' words (any of lw_tbl by 'hts w (by decide +kernel)'), the script of L ints xs at the cell b, what the Statement gives of the start (any of its parts by flat_of_before) -/
def lw_At (p : Program) (s : State) (m : MethodId) (meth : Method) (c : Code) (b L : Nat) (xs : Nat → Int32) : Prop :=
  p.tables.exec = Jvm.exec ∧ c.code = code ∧ meth.sig.returnType = ret ∧ c.maxLocals = 4 ∧ s.vm.findClass R_law = some m.cls ∧ (∀ w ∈ lw_tbl, w.before #[Value.ref b] s = true) ∧ va_X b L xs s s.heap ∧ b < s.heap.size ∧ meth.locks = false ∧ (Jvm.Cond.and given_1 narrow_1).before #[Value.ref b] s = true
/-- the end: nothing that was there before is written -/
theorem law_end {p : Program} {l : Launch} {e : Env} {s : State} {m : MethodId} {below : List Frame} {meth : Method} {c : Code} {sb N : Nat} {xs : Nat → Int32} {D : va_G} {cI cZ : ClassId} {ws : va_W} {H : Heap} {locs : List Loc} {ls : Array Slot} (C : lq s m meth p c sb N xs D cI cZ) (hG : xg_H D s.heap.size ws s.heap H locs) : W p l e room_1 s m #[Value.ref sb] below meth c H locs 99 1284 (lw_Z below #[Value.ref sb] s) (F0 m 1246 ls []) := by
  obtain ⟨S, hret, hlk, hK, hXs, hsb⟩ := id C
  obtain ⟨hx, hb, hml, hown, hts⟩ := id S
  refine lv_iconst (v := 1) hx hb dL_law_1246 (by decide) ?_
  refine va_forget (fun q hq => hG.2.2.2.2 q hq) ?_
  exact lw_ret hx hb hret hlk dL_law_1247
theorem lq_31 (x : Int32) : ∃ j : Nat, j < 32 ∧ x &&& 31 = nI j := by
  have h1 : (x &&& 31).toBitVec.toNat ≤ 31 := by
    rw [Int32.toBitVec_and, BitVec.toNat_and]
    exact Nat.and_le_right
  refine ⟨(x &&& 31).toBitVec.toNat, by omega, ?_⟩
  apply Int32.toBitVec_inj.mp
  apply BitVec.eq_of_toNat_eq
  rw [pk_tn]
  omega
theorem lq_gt {N i : Nat} (hN : N ≤ 384) (hi : i ≤ 400) (h : ¬ nI N - 6 < nI i) : i + 6 ≤ N := by
  rw [Int32.lt_iff_toInt_lt, show (nI N - 6 : Int32).toInt = (N : Int) - (6 : Nat) from pk_sub_toInt (a := N) (b := 6) (by omega) (by decide), nI_toInt (by omega)] at h
  omega
theorem lq_in {N i : Nat} {x3 : Int32} (e3 : x3 = nI i) (h6 : i + 6 ≤ N) (hN : N ≤ 384) (k : Nat) (hk : k < 6) : vp_in (x3 + nI k) N := by
  rw [e3, nI_add]
  exact vp_in_nI (by omega) (by omega)
set_option maxHeartbeats 4000000 in
set_option maxRecDepth 100000 in
/-- the law's loop: at its head all is alike -/
theorem law_loop {p : Program} {l : Launch} {e : Env} {s : State} {m : MethodId} {below : List Frame} {meth : Method} {c : Code} {sb N : Nat} {xs : Nat → Int32} {D : va_G} {cI cZ : ClassId} {ad : Nat → Nat} (C : lq s m meth p c sb N xs D cI cZ) (hN : N ≤ 384) : ∀ (n i B : Nat) (x3 : Int32) (ws : va_W) (H : Heap) (locs : List Loc) (ls : Array Slot), x3 = nI i → i ≤ 390 → N < i + 6 * n + 6 → B + 2000 * n < 2 ^ 29 → lj cI cZ ad 0 B ws → xg_H D s.heap.size ws s.heap H locs → lv_has ls 4 [(0, .ref sb), (1, .ref (ad 0)), (2, .ref (ad (0 + 75))), (3, .int x3)] → W p l e room_1 s m #[Value.ref sb] below meth c H locs 99 1284 (lw_Z below #[Value.ref sb] s) (F0 m 18 ls []) := by
  obtain ⟨S, hret, hlk, hK, hXs, hsb⟩ := id C
  obtain ⟨hx, hb, hml, hown, hts⟩ := id S
  intro n
  induction n with
  | zero =>
    intro i B x3 ws H locs ls e3 hi hn hB hJ hG hl
    refine lv_iload_n hx hb dL_law_18 rfl (lv_at hl 3 rfl) ?_
    refine lv_aload_n hx hb dL_law_19 rfl (lv_at hl 0 rfl) ?_
    refine lq_len C hG dL_law_20 ?_
    refine lv_bipush (v := 6) hx hb dL_law_21 (by decide) ?_
    refine lv_isub hx hb dL_law_23 ?_
    refine lv_icmp_gt (tgt := 1246) hx hb dL_law_24 (by decide) (fun _ => law_end C hG) (fun q => ?_)
    exact absurd (lq_gt (i := i) hN (by omega) (by rw [← e3]; exact q)) (by omega)
  | succ n ih =>
    intro i B x3 ws H locs ls e3 hi hn hB hJ hG hl
    refine lv_iload_n hx hb dL_law_18 rfl (lv_at hl 3 rfl) ?_
    refine lv_aload_n hx hb dL_law_19 rfl (lv_at hl 0 rfl) ?_
    refine lq_len C hG dL_law_20 ?_
    refine lv_bipush (v := 6) hx hb dL_law_21 (by decide) ?_
    refine lv_isub hx hb dL_law_23 ?_
    refine lv_icmp_gt (tgt := 1246) hx hb dL_law_24 (by decide) (fun _ => law_end C hG) (fun q => ?_)
    have h6 : i + 6 ≤ N := lq_gt (i := i) hN (by omega) (by rw [← e3]; exact q)
    have hB2 : B + 2000 < 2 ^ 30 := by omega
    have i0 : vp_in x3 N := by rw [e3]; exact vp_in_nI (by omega) (by omega)
    have i1 : vp_in (x3 + 1) N := lq_in e3 h6 hN 1 (by decide)
    have i2 : vp_in (x3 + 2) N := lq_in e3 h6 hN 2 (by decide)
    have i3 : vp_in (x3 + 3) N := lq_in e3 h6 hN 3 (by decide)
    have i4 : vp_in (x3 + 4) N := lq_in e3 h6 hN 4 (by decide)
    have i5 : vp_in (x3 + 5) N := lq_in e3 h6 hN 5 (by decide)
    refine lv_aload_n hx hb dL_law_27 rfl (lv_at hl 0 rfl) ?_
    refine lv_iload_n hx hb dL_law_28 rfl (lv_at hl 3 rfl) ?_
    refine lq_ld C hG (a := xs x3.toNatClampNeg) i0 rfl dL_law_29 ?_
    refine lv_bipush (v := 31) hx hb dL_law_30 (by decide) ?_
    refine lv_iand hx hb dL_law_32 ?_
    obtain ⟨j, hj, ej⟩ := lq_31 (xs x3.toNatClampNeg)
    rw [ej]
    have kk : ∀ (w : va_W) (H1 : Heap) (locs1 : List Loc), lj cI cZ ad 0 (B + 2000) w → xg_H D s.heap.size w s.heap H1 locs1 → W p l e room_1 s m #[Value.ref sb] below meth c H1 locs1 99 1284 (lw_Z below #[Value.ref sb] s) (F0 m 1240 ls []) := by
      intro w H1 locs1 hJ1 hG1
      obtain ⟨x4, e4⟩ : ∃ y : Int32, x3 + 6 = y := ⟨_, rfl⟩
      refine lv_iinc (v := x4) (lv' := [(3, .int x4), (0, .ref sb), (1, .ref (ad 0)), (2, .ref (ad (0 + 75)))]) hx hb dL_law_1240 hl (k := 3) rfl (by rw [← e4]; rfl) (by decide) rfl (fun ls hl => ?_)
      refine lv_goto (tgt := 18) hx hb dL_law_1243 (by decide) ?_
      exact ih (i + 6) (B + 2000) x4 w H1 locs1 ls (by rw [← e4, e3]; exact nI_add i 6) (by omega) (by omega) (by omega) hJ1 hG1 (lv_sub hl [1, 2, 3, 0] rfl)
    rcases (show j = 0 ∨ j = 1 ∨ j = 2 ∨ j = 3 ∨ j = 4 ∨ j = 5 ∨ j = 6 ∨ j = 7 ∨ j = 8 ∨ j = 9 ∨ j = 10 ∨ j = 11 ∨ j = 12 ∨ j = 13 ∨ j = 14 ∨ j = 15 ∨ j = 16 ∨ j = 17 ∨ j = 18 ∨ j = 19 ∨ j = 20 ∨ j = 21 ∨ j = 22 ∨ j = 23 ∨ j = 24 ∨ j = 25 ∨ j = 26 ∨ j = 27 ∨ j = 28 ∨ j = 29 ∨ j = 30 ∨ j = 31 by omega) with q2 | q2 | q2 | q2 | q2 | q2 | q2 | q2 | q2 | q2 | q2 | q2 | q2 | q2 | q2 | q2 | q2 | q2 | q2 | q2 | q2 | q2 | q2 | q2 | q2 | q2 | q2 | q2 | q2 | q2 | q2 | q2 <;> subst q2
    · refine lv_tableIn (off := 143) (tgt := 176) hx hb dL_law_33 (by decide) (by decide) rfl (by decide) ?_
      exact law_person C hJ hB2 hG hl i1 i2 i3 i4 i5 kk
    · refine lv_tableIn (off := 222) (tgt := 255) hx hb dL_law_33 (by decide) (by decide) rfl (by decide) ?_
      exact law_leave C hJ hB2 hG hl i1 i2 i3 i4 i5 kk
    · refine lv_tableIn (off := 245) (tgt := 278) hx hb dL_law_33 (by decide) (by decide) rfl (by decide) ?_
      exact law_set C hJ hB2 hG hl i1 i2 i3 i4 i5 kk
    · refine lv_tableIn (off := 278) (tgt := 311) hx hb dL_law_33 (by decide) (by decide) rfl (by decide) ?_
      exact law_say C hJ hB2 hG hl i1 i2 i3 i4 i5 kk
    · refine lv_tableIn (off := 301) (tgt := 334) hx hb dL_law_33 (by decide) (by decide) rfl (by decide) ?_
      exact law_wipe C hJ hB2 hG hl i1 i2 i3 i4 i5 kk
    · refine lv_tableIn (off := 314) (tgt := 347) hx hb dL_law_33 (by decide) (by decide) rfl (by decide) ?_
      exact law_fault C hJ hB2 hG hl i1 i2 i3 i4 i5 kk
    · refine lv_tableIn (off := 327) (tgt := 360) hx hb dL_law_33 (by decide) (by decide) rfl (by decide) ?_
      exact law_judge C hJ hB2 hG hl i1 i2 i3 i4 i5 kk
    · refine lv_tableIn (off := 350) (tgt := 383) hx hb dL_law_33 (by decide) (by decide) rfl (by decide) ?_
      exact law_state C hJ hB2 hG hl i1 i2 i3 i4 i5 kk
    · refine lv_tableIn (off := 383) (tgt := 416) hx hb dL_law_33 (by decide) (by decide) rfl (by decide) ?_
      exact law_behind C hJ hB2 hG hl i1 i2 i3 i4 i5 kk
    · refine lv_tableIn (off := 416) (tgt := 449) hx hb dL_law_33 (by decide) (by decide) rfl (by decide) ?_
      exact law_done C hJ hB2 hG hl i1 i2 i3 i4 i5 kk
    · refine lv_tableIn (off := 429) (tgt := 462) hx hb dL_law_33 (by decide) (by decide) rfl (by decide) ?_
      exact law_ties C hJ hB2 hG hl i1 i2 i3 i4 i5 kk
    · refine lv_tableIn (off := 452) (tgt := 485) hx hb dL_law_33 (by decide) (by decide) rfl (by decide) ?_
      exact law_unhurt C hJ hB2 hG hl i1 i2 i3 i4 i5 kk
    · refine lv_tableIn (off := 476) (tgt := 509) hx hb dL_law_33 (by decide) (by decide) rfl (by decide) ?_
      exact law_odds C hJ hB2 hG hl i1 i2 i3 i4 i5 kk
    · refine lv_tableIn (off := 509) (tgt := 542) hx hb dL_law_33 (by decide) (by decide) rfl (by decide) ?_
      exact law_worth C hJ hB2 hG hl i1 i2 i3 i4 i5 kk
    · refine lv_tableIn (off := 552) (tgt := 585) hx hb dL_law_33 (by decide) (by decide) rfl (by decide) ?_
      exact law_does C hJ hB2 hG hl i1 i2 i3 i4 i5 kk
    · refine lv_tableIn (off := 585) (tgt := 618) hx hb dL_law_33 (by decide) (by decide) rfl (by decide) ?_
      exact law_nerve C hJ hB2 hG hl i1 i2 i3 i4 i5 kk
    · refine lv_tableIn (off := 618) (tgt := 651) hx hb dL_law_33 (by decide) (by decide) rfl (by decide) ?_
      exact law_climb C hJ hB2 hG hl i1 i2 i3 i4 i5 kk
    · refine lv_tableIn (off := 681) (tgt := 714) hx hb dL_law_33 (by decide) (by decide) rfl (by decide) ?_
      exact law_safe C hJ hB2 hG hl i1 i2 i3 i4 i5 kk
    · refine lv_tableIn (off := 745) (tgt := 778) hx hb dL_law_33 (by decide) (by decide) rfl (by decide) ?_
      exact law_law C hJ hB2 hG hl i1 i2 i3 i4 i5 kk
    · refine lv_tableIn (off := 808) (tgt := 841) hx hb dL_law_33 (by decide) (by decide) rfl (by decide) ?_
      exact law_game C hJ hB2 hG hl i1 i2 i3 i4 i5 kk
    · refine lv_tableIn (off := 871) (tgt := 904) hx hb dL_law_33 (by decide) (by decide) rfl (by decide) ?_
      exact law_enough C hJ hB2 hG hl i1 i2 i3 i4 i5 kk
    · refine lv_tableIn (off := 894) (tgt := 927) hx hb dL_law_33 (by decide) (by decide) rfl (by decide) ?_
      exact law_holds C hJ hB2 hG hl i1 i2 i3 i4 i5 kk
    · refine lv_tableIn (off := 917) (tgt := 950) hx hb dL_law_33 (by decide) (by decide) rfl (by decide) ?_
      exact law_won C hJ hB2 hG hl i1 i2 i3 i4 i5 kk
    · refine lv_tableIn (off := 940) (tgt := 973) hx hb dL_law_33 (by decide) (by decide) rfl (by decide) ?_
      exact law_refuser C hJ hB2 hG hl i1 i2 i3 i4 i5 kk
    · refine lv_tableIn (off := 973) (tgt := 1006) hx hb dL_law_33 (by decide) (by decide) rfl (by decide) ?_
      exact law_likely C hJ hB2 hG hl i1 i2 i3 i4 i5 kk
    · refine lv_tableIn (off := 1006) (tgt := 1039) hx hb dL_law_33 (by decide) (by decide) rfl (by decide) ?_
      exact law_seen C hJ hB2 hG hl i1 i2 i3 i4 i5 kk
    · refine lv_tableIn (off := 1049) (tgt := 1082) hx hb dL_law_33 (by decide) (by decide) rfl (by decide) ?_
      exact law_forget C hJ hB2 hG hl i1 i2 i3 i4 i5 kk
    · refine lv_tableIn (off := 1062) (tgt := 1095) hx hb dL_law_33 (by decide) (by decide) rfl (by decide) ?_
      exact law_prides C hJ hB2 hG hl i1 i2 i3 i4 i5 kk
    · refine lv_tableIn (off := 1095) (tgt := 1128) hx hb dL_law_33 (by decide) (by decide) rfl (by decide) ?_
      exact law_year C hJ hB2 hG hl i1 i2 i3 i4 i5 kk
    · refine lv_tableIn (off := 1138) (tgt := 1171) hx hb dL_law_33 (by decide) (by decide) rfl (by decide) ?_
      exact law_image C hJ hB2 hG hl i1 i2 i3 i4 i5 kk
    · refine lv_tableIn (off := 1161) (tgt := 1194) hx hb dL_law_33 (by decide) (by decide) rfl (by decide) ?_
      exact law_restore C hJ hB2 hG hl i1 i2 i3 i4 i5 kk
    · refine lv_tableIn (off := 1184) (tgt := 1217) hx hb dL_law_33 (by decide) (by decide) rfl (by decide) ?_
      exact law_told C hJ hB2 hG hl i1 i2 i3 i4 i5 kk
