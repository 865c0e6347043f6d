/-! helps: indices, rows that say the same, the reader of rows -/
theorem xb_ge {n : Nat} {i : Int32} (hn : n < 2 ^ 31) (h0 : ¬ i < 0) (h : ¬ nI n ≤ i) : vp_in i n := by
  obtain ⟨j, hj, rfl⟩ := nI_of h0
  exact vp_in_nI (by rcases Nat.lt_or_ge j n with q | q
                     · exact q
                     · exact absurd (nI_le q hj) h) hn
theorem xb_ix {n : Nat} {i : Int32} (hn : n < 2 ^ 31) (h0 : ¬ i < 0) (h : nI n ≤ i) : n ≤ i.toNatClampNeg := by
  obtain ⟨j, hj, rfl⟩ := nI_of h0
  rw [nI_clamp hj]
  exact (nI_leI hn hj).mp h
theorem xb_lt {k n : Nat} (hk : k < 2 ^ 31) (hn : n < 2 ^ 31) (h : ¬ nI n ≤ nI k) : k < n := by
  rcases Nat.lt_or_ge k n with q | q
  · exact q
  · exact absurd (nI_le q hk) h
theorem xb_le {k n : Nat} (hk : k < 2 ^ 31) (hn : n < 2 ^ 31) (h : nI n ≤ nI k) : n ≤ k := (nI_leI hn hk).mp h
theorem xb_ngt {k n : Nat} (hk : k < 2 ^ 31) (hn : n < 2 ^ 31) (h : ¬ nI n < nI k) : k ≤ n := by
  rcases Nat.lt_or_ge n k with q | q
  · exact absurd (nI_lt q hk) h
  · exact q
theorem xb_gt {k n : Nat} (hk : k < 2 ^ 31) (hn : n < 2 ^ 31) (h : nI n < nI k) : n < k := (nI_ltI hn hk).mp h
theorem xb_inI {k n : Nat} (h : k < n) (hn : n < 2 ^ 31) : vp_in (nI k) n := vp_in_nI h hn
theorem xb_cl {k : Nat} (h : k < 2 ^ 31) : (nI k).toNatClampNeg = k := nI_clamp h
theorem xb_row {D : va_G} {cI : ClassId} {bs : Nat} {ws : va_W} {H0 H : Heap} {locs : List Loc} (hG : xg_H D bs ws H0 H locs) {k a n : Nat} {f g : Nat → Int32} (he : ws[k]? = some (a, .inl (cI, n, .inl f))) (hf : ∀ j : Nat, j < n → f j = g j) : xg_H D bs (ws.set k (a, .inl (cI, n, .inl g))) H0 H locs := by
  refine ⟨hG.1.set hG.2.1 he ?_ (fun q _ => rfl), hG.2.1.set he, hG.2.2⟩
  have h1 : H[a]? = some (vp_cell cI (n, .inl f)) := hG.1 k _ he
  show H[a]? = some (vp_cell cI (n, .inl g))
  rw [h1, vp_cell_i, vp_cell_i]
  unfold arrV
  have e : (Array.ofFn (n := n) fun j => Value.int (f j.val)) = Array.ofFn (n := n) fun j => Value.int (g j.val) := congrArg (fun z => Array.ofFn (n := n) z) (funext fun j => by rw [hf j.val j.isLt])
  rw [e]
theorem xb_toX {D : va_G} {cI cZ : ClassId} {bs : Nat} {ws : va_W} {U : State} {k a n : Nat} {f : Nat → Int32} (he : ws[k]? = some (a, .inl (cI, n, .inl f))) (h : xg_W D cI cZ bs ws U) : xg_X a n f U U.heap := by
  have h1 : U.heap[a]? = some (vp_cell cI (n, .inl f)) := h.2.1 k _ he
  rw [vp_cell_i] at h1
  exact xg_X.ofX ⟨_, h1, (h.1.1.2 0 (cI, .int) rfl).1 _ _, (fun q => by cases q), arrV_size _ _ _, fun j hj => arrV_read _ _ hj⟩
/-- at(row, i), of any row: what it holds there, 0 outside -/
theorem mX7_atX (l : Launch) (a n : Nat) (f : Nat → Int32) (i : Int32) (hn : n < 2 ^ 31) : Met l yX7_at wsX7_at ({ frames := 0, cells := 0, slots := 0, locals := 0 } : Room) (va_Pc [.ref a, .int i] (fun U => xg_X a n f U U.heap)) (xg_Ri (fun r : Int32 => r = xb_at n f i)) 0 0 xg_F := by
  refine xg_met cX7_at 2 (some .int) RX7 (by decide) rfl rfl (Nat.le_of_ble_eq_true rfl) ?_
  intro pg en s m below meth c ls S hr hlk hnm hX hl
  obtain ⟨hx, hb, hml, hown, hts⟩ := id S
  have hS : va_S xg_F s.heap s.heap [] := va_S.rf
  have hl : lv_has ls 2 [(0, .ref a), (1, .int i)] := hl
  refine lv_aload_n hx hb dX7_at_0 rfl (lv_at hl 0 rfl) ?_
  refine lv_ifnull hx hb dX7_at_1 ?_
  refine lv_iload_n hx hb dX7_at_4 rfl (lv_at hl 1 rfl) ?_
  refine lv_if_lt (tgt := 20) hx hb dX7_at_5 (by decide) (fun c5 => ?_) (fun c5 => ?_)
  · refine lv_iconst (v := 0) hx hb dX7_at_20 (by decide) ?_
    exact xg_eri S hr hlk (if_pos (Or.inl c5)).symm dX7_at_21
  · refine lv_iload_n hx hb dX7_at_8 rfl (lv_at hl 1 rfl) ?_
    refine lv_aload_n hx hb dX7_at_9 rfl (lv_at hl 0 rfl) ?_
    refine va_tlen hx hb (hX.T (A := xg_F) (fun q => q)) hS rfl dX7_at_10 ?_
    refine lv_icmp_ge (tgt := 20) hx hb dX7_at_11 (by decide) (fun c11 => ?_) (fun c11 => ?_)
    · refine lv_iconst (v := 0) hx hb dX7_at_20 (by decide) ?_
      exact xg_eri S hr hlk (if_pos (Or.inr (xb_ix hn c5 c11))).symm dX7_at_21
    · refine lv_aload_n hx hb dX7_at_14 rfl (lv_at hl 0 rfl) ?_
      refine lv_iload_n hx hb dX7_at_15 rfl (lv_at hl 1 rfl) ?_
      refine va_ti (v := .int (f i.toNatClampNeg)) hx hb (hX.T (A := xg_F) (fun q => q)) hS (xb_ge hn c5 c11) rfl dX7_at_16 ?_
      refine lv_goto (tgt := 21) hx hb dX7_at_17 (by decide) ?_
      exact xg_eri S hr hlk (xb_at_in (xb_ge hn c5 c11)).symm dX7_at_21
theorem mX7_at (l : Launch) (D : va_G) (cI cZ : ClassId) (bs : Nat) (ad : Nat → Nat) (ws : va_W) (b : Nat) (n : Nat) (f : Nat → Int32) (hR : ws[b]? = some (ad b, .inl (cI, n, .inl f))) (i : Int32) (hn : n < 2 ^ 31) : Met l yX7_at wsX7_at ({ frames := 0, cells := 0, slots := 0, locals := 0 } : Room) (va_Pc [.ref (ad b), .int i] (fun U => xg_W D cI cZ bs ws U)) (xg_Ri (fun r : Int32 => r = xb_at n f i)) 0 0 xg_F :=
  xg_weak (mX7_atX l (ad b) n f i hn) (fun _ _ h => ⟨h.1, xb_toX hR h.2⟩)
theorem xg_blindX {a n : Nat} {f : Nat → Int32} {As : List Value} : FrameBlind (va_Pc As (fun U => xg_X a n f U U.heap)) := fun b U g mk h => ⟨h.1, h.2.moved (u := U) (U := U.calling g mk b) (Vm.Alike.refl U.vm)⟩
/-- a static row stands, wherever the world is -/
theorem xg_preSX {D : va_G} {cI cZ : ClassId} {bs : Nat} {ws : va_W} {H : Heap} {locs : List Loc} {s : State} {As : List Value} {a n : Nat} {f : Nat → Int32} (hK : xg_K D cI cZ bs s) (hG : xg_H D bs ws s.heap H locs) (ha : a < bs) (hX : xg_X a n f s s.heap) : PreS s H (va_Pc As (fun U => xg_X a n f U U.heap)) As :=
  ⟨xg_blindX, fun U hU hW => ⟨rfl, ((hX.kept (by rw [hU]; exact hG.2.2.2.1 a (Nat.lt_of_lt_of_le ha hK.2.2.1) (Nat.not_le.mpr ha))).moved hW.alike)⟩⟩
theorem xv_T.rowS {cI : ClassId} {ad : Nat → Nat} {w w' : va_W} {b : Nat} {T : Nat → Nat → Int32} (h : xv_T cI ad w b T) (j : Nat) (hj : j < 12) {g : Nat → Int32} (hg : w'[b + 1 + j]? = some (ad (b + 1 + j), .inl (cI, xv_Tn j, .inl g))) (hs : xv_S w w' (b + 1 + j) 1) : xv_T cI ad w' b (va_up T j g) := by
  refine ⟨?_, fun i hi => ?_⟩
  · have e : va_up T j g 12 = T 12 := by unfold va_up; rw [if_neg (by omega)]
    have h1 := hs.at h.1 (by omega)
    unfold xv_Tf at h1 ⊢
    rw [e]
    exact h1
  · by_cases hij : i = j
    · subst hij
      rw [hg]
      unfold va_up
      rw [if_pos rfl]
    · rw [hs.at (h.2 i hi) (by omega)]
      unfold va_up
      rw [if_neg hij]
theorem xv_M.rowS {cI cZ : ClassId} {ad : Nat → Nat} {w w' : va_W} {b : Nat} {A : Nat → Nat → Int32} {I : Nat → Int32} {L : Int64} (h : xv_M cI cZ ad w b A I L) (j : Nat) (hj : j < 22) {g : Nat → Int32} (hg : w'[b + 1 + j]? = some (ad (b + 1 + j), .inl (cI, xv_Mn j, .inl g))) (hs : xv_S w w' (b + 1 + j) 1) : xv_M cI cZ ad w' b (va_up A j g) I L := by
  refine ⟨hs.at h.1 (by omega), fun i hi => ?_, ?_⟩
  · by_cases hij : i = j
    · subst hij
      rw [hg]
      unfold va_up
      rw [if_pos rfl]
    · rw [hs.at (h.2.1 i hi) (by omega)]
      unfold va_up
      rw [if_neg hij]
  · rw [hs.at h.2.2 (by omega)]
    unfold va_up
    rw [if_neg (by omega)]
theorem xv_T.cong {cI : ClassId} {ad : Nat → Nat} {w : va_W} {b : Nat} {T U : Nat → Nat → Int32} (h : xv_T cI ad w b T) (h1 : ∀ j : Nat, j < 12 → T j = U j) (h2 : T 12 0 = U 12 0) : xv_T cI ad w b U := by
  refine ⟨?_, fun j hj => ?_⟩
  · have := h.1
    unfold xv_Tf at this ⊢
    rw [← h2]
    exact this
  · rw [← h1 j hj]
    exact h.2 j hj
