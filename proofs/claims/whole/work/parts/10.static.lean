set_option maxHeartbeats 4000000 in
set_option maxRecDepth 100000 in
/-- number >= least && number <= most -/
theorem mX7_within (l : Launch) (D : va_G) (cI cZ : ClassId) (bs : Nat) (ad : Nat → Nat) (ws : va_W) (x : Int32) (lo : Int32) (hi : Int32) : Met l yX7_within wsX7_within ({ frames := 0, cells := 0, slots := 0, locals := 0 } : Room) (va_Pc [.int x, .int lo, .int hi] (fun U => xg_W D cI cZ bs ws U)) (xg_Ri (fun r : Int32 => r = xb_i (xw_in x lo hi))) 0 0 xg_F := by
  refine xg_met cX7_within 3 (some .boolean) RX7 (by decide) rfl rfl (Nat.le_of_ble_eq_true rfl) ?_
  intro pg en s m below meth c ls S hr hlk hnm hB hl
  have hK := hB.1
  have hG := xg_start hB
  obtain ⟨hx, hb, hml, hown, hts⟩ := id S
  have hl : lv_has ls 3 [(0, .int x), (1, .int lo), (2, .int hi)] := hl
  obtain ⟨Q, hQ⟩ : ∃ Q, Q = MQ below (xg_Ri (fun r : Int32 => r = xb_i (xw_in x lo hi))) ([.int x, .int lo, .int hi] : List Value).toArray s 0 0 xg_F := ⟨_, rfl⟩
  rw [← hQ]
  refine lv_iload_n hx hb dX7_within_0 rfl (lv_at hl 0 rfl) ?_
  refine lv_iload_n hx hb dX7_within_1 rfl (lv_at hl 1 rfl) ?_
  refine lv_icmp_lt (tgt := 14) hx hb dX7_within_2 (by decide) (fun c2 => ?_) (fun c2 => ?_)
  · skip
    refine lv_iconst (v := 0) hx hb dX7_within_14 (by decide) ?_
    rw [hQ]
    exact xg_erz S hr hlk rfl (by skip; simp [xw_in, xb_i, c2]) dX7_within_15
  · skip
    refine lv_iload_n hx hb dX7_within_5 rfl (lv_at hl 0 rfl) ?_
    refine lv_iload_n hx hb dX7_within_6 rfl (lv_at hl 2 rfl) ?_
    refine lv_icmp_gt (tgt := 14) hx hb dX7_within_7 (by decide) (fun c7 => ?_) (fun c7 => ?_)
    · skip
      refine lv_iconst (v := 0) hx hb dX7_within_14 (by decide) ?_
      rw [hQ]
      exact xg_erz S hr hlk rfl (by skip; simp [xw_in, xb_i, c2, c7]) dX7_within_15
    · skip
      refine lv_iconst (v := 1) hx hb dX7_within_10 (by decide) ?_
      refine lv_goto (tgt := 15) hx hb dX7_within_11 (by decide) ?_
      rw [hQ]
      exact xg_erz S hr hlk rfl (by skip; simp [xw_in, xb_i, c2, c7]) dX7_within_15
set_option maxHeartbeats 4000000 in
set_option maxRecDepth 100000 in
/-- put(row, i, v) -/
theorem mX7_put (l : Launch) (D : va_G) (cI cZ : ClassId) (bs : Nat) (ad : Nat → Nat) (ws : va_W) (b : Nat) (n : Nat) (f : Nat → Int32) (hR : ws[b]? = some (ad b, .inl (cI, n, .inl f))) (i : Int32) (v : Int32) (hn : n < 2 ^ 31) : Met l yX7_put wsX7_put ({ frames := 0, cells := 0, slots := 0, locals := 0 } : Room) (va_Pc [.ref (ad b), .int i, .int v] (fun U => xg_W D cI cZ bs ws U)) (va_Qv (fun w : va_W => w[b]? = some (ad b, .inl (cI, n, .inl (xb_pt n f i v))) ∧ xv_S ws w b 1) (fun w t => xg_W D cI cZ bs w t) (xg_A bs)) 0 0 (xg_A bs) := by
  refine xg_met cX7_put 3 none RX7 (by decide) rfl rfl (Nat.le_of_ble_eq_true rfl) ?_
  intro pg en s m below meth c ls S hr hlk hnm hB hl
  have hK := hB.1
  have hG := xg_start hB
  obtain ⟨hx, hb, hml, hown, hts⟩ := id S
  have hl : lv_has ls 3 [(0, .ref (ad b)), (1, .int i), (2, .int v)] := hl
  obtain ⟨Q, hQ⟩ : ∃ Q, Q = MQ below (va_Qv (fun w : va_W => w[b]? = some (ad b, .inl (cI, n, .inl (xb_pt n f i v))) ∧ xv_S ws w b 1) (fun w t => xg_W D cI cZ bs w t) (xg_A bs)) ([.ref (ad b), .int i, .int v] : List Value).toArray s 0 0 (xg_A bs) := ⟨_, rfl⟩
  rw [← hQ]
  refine lv_aload_n hx hb dX7_put_0 rfl (lv_at hl 0 rfl) ?_
  refine lv_ifnull hx hb dX7_put_1 ?_
  refine lv_iload_n hx hb dX7_put_4 rfl (lv_at hl 1 rfl) ?_
  refine lv_if_lt (tgt := 18) hx hb dX7_put_5 (by decide) (fun c5 => ?_) (fun c5 => ?_)
  · skip
    rw [hQ]
    exact xg_emv S hr hlk hK hG ⟨(by rw [show (xb_pt n f i v) = f from (by skip; first | exact xb_pt_in (xb_ge hn c5 c11) | exact if_pos (Or.inl c5) | exact if_pos (Or.inr (xb_ix hn c5 c11)))]; exact hR), xv_S.rf⟩ dX7_put_18
  · skip
    refine lv_iload_n hx hb dX7_put_8 rfl (lv_at hl 1 rfl) ?_
    refine lv_aload_n hx hb dX7_put_9 rfl (lv_at hl 0 rfl) ?_
    refine xg_len S hK hG b hR dX7_put_10 ?_
    refine lv_icmp_ge (tgt := 18) hx hb dX7_put_11 (by decide) (fun c11 => ?_) (fun c11 => ?_)
    · skip
      rw [hQ]
      exact xg_emv S hr hlk hK hG ⟨(by rw [show (xb_pt n f i v) = f from (by skip; first | exact xb_pt_in (xb_ge hn c5 c11) | exact if_pos (Or.inl c5) | exact if_pos (Or.inr (xb_ix hn c5 c11)))]; exact hR), xv_S.rf⟩ dX7_put_18
    · skip
      refine lv_aload_n hx hb dX7_put_14 rfl (lv_at hl 0 rfl) ?_
      refine lv_iload_n hx hb dX7_put_15 rfl (lv_at hl 1 rfl) ?_
      refine lv_iload_n hx hb dX7_put_16 rfl (lv_at hl 2 rfl) ?_
      refine xg_ast2 S hK hG b hR (i := i) (x := v) (xb_ge hn c5 c11) dX7_put_17 (fun w1 H locs hw1 hG => ?_)
      have hs2 : xv_S ws w1 b 1 := by rw [hw1]; exact xv_S.set (by omega) (by omega)
      obtain ⟨f3, ef3⟩ : ∃ zz : Nat → Int32, upd f i.toNatClampNeg v = zz := ⟨_, rfl⟩
      have hR : w1[b]? = some (ad b, .inl (cI, n, .inl f3)) := by rw [hw1, ← ef3]; exact xv_self hR
      have hSw1 : xv_S ws w1 b 1 := hs2.mono (by omega) (by omega)
      rw [hQ]
      exact xg_emv S hr hlk hK hG ⟨(by rw [show (xb_pt n f i v) = f3 from (by subst ef3; first | exact xb_pt_in (xb_ge hn c5 c11) | exact if_pos (Or.inl c5) | exact if_pos (Or.inr (xb_ix hn c5 c11)))]; exact hR), hSw1⟩ dX7_put_18
set_option maxHeartbeats 4000000 in
set_option maxRecDepth 100000 in
/-- copyRow(from, to): two rows of one length -/
theorem mX7_copyRow (l : Launch) (D : va_G) (cI cZ : ClassId) (bs : Nat) (ad : Nat → Nat) (ws : va_W) (b : Nat) (b2 : Nat) (n : Nat) (f : Nat → Int32) (hR : ws[b]? = some (ad b, .inl (cI, n, .inl f))) (g : Nat → Int32) (hR2 : ws[b2]? = some (ad b2, .inl (cI, n, .inl g))) (hn : n < 2 ^ 31) (hbc : b ≠ b2) : Met l yX7_copyRow wsX7_copyRow ({ frames := 1, cells := 0, slots := 0, locals := 22 } : Room) (va_Pc [.ref (ad b), .ref (ad b2)] (fun U => xg_W D cI cZ bs ws U)) (va_Qv (fun w : va_W => w[b]? = some (ad b, .inl (cI, n, .inl f)) ∧ w[b2]? = some (ad b2, .inl (cI, n, .inl f)) ∧ xv_S ws w b2 1) (fun w t => xg_W D cI cZ bs w t) (xg_A bs)) 0 0 (xg_A bs) := by
  refine xg_met cX7_copyRow 3 none RX7 (by decide) rfl rfl (Nat.le_of_ble_eq_true rfl) ?_
  intro pg en s m below meth c ls S hr hlk hnm hB hl
  have hK := hB.1
  have hG := xg_start hB
  obtain ⟨hx, hb, hml, hown, hts⟩ := id S
  have hl : lv_has ls 3 [(0, .ref (ad b)), (1, .ref (ad b2))] := hl
  obtain ⟨Q, hQ⟩ : ∃ Q, Q = MQ below (va_Qv (fun w : va_W => w[b]? = some (ad b, .inl (cI, n, .inl f)) ∧ w[b2]? = some (ad b2, .inl (cI, n, .inl f)) ∧ xv_S ws w b2 1) (fun w t => xg_W D cI cZ bs w t) (xg_A bs)) ([.ref (ad b), .ref (ad b2)] : List Value).toArray s 0 0 (xg_A bs) := ⟨_, rfl⟩
  rw [← hQ]
  refine lv_iconst (v := 0) hx hb dX7_copyRow_0 (by decide) ?_
  refine lv_istore_n (lv' := [(2, .int 0), (0, .ref (ad b)), (1, .ref (ad b2))]) hx hb dX7_copyRow_1 rfl hl (by decide) rfl (fun ls hl => ?_)
  -- the loop at 2
  have lp2 : ∀ (fu : Nat) (k : Nat), (k ≤ n) → (n + 1 ≤ k + fu) → ∀ y2_2 : Int32, y2_2 = nI k → ∀ z2_hR2_f : Nat → Int32, z2_hR2_f = xw_cp f g k → ∀ (w2 : va_W) (H : Heap) (locs : List Loc), xg_H D bs w2 s.heap H locs → (w2[b]? = some (ad b, .inl (cI, n, .inl f))) → (w2[b2]? = some (ad b2, .inl (cI, n, .inl z2_hR2_f))) → xv_S ws w2 b2 1 → ∀ (ls : Array Slot), lv_has ls 3 [(0, .ref (ad b)), (1, .ref (ad b2)), (2, .int y2_2)] → W pg l en ({ frames := 1, cells := 0, slots := 0, locals := 22 } : Room) s m ([.ref (ad b), .ref (ad b2)] : List Value).toArray below meth c H locs 0 0 Q (F0 m 2 ls []) := by
    intro fu
    induction fu with
    | zero =>
      intro k hk hf
      exact absurd hf (by omega)
    | succ fu ih =>
      intro k hk hf y2_2 ey2_2 z2_hR2_f ez2_hR2_f
      intro w2 H locs hG hR hR2 hSw2
      intro ls hl
      replace ey2_2 := ey2_2.symm; subst ey2_2
      replace ez2_hR2_f := ez2_hR2_f.symm; subst ez2_hR2_f
      refine lv_aload_n hx hb dX7_copyRow_2 rfl (lv_at hl 1 rfl) ?_
      refine lv_ifnull hx hb dX7_copyRow_3 ?_
      refine lv_iload_n hx hb dX7_copyRow_6 rfl (lv_at hl 2 rfl) ?_
      refine lv_aload_n hx hb dX7_copyRow_7 rfl (lv_at hl 1 rfl) ?_
      refine xg_len S hK hG b2 hR2 dX7_copyRow_8 ?_
      refine lv_icmp_ge (tgt := 28) hx hb dX7_copyRow_9 (by decide) (fun c9 => ?_) (fun c9 => ?_)
      · skip
        have hk9 : k = n := by have := xb_le (by omega) hn c9; omega
        subst hk9
        have hG := xb_row (g := f) hG hR2 (fun j hj => if_pos hj)
        obtain ⟨w1, hw1⟩ : ∃ w, w = w2.set b2 (ad b2, .inl (cI, k, .inl f)) := ⟨_, rfl⟩
        rw [← hw1] at hG
        have hs2 : xv_S w2 w1 b2 1 := by rw [hw1]; exact xv_S.set (by omega) (by omega)
        have hR2 : w1[b2]? = some (ad b2, .inl (cI, k, .inl f)) := by rw [hw1]; exact xv_self hR2
        have hR : w1[b]? = some (ad b, .inl (cI, k, .inl f)) := hs2.at hR (by omega)
        have hSw1 : xv_S ws w1 b2 1 := hSw2.trans (hs2.mono (by omega) (by omega))
        rw [hQ]
        exact xg_emv S hr hlk hK hG ⟨hR, hR2, hSw1⟩ dX7_copyRow_28
      · skip
        have hk9 : k < n := xb_lt (by omega) hn c9
        refine lv_aload_n hx hb dX7_copyRow_12 rfl (lv_at hl 1 rfl) ?_
        refine lv_iload_n hx hb dX7_copyRow_13 rfl (lv_at hl 2 rfl) ?_
        refine lv_aload_n hx hb dX7_copyRow_14 rfl (lv_at hl 0 rfl) ?_
        refine lv_iload_n hx hb dX7_copyRow_15 rfl (lv_at hl 2 rfl) ?_
        refine xg_ri (va_runS (As := [.ref (ad b), .int (nI k)]) (rest := [.int (nI k), .ref (ad b2)]) S (mX7_at l D cI cZ bs ad w2 b n f hR (nI k) hn) (va_cwS 2 hts gX7_copyRow_X7_at rfl rfl rfl (by decide +kernel) ⟨Nat.le_of_ble_eq_true rfl, Nat.le_of_ble_eq_true rfl⟩) (xg_preS hK hG) rfl rfl hl.1 rfl (lv_room (Nat.le_of_ble_eq_true rfl)) dX7_copyRow_16 ⟨Nat.zero_le _, Nat.zero_le _⟩) (fun r3 hr3 => ?_)
        replace hr3 := hr3.symm; subst hr3
        refine xg_mv (va_runS (As := [.ref (ad b2), .int (nI k), .int (xb_at n f (nI k))]) (rest := []) S (mX7_put l D cI cZ bs ad w2 b2 n (xw_cp f g k) hR2 (nI k) (xb_at n f (nI k)) hn) (va_cwS 3 hts gX7_copyRow_X7_put rfl rfl rfl (by decide +kernel) ⟨Nat.le_of_ble_eq_true rfl, Nat.le_of_ble_eq_true rfl⟩) (xg_preS hK hG) rfl rfl hl.1 rfl (lv_room (Nat.le_of_ble_eq_true rfl)) dX7_copyRow_19 ⟨Nat.zero_le _, Nat.zero_le _⟩) hG (fun w5 H locs hr4 hG => ?_)
        obtain ⟨hvw5_0, hsw5⟩ := hr4
        obtain ⟨f6, ef6⟩ : ∃ zz : Nat → Int32, xb_pt n (xw_cp f g k) (nI k) (xb_at n f (nI k)) = zz := ⟨_, rfl⟩
        have hR2 : w5[b2]? = some (ad b2, .inl (cI, n, .inl f6)) := by rw [← ef6]; exact hvw5_0
        have hR : w5[b]? = some (ad b, .inl (cI, n, .inl f)) := hsw5.at hR (by omega)
        have hSw5 : xv_S ws w5 b2 1 := hSw2.trans (hsw5.mono (by omega) (by omega))
        obtain ⟨x7, ex7⟩ : ∃ zz : Int32, (nI k) + 1 = zz := ⟨_, rfl⟩
        refine lv_iinc (v := x7) (lv' := [(2, .int x7), (0, .ref (ad b)), (1, .ref (ad b2))]) hx hb dX7_copyRow_22 hl (k := 2) rfl (by rw [← ex7]; rfl) (by decide) rfl (fun ls hl => ?_)
        refine lv_goto (tgt := 2) hx hb dX7_copyRow_25 (by decide) ?_
        exact ih (k + 1) (by omega) (by omega) x7 (by subst ef6 ex7; exact nI_1 k) f6 (by subst ef6 ex7; exact xw_cpS hk9 hn) w5 _ _ hG hR hR2 hSw5 ls (lv_sub hl [1, 2, 0] rfl)
  exact lp2 (n + 1) 0 (by omega) (by omega) 0 (by skip; rfl) g xw_cp0.symm ws _ _ hG hR hR2 xv_S.rf ls (lv_sub hl [1, 2, 0] rfl)
set_option maxHeartbeats 4000000 in
set_option maxRecDepth 100000 in
theorem mX7_drawAfter (l : Launch) (D : va_G) (cI cZ : ClassId) (bs : Nat) (ad : Nat → Nat) (ws : va_W) (x : Int32) : Met l yX7_drawAfter wsX7_drawAfter ({ frames := 0, cells := 0, slots := 0, locals := 0 } : Room) (va_Pc [.int x] (fun U => xg_W D cI cZ bs ws U)) (xg_Ri (fun r : Int32 => r = xw_drw x)) 0 0 xg_F := by
  refine xg_met cX7_drawAfter 1 (some .int) RX7 (by decide) rfl rfl (Nat.le_of_ble_eq_true rfl) ?_
  intro pg en s m below meth c ls S hr hlk hnm hB hl
  have hK := hB.1
  have hG := xg_start hB
  obtain ⟨hx, hb, hml, hown, hts⟩ := id S
  have hl : lv_has ls 1 [(0, .int x)] := hl
  obtain ⟨Q, hQ⟩ : ∃ Q, Q = MQ below (xg_Ri (fun r : Int32 => r = xw_drw x)) ([.int x] : List Value).toArray s 0 0 xg_F := ⟨_, rfl⟩
  rw [← hQ]
  have k0 := hts (.constant RX7 284 (65537)) (List.mem_of_getElem? (i := 1) rfl)
  refine lv_bipush (v := 75) hx hb dX7_drawAfter_0 (by decide) ?_
  refine lv_iload_n hx hb dX7_drawAfter_2 rfl (lv_at hl 0 rfl) ?_
  refine lv_imul hx hb dX7_drawAfter_3 ?_
  refine lv_bipush (v := 74) hx hb dX7_drawAfter_4 (by decide) ?_
  refine lv_iadd hx hb dX7_drawAfter_6 ?_
  refine lv_ldcw (v := 65537) hx hb hown k0 dX7_drawAfter_7 ?_
  refine lv_irem hx hb dX7_drawAfter_10 (by decide) ?_
  rw [hQ]
  exact xg_eri S hr hlk (by skip; rfl) dX7_drawAfter_11
set_option maxHeartbeats 4000000 in
set_option maxRecDepth 100000 in
theorem mJ6_bitCount_0f7a4 (l : Launch) (D : va_G) (cI cZ : ClassId) (bs : Nat) (ad : Nat → Nat) (ws : va_W) (x : Int32) : Met l yJ6_bitCount_0f7a4 wsJ6_bitCount_0f7a4 ({ frames := 0, cells := 0, slots := 0, locals := 0 } : Room) (va_Pc [.int x] (fun U => xg_W D cI cZ bs ws U)) (xg_Ri (fun r : Int32 => r = xw_bc x)) 0 0 xg_F := by
  refine xg_met cJ6_bitCount_0f7a4 1 (some .int) RJ6 (by decide) rfl rfl (Nat.le_of_ble_eq_true rfl) ?_
  intro pg en s m below meth c ls S hr hlk hnm hB hl
  have hK := hB.1
  have hG := xg_start hB
  obtain ⟨hx, hb, hml, hown, hts⟩ := id S
  have hl : lv_has ls 1 [(0, .int x)] := hl
  obtain ⟨Q, hQ⟩ : ∃ Q, Q = MQ below (xg_Ri (fun r : Int32 => r = xw_bc x)) ([.int x] : List Value).toArray s 0 0 xg_F := ⟨_, rfl⟩
  rw [← hQ]
  have k0 := hts (.constant RJ6 265 (1431655765)) (List.mem_of_getElem? (i := 1) rfl)
  have k1 := hts (.constant RJ6 266 (858993459)) (List.mem_of_getElem? (i := 2) rfl)
  have k2 := hts (.constant RJ6 267 (252645135)) (List.mem_of_getElem? (i := 3) rfl)
  refine lv_iload_n hx hb dJ6_bitCount_0f7a4_0 rfl (lv_at hl 0 rfl) ?_
  refine lv_iload_n hx hb dJ6_bitCount_0f7a4_1 rfl (lv_at hl 0 rfl) ?_
  refine lv_iconst (v := 1) hx hb dJ6_bitCount_0f7a4_2 (by decide) ?_
  refine lv_iushr (v := (x.toUInt32 >>> ((1 : Int32).toUInt32 &&& Int32.toUInt32 31)).toInt32) hx hb dJ6_bitCount_0f7a4_3 rfl ?_
  refine lv_ldcw (v := 1431655765) hx hb hown k0 dJ6_bitCount_0f7a4_4 ?_
  refine lv_iand hx hb dJ6_bitCount_0f7a4_7 ?_
  refine lv_isub hx hb dJ6_bitCount_0f7a4_8 ?_
  refine lv_topi (fun x1 ex1 => ?_)
  replace ex1 := ex1.symm
  refine lv_istore_n (lv' := [(0, .int x1)]) hx hb dJ6_bitCount_0f7a4_9 rfl hl (by decide) rfl (fun ls hl => ?_)
  refine lv_iload_n hx hb dJ6_bitCount_0f7a4_10 rfl (lv_at hl 0 rfl) ?_
  refine lv_ldcw (v := 858993459) hx hb hown k1 dJ6_bitCount_0f7a4_11 ?_
  refine lv_iand hx hb dJ6_bitCount_0f7a4_14 ?_
  refine lv_iload_n hx hb dJ6_bitCount_0f7a4_15 rfl (lv_at hl 0 rfl) ?_
  refine lv_iconst (v := 2) hx hb dJ6_bitCount_0f7a4_16 (by decide) ?_
  refine lv_iushr (v := (x1.toUInt32 >>> ((2 : Int32).toUInt32 &&& Int32.toUInt32 31)).toInt32) hx hb dJ6_bitCount_0f7a4_17 rfl ?_
  refine lv_ldcw (v := 858993459) hx hb hown k1 dJ6_bitCount_0f7a4_18 ?_
  refine lv_iand hx hb dJ6_bitCount_0f7a4_21 ?_
  refine lv_iadd hx hb dJ6_bitCount_0f7a4_22 ?_
  refine lv_topi (fun x2 ex2 => ?_)
  replace ex2 := ex2.symm
  refine lv_istore_n (lv' := [(0, .int x2)]) hx hb dJ6_bitCount_0f7a4_23 rfl hl (by decide) rfl (fun ls hl => ?_)
  refine lv_iload_n hx hb dJ6_bitCount_0f7a4_24 rfl (lv_at hl 0 rfl) ?_
  refine lv_iload_n hx hb dJ6_bitCount_0f7a4_25 rfl (lv_at hl 0 rfl) ?_
  refine lv_iconst (v := 4) hx hb dJ6_bitCount_0f7a4_26 (by decide) ?_
  refine lv_iushr (v := (x2.toUInt32 >>> ((4 : Int32).toUInt32 &&& Int32.toUInt32 31)).toInt32) hx hb dJ6_bitCount_0f7a4_27 rfl ?_
  refine lv_iadd hx hb dJ6_bitCount_0f7a4_28 ?_
  refine lv_ldcw (v := 252645135) hx hb hown k2 dJ6_bitCount_0f7a4_29 ?_
  refine lv_iand hx hb dJ6_bitCount_0f7a4_32 ?_
  refine lv_topi (fun x3 ex3 => ?_)
  replace ex3 := ex3.symm
  refine lv_istore_n (lv' := [(0, .int x3)]) hx hb dJ6_bitCount_0f7a4_33 rfl hl (by decide) rfl (fun ls hl => ?_)
  refine lv_iload_n hx hb dJ6_bitCount_0f7a4_34 rfl (lv_at hl 0 rfl) ?_
  refine lv_iload_n hx hb dJ6_bitCount_0f7a4_35 rfl (lv_at hl 0 rfl) ?_
  refine lv_bipush (v := 8) hx hb dJ6_bitCount_0f7a4_36 (by decide) ?_
  refine lv_iushr (v := (x3.toUInt32 >>> ((8 : Int32).toUInt32 &&& Int32.toUInt32 31)).toInt32) hx hb dJ6_bitCount_0f7a4_38 rfl ?_
  refine lv_iadd hx hb dJ6_bitCount_0f7a4_39 ?_
  refine lv_topi (fun x4 ex4 => ?_)
  replace ex4 := ex4.symm
  refine lv_istore_n (lv' := [(0, .int x4)]) hx hb dJ6_bitCount_0f7a4_40 rfl hl (by decide) rfl (fun ls hl => ?_)
  refine lv_iload_n hx hb dJ6_bitCount_0f7a4_41 rfl (lv_at hl 0 rfl) ?_
  refine lv_iload_n hx hb dJ6_bitCount_0f7a4_42 rfl (lv_at hl 0 rfl) ?_
  refine lv_bipush (v := 16) hx hb dJ6_bitCount_0f7a4_43 (by decide) ?_
  refine lv_iushr (v := (x4.toUInt32 >>> ((16 : Int32).toUInt32 &&& Int32.toUInt32 31)).toInt32) hx hb dJ6_bitCount_0f7a4_45 rfl ?_
  refine lv_iadd hx hb dJ6_bitCount_0f7a4_46 ?_
  refine lv_topi (fun x5 ex5 => ?_)
  replace ex5 := ex5.symm
  refine lv_istore_n (lv' := [(0, .int x5)]) hx hb dJ6_bitCount_0f7a4_47 rfl hl (by decide) rfl (fun ls hl => ?_)
  refine lv_iload_n hx hb dJ6_bitCount_0f7a4_48 rfl (lv_at hl 0 rfl) ?_
  refine lv_bipush (v := 63) hx hb dJ6_bitCount_0f7a4_49 (by decide) ?_
  refine lv_iand hx hb dJ6_bitCount_0f7a4_51 ?_
  rw [hQ]
  exact xg_eri S hr hlk (by subst ex1 ex2 ex3 ex4 ex5; rfl) dJ6_bitCount_0f7a4_52
