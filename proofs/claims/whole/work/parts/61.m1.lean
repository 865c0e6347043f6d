set_option maxHeartbeats 4000000 in
set_option maxRecDepth 100000 in
theorem mX8_in (l : Launch) (D : va_G) (cI cZ : ClassId) (bs : Nat) (ad : Nat → Nat) (ws : va_W) (x : Int64) (lo : Int64) (hi : Int64) : Met l yX8_in wsX8_in ({ frames := 0, cells := 0, slots := 0, locals := 0 } : Room) (va_Pc [.long x, .long lo, .long hi] (fun U => xg_W D cI cZ bs ws U)) (xg_Ri (fun r : Int32 => r = xb_i (xw_inL x lo hi))) 0 0 xg_F := by
  refine xg_met cX8_in 6 (some .boolean) RX8 (by decide) rfl rfl (Nat.le_of_ble_eq_true rfl) ?_
  intro pg en s m below meth c ls S hr hlk hnm hB hl
  have hK := hB.1
  have hG := xg_start hB
  obtain ⟨hx, hb, hml, hown, hts⟩ := id S
  have hl : lv_has ls 6 [(0, .long x), (2, .long lo), (4, .long hi)] := hl
  obtain ⟨Q, hQ⟩ : ∃ Q, Q = MQ below (xg_Ri (fun r : Int32 => r = xb_i (xw_inL x lo hi))) ([.long x, .long lo, .long hi] : List Value).toArray s 0 0 xg_F := ⟨_, rfl⟩
  rw [← hQ]
  refine lv_lload_n hx hb dX8_in_0 rfl (lv_at hl 0 rfl) ?_
  refine lv_lload_n hx hb dX8_in_1 rfl (lv_at hl 1 rfl) ?_
  refine xb_lcmp S dX8_in_2 ?_
  refine xb_llt (tgt := 17) S dX8_in_3 (by decide) (fun c3 => ?_) (fun c3 => ?_)
  · skip
    refine lv_iconst (v := 0) hx hb dX8_in_17 (by decide) ?_
    rw [hQ]
    exact xg_erz S hr hlk rfl (by skip; simp [xw_inL, xb_i, c3]) dX8_in_18
  · skip
    refine lv_lload_n hx hb dX8_in_6 rfl (lv_at hl 0 rfl) ?_
    refine lv_lload hx hb dX8_in_7 (lv_at hl 2 rfl) ?_
    refine xb_lcmp S dX8_in_9 ?_
    refine xb_lgt (tgt := 17) S dX8_in_10 (by decide) (fun c10 => ?_) (fun c10 => ?_)
    · skip
      refine lv_iconst (v := 0) hx hb dX8_in_17 (by decide) ?_
      rw [hQ]
      exact xg_erz S hr hlk rfl (by skip; simp [xw_inL, xb_i, c3, c10]) dX8_in_18
    · skip
      refine lv_iconst (v := 1) hx hb dX8_in_13 (by decide) ?_
      refine lv_goto (tgt := 18) hx hb dX8_in_14 (by decide) ?_
      rw [hQ]
      exact xg_erz S hr hlk rfl (by skip; simp [xw_inL, xb_i, c3, c10]) dX8_in_18
set_option maxHeartbeats 4000000 in
set_option maxRecDepth 100000 in
theorem mX8_ones (l : Launch) (D : va_G) (cI cZ : ClassId) (bs : Nat) (ad : Nat → Nat) (ws : va_W) (x : Int32) (h6 : em_6 x) : Met l yX8_ones wsX8_ones ({ frames := 0, cells := 0, slots := 0, locals := 0 } : Room) (va_Pc [.int x] (fun U => xg_W D cI cZ bs ws U)) (xg_Ri (fun r : Int32 => r = em_one x)) 0 0 xg_F := by
  refine xg_met cX8_ones 3 (some .int) RX8 (by decide) rfl rfl (Nat.le_of_ble_eq_true rfl) ?_
  intro pg en s m below meth c ls S hr hlk hnm hB hl
  have hK := hB.1
  have hG := xg_start hB
  obtain ⟨hx, hb, hml, hown, hts⟩ := id S
  have hl : lv_has ls 3 [(0, .int x)] := hl
  obtain ⟨Q, hQ⟩ : ∃ Q, Q = MQ below (xg_Ri (fun r : Int32 => r = em_one x)) ([.int x] : List Value).toArray s 0 0 xg_F := ⟨_, rfl⟩
  rw [← hQ]
  refine lv_iconst (v := 0) hx hb dX8_ones_0 (by decide) ?_
  refine lv_istore_n (lv' := [(1, .int 0), (0, .int x)]) hx hb dX8_ones_1 rfl hl (by decide) rfl (fun ls hl => ?_)
  refine lv_iload_n hx hb dX8_ones_2 rfl (lv_at hl 1 rfl) ?_
  refine lv_istore_n (lv' := [(2, .int x), (1, .int 0), (0, .int x)]) hx hb dX8_ones_3 rfl hl (by decide) rfl (fun ls hl => ?_)
  -- the loop at 4
  have lp4 : ∀ (fu : Nat) (k : Nat), (k ≤ 6) → (7 ≤ k + fu) → (em_onk 7 x 0 = em_onk (7 - k) (em_lft x k) k) → ∀ y4_1 : Int32, y4_1 = nI k → ∀ y4_2 : Int32, y4_2 = em_lft x k → ∀ (ls : Array Slot), lv_has ls 3 [(0, .int x), (1, .int y4_1), (2, .int y4_2)] → W pg l en ({ frames := 0, cells := 0, slots := 0, locals := 0 } : Room) s m ([.int x] : List Value).toArray below meth c s.heap [] 0 0 Q (F0 m 4 ls []) := by
    intro fu
    induction fu with
    | zero =>
      intro k hk hf hr2
      exact absurd hf (by omega)
    | succ fu ih =>
      intro k hk hf hr2 y4_1 ey4_1 y4_2 ey4_2
      intro ls hl
      replace ey4_1 := ey4_1.symm; subst ey4_1
      replace ey4_2 := ey4_2.symm; subst ey4_2
      refine lv_iload_n hx hb dX8_ones_4 rfl (lv_at hl 2 rfl) ?_
      refine lv_if_eq (tgt := 20) hx hb dX8_ones_5 (by decide) (fun c5 => ?_) (fun c5 => ?_)
      · skip
        refine lv_iload_n hx hb dX8_ones_20 rfl (lv_at hl 1 rfl) ?_
        rw [hQ]
        exact xg_eri S hr hlk (by skip; unfold em_one; rw [hr2, show 7 - k = (6 - k) + 1 by omega, em_onk, if_pos c5]) dX8_ones_21
      · skip
        have hk9 : k < 6 := by rcases Nat.lt_or_ge k 6 with q | q; exact q; exact absurd (by rw [show k = 6 by omega]; exact em_lft6 h6) c5
        obtain ⟨x1, ex1⟩ : ∃ zz : Int32, ((nI k) + 1) = zz := ⟨_, rfl⟩
        refine lv_iinc (v := x1) (lv' := [(1, .int x1), (0, .int x), (2, .int (em_lft x k))]) hx hb dX8_ones_8 hl (k := 1) rfl (by rw [← ex1]; rfl) (by decide) rfl (fun ls hl => ?_)
        refine lv_iload_n hx hb dX8_ones_11 rfl (lv_at hl 2 rfl) ?_
        refine lv_iload_n hx hb dX8_ones_12 rfl (lv_at hl 2 rfl) ?_
        refine lv_iconst (v := 1) hx hb dX8_ones_13 (by decide) ?_
        refine lv_isub hx hb dX8_ones_14 ?_
        refine lv_iand hx hb dX8_ones_15 ?_
        refine lv_topi (fun x2 ex2 => ?_)
        replace ex2 := ex2.symm
        refine lv_istore_n (lv' := [(2, .int x2), (1, .int x1), (0, .int x)]) hx hb dX8_ones_16 rfl hl (by decide) rfl (fun ls hl => ?_)
        refine lv_goto (tgt := 4) hx hb dX8_ones_17 (by decide) ?_
        exact ih (k + 1) (by omega) (by omega) (by subst ex1 ex2; rw [hr2, show 7 - k = (7 - (k + 1)) + 1 by omega, em_onk, if_neg c5]; rfl) x1 (by subst ex1 ex2; exact nI_1 k) x2 (by subst ex1 ex2; rfl) ls (lv_sub hl [2, 1, 0] rfl)
  exact lp4 7 0 (by omega) (by omega) rfl 0 (by skip; rfl) x (by skip; rfl) ls (lv_sub hl [2, 1, 0] rfl)
set_option maxHeartbeats 4000000 in
set_option maxRecDepth 100000 in
theorem mX8_most (l : Launch) (D : va_G) (cI cZ : ClassId) (bs : Nat) (ad : Nat → Nat) (ws : va_W) (x : Int32) (y : Int32) : Met l yX8_most wsX8_most ({ frames := 0, cells := 0, slots := 0, locals := 0 } : Room) (va_Pc [.int x, .int y] (fun U => xg_W D cI cZ bs ws U)) (xg_Ri (fun r : Int32 => r = em_mst x y)) 0 0 xg_F := by
  refine xg_met cX8_most 2 (some .int) RX8 (by decide) rfl rfl (Nat.le_of_ble_eq_true rfl) ?_
  intro pg en s m below meth c ls S hr hlk hnm hB hl
  have hK := hB.1
  have hG := xg_start hB
  obtain ⟨hx, hb, hml, hown, hts⟩ := id S
  have hl : lv_has ls 2 [(0, .int x), (1, .int y)] := hl
  obtain ⟨Q, hQ⟩ : ∃ Q, Q = MQ below (xg_Ri (fun r : Int32 => r = em_mst x y)) ([.int x, .int y] : List Value).toArray s 0 0 xg_F := ⟨_, rfl⟩
  rw [← hQ]
  refine lv_iload_n hx hb dX8_most_0 rfl (lv_at hl 0 rfl) ?_
  refine lv_iload_n hx hb dX8_most_1 rfl (lv_at hl 1 rfl) ?_
  refine lv_icmp_le (tgt := 9) hx hb dX8_most_2 (by decide) (fun c2 => ?_) (fun c2 => ?_)
  · skip
    refine lv_iload_n hx hb dX8_most_9 rfl (lv_at hl 1 rfl) ?_
    rw [hQ]
    exact xg_eri S hr hlk (by skip; simp only [em_mst, c2, if_true, if_false, Bool.false_eq_true]) dX8_most_10
  · skip
    refine lv_iload_n hx hb dX8_most_5 rfl (lv_at hl 0 rfl) ?_
    refine lv_goto (tgt := 10) hx hb dX8_most_6 (by decide) ?_
    rw [hQ]
    exact xg_eri S hr hlk (by skip; simp only [em_mst, c2, if_true, if_false, Bool.false_eq_true]) dX8_most_10
set_option maxHeartbeats 4000000 in
set_option maxRecDepth 100000 in
theorem mX8_isNumber (l : Launch) (D : va_G) (cI cZ : ClassId) (bs : Nat) (ad : Nat → Nat) (ws : va_W) (p : Int32) : Met l yX8_isNumber wsX8_isNumber ({ frames := 1, cells := 0, slots := 0, locals := 25 } : Room) (va_Pc [.int p] (fun U => xg_W D cI cZ bs ws U)) (xg_Ri (fun r : Int32 => r = xb_i (xw_in p 0 5))) 0 0 xg_F := by
  refine xg_met cX8_isNumber 1 (some .boolean) RX8 (by decide) rfl rfl (Nat.le_of_ble_eq_true rfl) ?_
  intro pg en s m below meth c ls S hr hlk hnm hB hl
  have hK := hB.1
  have hG := xg_start hB
  obtain ⟨hx, hb, hml, hown, hts⟩ := id S
  have hl : lv_has ls 1 [(0, .int p)] := hl
  obtain ⟨Q, hQ⟩ : ∃ Q, Q = MQ below (xg_Ri (fun r : Int32 => r = xb_i (xw_in p 0 5))) ([.int p] : List Value).toArray s 0 0 xg_F := ⟨_, rfl⟩
  rw [← hQ]
  have k0 := hts (.constantLong RX8 99 (5)) (List.mem_of_getElem? (i := 1) rfl)
  refine lv_iload_n hx hb dX8_isNumber_0 rfl (lv_at hl 0 rfl) ?_
  refine lv_i2l (v := p.toInt64) hx hb dX8_isNumber_1 rfl ?_
  refine lv_lconst (v := 0) hx hb dX8_isNumber_2 (by decide) ?_
  refine lv_ldc2 (v := 5) hx hb hown k0 dX8_isNumber_3 ?_
  refine xg_ri (va_runS (As := [.long p.toInt64, .long 0, .long 5]) (rest := []) S (mX8_in l D cI cZ bs ad ws p.toInt64 0 5) (va_cwS 3 hts gX8_isNumber_X8_in rfl rfl rfl (by decide +kernel) ⟨Nat.le_of_ble_eq_true rfl, Nat.le_of_ble_eq_true rfl⟩) (xg_preS hK hG) rfl rfl hl.1 rfl (lv_room (Nat.le_of_ble_eq_true rfl)) dX8_isNumber_6 ⟨Nat.zero_le _, Nat.zero_le _⟩) (fun r1 hr1 => ?_)
  replace hr1 := hr1.symm; subst hr1
  rw [xw_inL_lit p 0 5 0 5 (by decide) (by decide)]
  rw [hQ]
  exact xg_erz S hr hlk (by cases (xw_in p 0 5) <;> rfl) (by skip; rfl) dX8_isNumber_9
set_option maxHeartbeats 4000000 in
set_option maxRecDepth 100000 in
theorem mX8_isNine (l : Launch) (D : va_G) (cI cZ : ClassId) (bs : Nat) (ad : Nat → Nat) (ws : va_W) (p : Int32) : Met l yX8_isNine wsX8_isNine ({ frames := 1, cells := 0, slots := 0, locals := 25 } : Room) (va_Pc [.int p] (fun U => xg_W D cI cZ bs ws U)) (xg_Ri (fun r : Int32 => r = xb_i (xw_in p 0 9))) 0 0 xg_F := by
  refine xg_met cX8_isNine 1 (some .boolean) RX8 (by decide) rfl rfl (Nat.le_of_ble_eq_true rfl) ?_
  intro pg en s m below meth c ls S hr hlk hnm hB hl
  have hK := hB.1
  have hG := xg_start hB
  obtain ⟨hx, hb, hml, hown, hts⟩ := id S
  have hl : lv_has ls 1 [(0, .int p)] := hl
  obtain ⟨Q, hQ⟩ : ∃ Q, Q = MQ below (xg_Ri (fun r : Int32 => r = xb_i (xw_in p 0 9))) ([.int p] : List Value).toArray s 0 0 xg_F := ⟨_, rfl⟩
  rw [← hQ]
  have k0 := hts (.constantLong RX8 112 (9)) (List.mem_of_getElem? (i := 1) rfl)
  refine lv_iload_n hx hb dX8_isNine_0 rfl (lv_at hl 0 rfl) ?_
  refine lv_i2l (v := p.toInt64) hx hb dX8_isNine_1 rfl ?_
  refine lv_lconst (v := 0) hx hb dX8_isNine_2 (by decide) ?_
  refine lv_ldc2 (v := 9) hx hb hown k0 dX8_isNine_3 ?_
  refine xg_ri (va_runS (As := [.long p.toInt64, .long 0, .long 9]) (rest := []) S (mX8_in l D cI cZ bs ad ws p.toInt64 0 9) (va_cwS 3 hts gX8_isNine_X8_in rfl rfl rfl (by decide +kernel) ⟨Nat.le_of_ble_eq_true rfl, Nat.le_of_ble_eq_true rfl⟩) (xg_preS hK hG) rfl rfl hl.1 rfl (lv_room (Nat.le_of_ble_eq_true rfl)) dX8_isNine_6 ⟨Nat.zero_le _, Nat.zero_le _⟩) (fun r1 hr1 => ?_)
  replace hr1 := hr1.symm; subst hr1
  rw [xw_inL_lit p 0 9 0 9 (by decide) (by decide)]
  rw [hQ]
  exact xg_erz S hr hlk (by cases (xw_in p 0 9) <;> rfl) (by skip; rfl) dX8_isNine_9
set_option maxHeartbeats 4000000 in
set_option maxRecDepth 100000 in
theorem mX8_isHeight (l : Launch) (D : va_G) (cI cZ : ClassId) (bs : Nat) (ad : Nat → Nat) (ws : va_W) (p : Int32) : Met l yX8_isHeight wsX8_isHeight ({ frames := 1, cells := 0, slots := 0, locals := 25 } : Room) (va_Pc [.int p] (fun U => xg_W D cI cZ bs ws U)) (xg_Ri (fun r : Int32 => r = xb_i (xw_in p 1 15))) 0 0 xg_F := by
  refine xg_met cX8_isHeight 1 (some .boolean) RX8 (by decide) rfl rfl (Nat.le_of_ble_eq_true rfl) ?_
  intro pg en s m below meth c ls S hr hlk hnm hB hl
  have hK := hB.1
  have hG := xg_start hB
  obtain ⟨hx, hb, hml, hown, hts⟩ := id S
  have hl : lv_has ls 1 [(0, .int p)] := hl
  obtain ⟨Q, hQ⟩ : ∃ Q, Q = MQ below (xg_Ri (fun r : Int32 => r = xb_i (xw_in p 1 15))) ([.int p] : List Value).toArray s 0 0 xg_F := ⟨_, rfl⟩
  rw [← hQ]
  have k0 := hts (.constantLong RX8 114 (15)) (List.mem_of_getElem? (i := 1) rfl)
  refine lv_iload_n hx hb dX8_isHeight_0 rfl (lv_at hl 0 rfl) ?_
  refine lv_i2l (v := p.toInt64) hx hb dX8_isHeight_1 rfl ?_
  refine lv_lconst (v := 1) hx hb dX8_isHeight_2 (by decide) ?_
  refine lv_ldc2 (v := 15) hx hb hown k0 dX8_isHeight_3 ?_
  refine xg_ri (va_runS (As := [.long p.toInt64, .long 1, .long 15]) (rest := []) S (mX8_in l D cI cZ bs ad ws p.toInt64 1 15) (va_cwS 3 hts gX8_isHeight_X8_in rfl rfl rfl (by decide +kernel) ⟨Nat.le_of_ble_eq_true rfl, Nat.le_of_ble_eq_true rfl⟩) (xg_preS hK hG) rfl rfl hl.1 rfl (lv_room (Nat.le_of_ble_eq_true rfl)) dX8_isHeight_6 ⟨Nat.zero_le _, Nat.zero_le _⟩) (fun r1 hr1 => ?_)
  replace hr1 := hr1.symm; subst hr1
  rw [xw_inL_lit p 1 15 1 15 (by decide) (by decide)]
  rw [hQ]
  exact xg_erz S hr hlk (by cases (xw_in p 1 15) <;> rfl) (by skip; rfl) dX8_isHeight_9
set_option maxHeartbeats 4000000 in
set_option maxRecDepth 100000 in
theorem mX8_isThere (l : Launch) (D : va_G) (cI cZ : ClassId) (bs : Nat) (ad : Nat → Nat) (ws : va_W) (b : Nat) (A : Nat → Nat → Int32) (I : Nat → Int32) (L : Int64) (hM : xv_M cI cZ ad ws b A I L) (p : Int32) : Met l yX8_isThere wsX8_isThere ({ frames := 2, cells := 0, slots := 0, locals := 45 } : Room) (va_Pc [.ref (ad b), .int p] (fun U => xg_W D cI cZ bs ws U)) (xg_Ri (fun r : Int32 => r = xb_i (em_isT I p))) 0 0 xg_F := by
  refine xg_met cX8_isThere 2 (some .boolean) RX8 (by decide) rfl rfl (Nat.le_of_ble_eq_true rfl) ?_
  intro pg en s m below meth c ls S hr hlk hnm hB hl
  have hK := hB.1
  have hG := xg_start hB
  obtain ⟨hx, hb, hml, hown, hts⟩ := id S
  have hl : lv_has ls 2 [(0, .ref (ad b)), (1, .int p)] := hl
  obtain ⟨Q, hQ⟩ : ∃ Q, Q = MQ below (xg_Ri (fun r : Int32 => r = xb_i (em_isT I p))) ([.ref (ad b), .int p] : List Value).toArray s 0 0 xg_F := ⟨_, rfl⟩
  rw [← hQ]
  have k0 := hts (.fieldLink RX8 109 "DareBridgeModel" "people" "I") (List.mem_of_getElem? (i := 1) rfl)
  refine lv_iload_n hx hb dX8_isThere_0 rfl (lv_at hl 1 rfl) ?_
  refine xg_ri (va_runS (As := [.int p]) (rest := []) S (mX8_isNumber l D cI cZ bs ad ws p) (va_cwS 1 hts gX8_isThere_X8_isNumber rfl rfl rfl (by decide +kernel) ⟨Nat.le_of_ble_eq_true rfl, Nat.le_of_ble_eq_true rfl⟩) (xg_preS hK hG) rfl rfl hl.1 rfl (lv_room (Nat.le_of_ble_eq_true rfl)) dX8_isThere_1 ⟨Nat.zero_le _, Nat.zero_le _⟩) (fun r1 hr1 => ?_)
  replace hr1 := hr1.symm; subst hr1
  refine xb_ifeq (tgt := 23) S dX8_isThere_4 (by decide) (fun c4 => ?_) (fun c4 => ?_)
  · skip
    refine lv_iconst (v := 0) hx hb dX8_isThere_23 (by decide) ?_
    rw [hQ]
    exact xg_erz S hr hlk rfl (by skip; simp [em_isT, xb_i, c4]) dX8_isThere_24
  · skip
    refine lv_aload_n hx hb dX8_isThere_7 rfl (lv_at hl 0 rfl) ?_
    refine xg_get (C := RX8) (T := TX8) (N := 46) S hK hG (fun w h => List.mem_cons_of_mem _ (List.mem_append_right _ (h))) b hM.1 rfl 0 (by decide) k0 (fun _ h9 => h9) rfl dX8_isThere_8 ?_
    refine lv_iload_n hx hb dX8_isThere_11 rfl (lv_at hl 1 rfl) ?_
    refine lv_ishr hx hb dX8_isThere_12 ?_
    refine lv_iconst (v := 1) hx hb dX8_isThere_13 (by decide) ?_
    refine lv_iand hx hb dX8_isThere_14 ?_
    refine lv_iconst (v := 1) hx hb dX8_isThere_15 (by decide) ?_
    refine lv_icmp_ne (tgt := 23) hx hb dX8_isThere_16 (by decide) (fun c16 => ?_) (fun c16 => ?_)
    · skip
      refine lv_iconst (v := 0) hx hb dX8_isThere_23 (by decide) ?_
      rw [hQ]
      exact xg_erz S hr hlk rfl (by skip; simp [em_isT, xb_i, c4, c16]) dX8_isThere_24
    · skip
      refine lv_iconst (v := 1) hx hb dX8_isThere_19 (by decide) ?_
      refine lv_goto (tgt := 24) hx hb dX8_isThere_20 (by decide) ?_
      rw [hQ]
      exact xg_erz S hr hlk rfl (by skip; simp [em_isT, xb_i, c4, c16]) dX8_isThere_24
set_option maxHeartbeats 4000000 in
set_option maxRecDepth 100000 in
theorem mX8_person (l : Launch) (D : va_G) (cI cZ : ClassId) (bs : Nat) (ad : Nat → Nat) (ws : va_W) (b : Nat) (A : Nat → Nat → Int32) (I : Nat → Int32) (L : Int64) (hM : xv_M cI cZ ad ws b A I L) (p : Int32) (s1 : Int32) (f1 : Int32) (q1 : Int32) (w1 : Int32) (h6 : em_6 (I 0)) : Met l yX8_person wsX8_person ({ frames := 2, cells := 0, slots := 0, locals := 45 } : Room) (va_Pc [.ref (ad b), .int p, .int s1, .int f1, .int q1, .int w1] (fun U => xg_W D cI cZ bs ws U)) (va_Qi (fun (r : Int32) (w : va_W) => r = em_perR I p s1 f1 q1 ∧ xv_M cI cZ ad w b (em_perT A I p s1 f1 q1 w1) (em_perI I p s1 f1 q1) L ∧ xv_S ws w b 24) (fun w t => xg_W D cI cZ bs w t) (xg_A bs)) 0 0 (xg_A bs) := by
  refine xg_met cX8_person 6 (some .int) RX8 (by decide) rfl rfl (Nat.le_of_ble_eq_true rfl) ?_
  intro pg en s m below meth c ls S hr hlk hnm hB hl
  have hK := hB.1
  have hG := xg_start hB
  obtain ⟨hx, hb, hml, hown, hts⟩ := id S
  have hl : lv_has ls 6 [(0, .ref (ad b)), (1, .int p), (2, .int s1), (3, .int f1), (4, .int q1), (5, .int w1)] := hl
  obtain ⟨Q, hQ⟩ : ∃ Q, Q = MQ below (va_Qi (fun (r : Int32) (w : va_W) => r = em_perR I p s1 f1 q1 ∧ xv_M cI cZ ad w b (em_perT A I p s1 f1 q1 w1) (em_perI I p s1 f1 q1) L ∧ xv_S ws w b 24) (fun w t => xg_W D cI cZ bs w t) (xg_A bs)) ([.ref (ad b), .int p, .int s1, .int f1, .int q1, .int w1] : List Value).toArray s 0 0 (xg_A bs) := ⟨_, rfl⟩
  rw [← hQ]
  have k0 := hts (.fieldLink RX8 7 "DareBridgeModel" "skill" "[I") (List.mem_of_getElem? (i := 1) rfl)
  have k1 := hts (.fieldLink RX8 13 "DareBridgeModel" "fear" "[I") (List.mem_of_getElem? (i := 2) rfl)
  have k2 := hts (.fieldLink RX8 16 "DareBridgeModel" "pride" "[I") (List.mem_of_getElem? (i := 3) rfl)
  have k3 := hts (.fieldLink RX8 19 "DareBridgeModel" "wish" "[I") (List.mem_of_getElem? (i := 4) rfl)
  have k4 := hts (.fieldLink RX8 22 "DareBridgeModel" "high" "[I") (List.mem_of_getElem? (i := 5) rfl)
  have k5 := hts (.fieldLink RX8 84 "DareBridgeModel" "start" "I") (List.mem_of_getElem? (i := 6) rfl)
  have k6 := hts (.fieldLink RX8 25 "DareBridgeModel" "fame" "[I") (List.mem_of_getElem? (i := 7) rfl)
  have k7 := hts (.fieldLink RX8 28 "DareBridgeModel" "nights" "[I") (List.mem_of_getElem? (i := 8) rfl)
  have k8 := hts (.fieldLink RX8 109 "DareBridgeModel" "people" "I") (List.mem_of_getElem? (i := 9) rfl)
  refine lv_iload_n hx hb dX8_person_0 rfl (lv_at hl 1 rfl) ?_
  refine xg_ri (va_runS (As := [.int p]) (rest := []) S (mX8_isNumber l D cI cZ bs ad ws p) (va_cwS 1 hts gX8_person_X8_isNumber rfl rfl rfl (by decide +kernel) ⟨Nat.le_of_ble_eq_true rfl, Nat.le_of_ble_eq_true rfl⟩) (xg_preS hK hG) rfl rfl hl.1 rfl (lv_room (Nat.le_of_ble_eq_true rfl)) dX8_person_1 ⟨Nat.zero_le _, Nat.zero_le _⟩) (fun r1 hr1 => ?_)
  replace hr1 := hr1.symm; subst hr1
  refine xb_ifne (tgt := 9) S dX8_person_4 (by decide) (fun c4 => ?_) (fun c4 => ?_)
  · skip
    have hp := em_in6 c4
    refine lv_iload_n hx hb dX8_person_9 rfl (lv_at hl 2 rfl) ?_
    refine xg_ri (va_runS (As := [.int s1]) (rest := []) S (mX8_isNine l D cI cZ bs ad ws s1) (va_cwS 1 hts gX8_person_X8_isNine rfl rfl rfl (by decide +kernel) ⟨Nat.le_of_ble_eq_true rfl, Nat.le_of_ble_eq_true rfl⟩) (xg_preS hK hG) rfl rfl hl.1 rfl (lv_room (Nat.le_of_ble_eq_true rfl)) dX8_person_10 ⟨Nat.zero_le _, Nat.zero_le _⟩) (fun r2 hr2 => ?_)
    replace hr2 := hr2.symm; subst hr2
    refine xb_ifeq (tgt := 31) S dX8_person_13 (by decide) (fun c13 => ?_) (fun c13 => ?_)
    · skip
      refine lv_bipush (v := (-2)) hx hb dX8_person_31 (by decide) ?_
      rw [hQ]
      exact xg_emi S hr hlk hK hG ⟨(by skip; simp [em_perR, va_up_self, va_up_ne, c4, c13]), (by rw [show (em_perT A I p s1 f1 q1 w1) = A from (by skip; simp [em_perT, em_perA, em_perI, va_up_self, va_up_ne, c4, c13])]; rw [show (em_perI I p s1 f1 q1) = I from (by skip; simp [em_perT, em_perA, em_perI, va_up_self, va_up_ne, c4, c13])]; exact hM), xv_S.rf⟩ dX8_person_33
    · skip
      refine lv_iload_n hx hb dX8_person_16 rfl (lv_at hl 3 rfl) ?_
      refine xg_ri (va_runS (As := [.int f1]) (rest := []) S (mX8_isNine l D cI cZ bs ad ws f1) (va_cwS 1 hts gX8_person_X8_isNine rfl rfl rfl (by decide +kernel) ⟨Nat.le_of_ble_eq_true rfl, Nat.le_of_ble_eq_true rfl⟩) (xg_preS hK hG) rfl rfl hl.1 rfl (lv_room (Nat.le_of_ble_eq_true rfl)) dX8_person_17 ⟨Nat.zero_le _, Nat.zero_le _⟩) (fun r3 hr3 => ?_)
      replace hr3 := hr3.symm; subst hr3
      refine xb_ifeq (tgt := 31) S dX8_person_20 (by decide) (fun c20 => ?_) (fun c20 => ?_)
      · skip
        refine lv_bipush (v := (-2)) hx hb dX8_person_31 (by decide) ?_
        rw [hQ]
        exact xg_emi S hr hlk hK hG ⟨(by skip; simp [em_perR, va_up_self, va_up_ne, c4, c13, c20]), (by rw [show (em_perT A I p s1 f1 q1 w1) = A from (by skip; simp [em_perT, em_perA, em_perI, va_up_self, va_up_ne, c4, c13, c20])]; rw [show (em_perI I p s1 f1 q1) = I from (by skip; simp [em_perT, em_perA, em_perI, va_up_self, va_up_ne, c4, c13, c20])]; exact hM), xv_S.rf⟩ dX8_person_33
      · skip
        refine lv_iload hx hb dX8_person_23 (lv_at hl 4 rfl) ?_
        refine xg_ri (va_runS (As := [.int q1]) (rest := []) S (mX8_isNine l D cI cZ bs ad ws q1) (va_cwS 1 hts gX8_person_X8_isNine rfl rfl rfl (by decide +kernel) ⟨Nat.le_of_ble_eq_true rfl, Nat.le_of_ble_eq_true rfl⟩) (xg_preS hK hG) rfl rfl hl.1 rfl (lv_room (Nat.le_of_ble_eq_true rfl)) dX8_person_25 ⟨Nat.zero_le _, Nat.zero_le _⟩) (fun r4 hr4 => ?_)
        replace hr4 := hr4.symm; subst hr4
        refine xb_ifne (tgt := 34) S dX8_person_28 (by decide) (fun c28 => ?_) (fun c28 => ?_)
        · skip
          refine lv_aload_n hx hb dX8_person_34 rfl (lv_at hl 0 rfl) ?_
          refine xg_get (C := RX8) (T := TX8) (N := 46) S hK hG (fun w h => List.mem_cons_of_mem _ (List.mem_append_right _ (h))) b hM.1 rfl 1 (by decide) k0 (fun _ h9 => h9) rfl dX8_person_35 ?_
          refine lv_iload_n hx hb dX8_person_38 rfl (lv_at hl 1 rfl) ?_
          refine lv_iload_n hx hb dX8_person_39 rfl (lv_at hl 2 rfl) ?_
          refine xg_ast2 S hK hG (b + 1) (show ws[b + 1]? = some (ad (b + 1), .inl (cI, 6, .inl (A 0))) from hM.2.1 0 (by decide)) (i := p) (x := s1) (by first | assumption | exact vp_in_nI (by omega) (by decide)) dX8_person_40 (fun w5 H locs hw5 hG => ?_)
          have hs6 : xv_S ws w5 (b + 1) 1 := by rw [hw5]; exact xv_S.set (by omega) (by omega)
          obtain ⟨A7, eA7⟩ : ∃ zz : Nat → Nat → Int32, (va_up A 0 (upd (A 0) p.toNatClampNeg s1)) = zz := ⟨_, rfl⟩
          have hM : xv_M cI cZ ad w5 b A7 I L := by rw [hw5, ← eA7]; exact hM.row 0 (by decide)
          have hSw5 : xv_S ws w5 b 24 := hs6.mono (by omega) (by omega)
          refine lv_aload_n hx hb dX8_person_41 rfl (lv_at hl 0 rfl) ?_
          refine xg_get (C := RX8) (T := TX8) (N := 46) S hK hG (fun w h => List.mem_cons_of_mem _ (List.mem_append_right _ (h))) b hM.1 rfl 2 (by decide) k1 (fun _ h9 => h9) rfl dX8_person_42 ?_
          refine lv_iload_n hx hb dX8_person_45 rfl (lv_at hl 1 rfl) ?_
          refine lv_iload_n hx hb dX8_person_46 rfl (lv_at hl 3 rfl) ?_
          refine xg_ast2 S hK hG (b + 2) (show w5[b + 2]? = some (ad (b + 2), .inl (cI, 6, .inl (A7 1))) from hM.2.1 1 (by decide)) (i := p) (x := f1) (by first | assumption | exact vp_in_nI (by omega) (by decide)) dX8_person_47 (fun w8 H locs hw8 hG => ?_)
          have hs9 : xv_S w5 w8 (b + 2) 1 := by rw [hw8]; exact xv_S.set (by omega) (by omega)
          obtain ⟨A10, eA10⟩ : ∃ zz : Nat → Nat → Int32, (va_up A7 1 (upd (A7 1) p.toNatClampNeg f1)) = zz := ⟨_, rfl⟩
          have hM : xv_M cI cZ ad w8 b A10 I L := by rw [hw8, ← eA10]; exact hM.row 1 (by decide)
          have hSw8 : xv_S ws w8 b 24 := hSw5.trans (hs9.mono (by omega) (by omega))
          refine lv_aload_n hx hb dX8_person_48 rfl (lv_at hl 0 rfl) ?_
          refine xg_get (C := RX8) (T := TX8) (N := 46) S hK hG (fun w h => List.mem_cons_of_mem _ (List.mem_append_right _ (h))) b hM.1 rfl 3 (by decide) k2 (fun _ h9 => h9) rfl dX8_person_49 ?_
          refine lv_iload_n hx hb dX8_person_52 rfl (lv_at hl 1 rfl) ?_
          refine lv_iload hx hb dX8_person_53 (lv_at hl 4 rfl) ?_
          refine xg_ast2 S hK hG (b + 3) (show w8[b + 3]? = some (ad (b + 3), .inl (cI, 6, .inl (A10 2))) from hM.2.1 2 (by decide)) (i := p) (x := q1) (by first | assumption | exact vp_in_nI (by omega) (by decide)) dX8_person_55 (fun w11 H locs hw11 hG => ?_)
          have hs12 : xv_S w8 w11 (b + 3) 1 := by rw [hw11]; exact xv_S.set (by omega) (by omega)
          obtain ⟨A13, eA13⟩ : ∃ zz : Nat → Nat → Int32, (va_up A10 2 (upd (A10 2) p.toNatClampNeg q1)) = zz := ⟨_, rfl⟩
          have hM : xv_M cI cZ ad w11 b A13 I L := by rw [hw11, ← eA13]; exact hM.row 2 (by decide)
          have hSw11 : xv_S ws w11 b 24 := hSw8.trans (hs12.mono (by omega) (by omega))
          refine lv_aload_n hx hb dX8_person_56 rfl (lv_at hl 0 rfl) ?_
          refine xg_get (C := RX8) (T := TX8) (N := 46) S hK hG (fun w h => List.mem_cons_of_mem _ (List.mem_append_right _ (h))) b hM.1 rfl 4 (by decide) k3 (fun _ h9 => h9) rfl dX8_person_57 ?_
          refine lv_iload_n hx hb dX8_person_60 rfl (lv_at hl 1 rfl) ?_
          refine lv_iload hx hb dX8_person_61 (lv_at hl 5 rfl) ?_
          have jn71_14 : ∀ v14 : Int32, v14 = (if w1 = 0 then 0 else 1) → W pg l en ({ frames := 2, cells := 0, slots := 0, locals := 45 } : Room) s m ([.ref (ad b), .int p, .int s1, .int f1, .int q1, .int w1] : List Value).toArray below meth c H locs 0 0 Q (F0 m 71 ls [.int v14, .int p, .ref (ad (b + 4))]) := by
            intro v14 ev14
            replace ev14 := ev14.symm
            refine xg_ast2 S hK hG (b + 4) (show w11[b + 4]? = some (ad (b + 4), .inl (cI, 6, .inl (A13 3))) from hM.2.1 3 (by decide)) (i := p) (x := v14) (by first | assumption | exact vp_in_nI (by omega) (by decide)) dX8_person_71 (fun w15 H locs hw15 hG => ?_)
            have hs16 : xv_S w11 w15 (b + 4) 1 := by rw [hw15]; exact xv_S.set (by omega) (by omega)
            obtain ⟨A17, eA17⟩ : ∃ zz : Nat → Nat → Int32, (va_up A13 3 (upd (A13 3) p.toNatClampNeg v14)) = zz := ⟨_, rfl⟩
            have hM : xv_M cI cZ ad w15 b A17 I L := by rw [hw15, ← eA17]; exact hM.row 3 (by decide)
            have hSw15 : xv_S ws w15 b 24 := hSw11.trans (hs16.mono (by omega) (by omega))
            refine lv_aload_n hx hb dX8_person_72 rfl (lv_at hl 0 rfl) ?_
            refine xg_get (C := RX8) (T := TX8) (N := 46) S hK hG (fun w h => List.mem_cons_of_mem _ (List.mem_append_right _ (h))) b hM.1 rfl 5 (by decide) k4 (fun _ h9 => h9) rfl dX8_person_73 ?_
            refine lv_iload_n hx hb dX8_person_76 rfl (lv_at hl 1 rfl) ?_
            refine lv_aload_n hx hb dX8_person_77 rfl (lv_at hl 0 rfl) ?_
            refine xg_get (C := RX8) (T := TX8) (N := 46) S hK hG (fun w h => List.mem_cons_of_mem _ (List.mem_append_right _ (h))) b hM.1 rfl 9 (by decide) k5 (fun _ h9 => h9) rfl dX8_person_78 ?_
            refine xg_ast2 S hK hG (b + 5) (show w15[b + 5]? = some (ad (b + 5), .inl (cI, 6, .inl (A17 4))) from hM.2.1 4 (by decide)) (i := p) (x := I 9) (by first | assumption | exact vp_in_nI (by omega) (by decide)) dX8_person_81 (fun w18 H locs hw18 hG => ?_)
            have hs19 : xv_S w15 w18 (b + 5) 1 := by rw [hw18]; exact xv_S.set (by omega) (by omega)
            obtain ⟨A20, eA20⟩ : ∃ zz : Nat → Nat → Int32, (va_up A17 4 (upd (A17 4) p.toNatClampNeg (I 9))) = zz := ⟨_, rfl⟩
            have hM : xv_M cI cZ ad w18 b A20 I L := by rw [hw18, ← eA20]; exact hM.row 4 (by decide)
            have hSw18 : xv_S ws w18 b 24 := hSw15.trans (hs19.mono (by omega) (by omega))
            refine lv_aload_n hx hb dX8_person_82 rfl (lv_at hl 0 rfl) ?_
            refine xg_get (C := RX8) (T := TX8) (N := 46) S hK hG (fun w h => List.mem_cons_of_mem _ (List.mem_append_right _ (h))) b hM.1 rfl 6 (by decide) k6 (fun _ h9 => h9) rfl dX8_person_83 ?_
            refine lv_iload_n hx hb dX8_person_86 rfl (lv_at hl 1 rfl) ?_
            refine lv_iconst (v := 0) hx hb dX8_person_87 (by decide) ?_
            refine xg_ast2 S hK hG (b + 6) (show w18[b + 6]? = some (ad (b + 6), .inl (cI, 6, .inl (A20 5))) from hM.2.1 5 (by decide)) (i := p) (x := 0) (by first | assumption | exact vp_in_nI (by omega) (by decide)) dX8_person_88 (fun w21 H locs hw21 hG => ?_)
            have hs22 : xv_S w18 w21 (b + 6) 1 := by rw [hw21]; exact xv_S.set (by omega) (by omega)
            obtain ⟨A23, eA23⟩ : ∃ zz : Nat → Nat → Int32, (va_up A20 5 (upd (A20 5) p.toNatClampNeg 0)) = zz := ⟨_, rfl⟩
            have hM : xv_M cI cZ ad w21 b A23 I L := by rw [hw21, ← eA23]; exact hM.row 5 (by decide)
            have hSw21 : xv_S ws w21 b 24 := hSw18.trans (hs22.mono (by omega) (by omega))
            refine lv_aload_n hx hb dX8_person_89 rfl (lv_at hl 0 rfl) ?_
            refine xg_get (C := RX8) (T := TX8) (N := 46) S hK hG (fun w h => List.mem_cons_of_mem _ (List.mem_append_right _ (h))) b hM.1 rfl 7 (by decide) k7 (fun _ h9 => h9) rfl dX8_person_90 ?_
            refine lv_iload_n hx hb dX8_person_93 rfl (lv_at hl 1 rfl) ?_
            refine lv_iconst (v := 0) hx hb dX8_person_94 (by decide) ?_
            refine xg_ast2 S hK hG (b + 7) (show w21[b + 7]? = some (ad (b + 7), .inl (cI, 6, .inl (A23 6))) from hM.2.1 6 (by decide)) (i := p) (x := 0) (by first | assumption | exact vp_in_nI (by omega) (by decide)) dX8_person_95 (fun w24 H locs hw24 hG => ?_)
            have hs25 : xv_S w21 w24 (b + 7) 1 := by rw [hw24]; exact xv_S.set (by omega) (by omega)
            obtain ⟨A26, eA26⟩ : ∃ zz : Nat → Nat → Int32, (va_up A23 6 (upd (A23 6) p.toNatClampNeg 0)) = zz := ⟨_, rfl⟩
            have hM : xv_M cI cZ ad w24 b A26 I L := by rw [hw24, ← eA26]; exact hM.row 6 (by decide)
            have hSw24 : xv_S ws w24 b 24 := hSw21.trans (hs25.mono (by omega) (by omega))
            refine lv_aload_n hx hb dX8_person_96 rfl (lv_at hl 0 rfl) ?_
            refine lv_dup hx hb dX8_person_97 rfl ?_
            refine xg_get (C := RX8) (T := TX8) (N := 46) S hK hG (fun w h => List.mem_cons_of_mem _ (List.mem_append_right _ (h))) b hM.1 rfl 0 (by decide) k8 (fun _ h9 => h9) rfl dX8_person_98 ?_
            refine lv_iconst (v := 1) hx hb dX8_person_101 (by decide) ?_
            refine lv_iload_n hx hb dX8_person_102 rfl (lv_at hl 1 rfl) ?_
            refine lv_ishl hx hb dX8_person_103 ?_
            refine lv_ior hx hb dX8_person_104 ?_
            refine xg_put2 (C := RX8) (T := TX8) (N := 46) (v := .int ((I 0) ||| (1 <<< (p &&& 31)))) (ty := .int) S hK hG (fun w h => List.mem_cons_of_mem _ (List.mem_append_right _ (h))) tyX8 tyX8_ok nmX8 b hM.1 rfl 0 (by decide) k8 (fun _ h9 => h9) rfl (by decide +kernel) rfl rfl (Nat.le_of_ble_eq_true rfl) dX8_person_105 (fun w27 H locs hw27 hG => ?_)
            have hs28 : xv_S w24 w27 b 1 := by rw [hw27]; exact xv_S.set (by omega) (by omega)
            obtain ⟨I29, eI29⟩ : ∃ zz : Nat → Int32, (va_up I 0 ((I 0) ||| (1 <<< (p &&& 31)))) = zz := ⟨_, rfl⟩
            have hM : xv_M cI cZ ad w27 b A26 I29 L := by rw [hw27, ← eI29]; exact hM.fld (va_up I 0 ((I 0) ||| (1 <<< (p &&& 31)))) L rfl
            have hSw27 : xv_S ws w27 b 24 := hSw24.trans (hs28.mono (by omega) (by omega))
            refine lv_aload_n hx hb dX8_person_108 rfl (lv_at hl 0 rfl) ?_
            refine xg_get (C := RX8) (T := TX8) (N := 46) S hK hG (fun w h => List.mem_cons_of_mem _ (List.mem_append_right _ (h))) b hM.1 rfl 0 (by decide) k8 (fun _ h9 => h9) rfl dX8_person_109 ?_
            refine xg_ri (va_runS (As := [.int (I29 0)]) (rest := []) S (mX8_ones l D cI cZ bs ad w27 (I29 0) (by subst eA7 eA10 eA13 ev14 eA17 eA20 eA23 eA26 eI29; simp only [va_up_self]; exact em_or6 h6 c4)) (va_cwS 1 hts gX8_person_X8_ones rfl rfl rfl (by decide +kernel) ⟨Nat.le_of_ble_eq_true rfl, Nat.le_of_ble_eq_true rfl⟩) (xg_preS hK hG) rfl rfl hl.1 rfl (lv_room (Nat.le_of_ble_eq_true rfl)) dX8_person_112 ⟨Nat.zero_le _, Nat.zero_le _⟩) (fun r30 hr30 => ?_)
            replace hr30 := hr30.symm; subst hr30
            rw [hQ]
            exact xg_emi S hr hlk hK hG ⟨(by subst eA7 eA10 eA13 ev14 eA17 eA20 eA23 eA26 eI29; simp [em_perR, va_up_self, va_up_ne, c4, c13, c20, c28]), (by rw [show (em_perT A I p s1 f1 q1 w1) = A26 from (by subst eA7 eA10 eA13 ev14 eA17 eA20 eA23 eA26 eI29; simp [em_perT, em_perA, em_perI, va_up_self, va_up_ne, c4, c13, c20, c28])]; rw [show (em_perI I p s1 f1 q1) = I29 from (by subst eA7 eA10 eA13 ev14 eA17 eA20 eA23 eA26 eI29; simp [em_perT, em_perA, em_perI, va_up_self, va_up_ne, c4, c13, c20, c28])]; exact hM), hSw27⟩ dX8_person_115
          refine lv_if_eq (tgt := 70) hx hb dX8_person_63 (by decide) (fun c63 => ?_) (fun c63 => ?_)
          · skip
            refine lv_iconst (v := 0) hx hb dX8_person_70 (by decide) ?_
            exact jn71_14 _ (by rw [if_pos c63])
          · skip
            refine lv_iconst (v := 1) hx hb dX8_person_66 (by decide) ?_
            refine lv_goto (tgt := 71) hx hb dX8_person_67 (by decide) ?_
            exact jn71_14 _ (by rw [if_neg c63])
        · skip
          refine lv_bipush (v := (-2)) hx hb dX8_person_31 (by decide) ?_
          rw [hQ]
          exact xg_emi S hr hlk hK hG ⟨(by skip; simp [em_perR, va_up_self, va_up_ne, c4, c13, c20, c28]), (by rw [show (em_perT A I p s1 f1 q1 w1) = A from (by skip; simp [em_perT, em_perA, em_perI, va_up_self, va_up_ne, c4, c13, c20, c28])]; rw [show (em_perI I p s1 f1 q1) = I from (by skip; simp [em_perT, em_perA, em_perI, va_up_self, va_up_ne, c4, c13, c20, c28])]; exact hM), xv_S.rf⟩ dX8_person_33
  · skip
    refine lv_iconst (v := (-1)) hx hb dX8_person_7 (by decide) ?_
    rw [hQ]
    exact xg_emi S hr hlk hK hG ⟨(by skip; simp [em_perR, va_up_self, va_up_ne, c4]), (by rw [show (em_perT A I p s1 f1 q1 w1) = A from (by skip; simp [em_perT, em_perA, em_perI, va_up_self, va_up_ne, c4])]; rw [show (em_perI I p s1 f1 q1) = I from (by skip; simp [em_perT, em_perA, em_perI, va_up_self, va_up_ne, c4])]; exact hM), xv_S.rf⟩ dX8_person_8
set_option maxHeartbeats 4000000 in
set_option maxRecDepth 100000 in
theorem mX8_leave (l : Launch) (D : va_G) (cI cZ : ClassId) (bs : Nat) (ad : Nat → Nat) (ws : va_W) (b : Nat) (A : Nat → Nat → Int32) (I : Nat → Int32) (L : Int64) (hM : xv_M cI cZ ad ws b A I L) (p : Int32) (h6 : em_6 (I 0)) : Met l yX8_leave wsX8_leave ({ frames := 3, cells := 0, slots := 0, locals := 66 } : Room) (va_Pc [.ref (ad b), .int p] (fun U => xg_W D cI cZ bs ws U)) (va_Qi (fun (r : Int32) (w : va_W) => r = em_leaR I p ∧ xv_M cI cZ ad w b A (em_leaI I p) L ∧ xv_S ws w b 24) (fun w t => xg_W D cI cZ bs w t) (xg_A bs)) 0 0 (xg_A bs) := by
  refine xg_met cX8_leave 2 (some .int) RX8 (by decide) rfl rfl (Nat.le_of_ble_eq_true rfl) ?_
  intro pg en s m below meth c ls S hr hlk hnm hB hl
  have hK := hB.1
  have hG := xg_start hB
  obtain ⟨hx, hb, hml, hown, hts⟩ := id S
  have hl : lv_has ls 2 [(0, .ref (ad b)), (1, .int p)] := hl
  obtain ⟨Q, hQ⟩ : ∃ Q, Q = MQ below (va_Qi (fun (r : Int32) (w : va_W) => r = em_leaR I p ∧ xv_M cI cZ ad w b A (em_leaI I p) L ∧ xv_S ws w b 24) (fun w t => xg_W D cI cZ bs w t) (xg_A bs)) ([.ref (ad b), .int p] : List Value).toArray s 0 0 (xg_A bs) := ⟨_, rfl⟩
  rw [← hQ]
  have k0 := hts (.fieldLink RX8 109 "DareBridgeModel" "people" "I") (List.mem_of_getElem? (i := 1) rfl)
  refine lv_aload_n hx hb dX8_leave_0 rfl (lv_at hl 0 rfl) ?_
  refine lv_iload_n hx hb dX8_leave_1 rfl (lv_at hl 1 rfl) ?_
  refine xg_ri (va_runV (As := [.int p]) (rest := []) S (mX8_isThere l D cI cZ bs ad ws b A I L hM p) (cwV 1 hts gX8_leave_X8_isThere rfl rfl rfl (by decide +kernel) ⟨Nat.le_of_ble_eq_true rfl, Nat.le_of_ble_eq_true rfl⟩) (xg_preV hK hG b hM.1 rfl rfl) rfl rfl hl.1 rfl (lv_room (Nat.le_of_ble_eq_true rfl)) dX8_leave_2 ⟨Nat.zero_le _, Nat.zero_le _⟩) (fun r1 hr1 => ?_)
  replace hr1 := hr1.symm; subst hr1
  refine xb_ifne (tgt := 10) S dX8_leave_5 (by decide) (fun c5 => ?_) (fun c5 => ?_)
  · skip
    refine lv_aload_n hx hb dX8_leave_10 rfl (lv_at hl 0 rfl) ?_
    refine lv_dup hx hb dX8_leave_11 rfl ?_
    refine xg_get (C := RX8) (T := TX8) (N := 46) S hK hG (fun w h => List.mem_cons_of_mem _ (List.mem_append_right _ (h))) b hM.1 rfl 0 (by decide) k0 (fun _ h9 => h9) rfl dX8_leave_12 ?_
    refine lv_iconst (v := 1) hx hb dX8_leave_15 (by decide) ?_
    refine lv_iload_n hx hb dX8_leave_16 rfl (lv_at hl 1 rfl) ?_
    refine lv_ishl hx hb dX8_leave_17 ?_
    refine lv_iconst (v := (-1)) hx hb dX8_leave_18 (by decide) ?_
    refine lv_ixor hx hb dX8_leave_19 ?_
    refine lv_iand hx hb dX8_leave_20 ?_
    refine xg_put2 (C := RX8) (T := TX8) (N := 46) (v := .int ((I 0) &&& ((1 <<< (p &&& 31)) ^^^ (-1)))) (ty := .int) S hK hG (fun w h => List.mem_cons_of_mem _ (List.mem_append_right _ (h))) tyX8 tyX8_ok nmX8 b hM.1 rfl 0 (by decide) k0 (fun _ h9 => h9) rfl (by decide +kernel) rfl rfl (Nat.le_of_ble_eq_true rfl) dX8_leave_21 (fun w2 H locs hw2 hG => ?_)
    have hs3 : xv_S ws w2 b 1 := by rw [hw2]; exact xv_S.set (by omega) (by omega)
    obtain ⟨I4, eI4⟩ : ∃ zz : Nat → Int32, (va_up I 0 ((I 0) &&& ((1 <<< (p &&& 31)) ^^^ (-1)))) = zz := ⟨_, rfl⟩
    have hM : xv_M cI cZ ad w2 b A I4 L := by rw [hw2, ← eI4]; exact hM.fld (va_up I 0 ((I 0) &&& ((1 <<< (p &&& 31)) ^^^ (-1)))) L rfl
    have hSw2 : xv_S ws w2 b 24 := hs3.mono (by omega) (by omega)
    refine lv_aload_n hx hb dX8_leave_24 rfl (lv_at hl 0 rfl) ?_
    refine xg_get (C := RX8) (T := TX8) (N := 46) S hK hG (fun w h => List.mem_cons_of_mem _ (List.mem_append_right _ (h))) b hM.1 rfl 0 (by decide) k0 (fun _ h9 => h9) rfl dX8_leave_25 ?_
    refine xg_ri (va_runS (As := [.int (I4 0)]) (rest := []) S (mX8_ones l D cI cZ bs ad w2 (I4 0) (by subst eI4; simp only [va_up_self]; exact em_an6 h6)) (va_cwS 1 hts gX8_leave_X8_ones rfl rfl rfl (by decide +kernel) ⟨Nat.le_of_ble_eq_true rfl, Nat.le_of_ble_eq_true rfl⟩) (xg_preS hK hG) rfl rfl hl.1 rfl (lv_room (Nat.le_of_ble_eq_true rfl)) dX8_leave_28 ⟨Nat.zero_le _, Nat.zero_le _⟩) (fun r5 hr5 => ?_)
    replace hr5 := hr5.symm; subst hr5
    rw [hQ]
    exact xg_emi S hr hlk hK hG ⟨(by subst eI4; simp only [em_leaR, va_up_self, c5, if_true, if_false, Bool.false_eq_true]), (by rw [show (em_leaI I p) = I4 from (by subst eI4; simp only [em_leaI, c5, if_true, if_false, Bool.false_eq_true])]; exact hM), hSw2⟩ dX8_leave_31
  · skip
    refine lv_iconst (v := (-1)) hx hb dX8_leave_8 (by decide) ?_
    rw [hQ]
    exact xg_emi S hr hlk hK hG ⟨(by skip; simp only [em_leaR, va_up_self, c5, if_true, if_false, Bool.false_eq_true]), (by rw [show (em_leaI I p) = I from (by skip; simp only [em_leaI, c5, if_true, if_false, Bool.false_eq_true])]; exact hM), xv_S.rf⟩ dX8_leave_9
set_option maxHeartbeats 4000000 in
set_option maxRecDepth 100000 in
theorem mX8_maySet (l : Launch) (D : va_G) (cI cZ : ClassId) (bs : Nat) (ad : Nat → Nat) (ws : va_W) (k9 : Int32) (v9 : Int32) : Met l yX8_maySet wsX8_maySet ({ frames := 2, cells := 0, slots := 0, locals := 45 } : Room) (va_Pc [.int k9, .int v9] (fun U => xg_W D cI cZ bs ws U)) (xg_Ri (fun r : Int32 => r = xb_i (em_may k9 v9))) 0 0 xg_F := by
  refine xg_met cX8_maySet 2 (some .boolean) RX8 (by decide) rfl rfl (Nat.le_of_ble_eq_true rfl) ?_
  intro pg en s m below meth c ls S hr hlk hnm hB hl
  have hK := hB.1
  have hG := xg_start hB
  obtain ⟨hx, hb, hml, hown, hts⟩ := id S
  have hl : lv_has ls 2 [(0, .int k9), (1, .int v9)] := hl
  obtain ⟨Q, hQ⟩ : ∃ Q, Q = MQ below (xg_Ri (fun r : Int32 => r = xb_i (em_may k9 v9))) ([.int k9, .int v9] : List Value).toArray s 0 0 xg_F := ⟨_, rfl⟩
  rw [← hQ]
  have k0 := hts (.constantLong RX8 112 (9)) (List.mem_of_getElem? (i := 1) rfl)
  have k1 := hts (.constantLong RX8 126 (99)) (List.mem_of_getElem? (i := 2) rfl)
  have k2 := hts (.constantLong RX8 128 (42)) (List.mem_of_getElem? (i := 3) rfl)
  have k3 := hts (.constantLong RX8 130 (9999)) (List.mem_of_getElem? (i := 4) rfl)
  refine lv_iload_n hx hb dX8_maySet_0 rfl (lv_at hl 0 rfl) ?_
  by_cases sw1_0 : k9 = 0
  · skip
    refine lv_tableIn (off := 39) (tgt := 40) hx hb dX8_maySet_1 (by rw [sw1_0]; decide) (by rw [sw1_0]; decide) (by rw [sw1_0]; rfl) (by decide) ?_
    refine lv_iload_n hx hb dX8_maySet_40 rfl (lv_at hl 1 rfl) ?_
    refine lv_i2l (v := v9.toInt64) hx hb dX8_maySet_41 rfl ?_
    refine lv_lconst (v := 1) hx hb dX8_maySet_42 (by decide) ?_
    refine lv_ldc2 (v := 9) hx hb hown k0 dX8_maySet_43 ?_
    refine xg_ri (va_runS (As := [.long v9.toInt64, .long 1, .long 9]) (rest := []) S (mX8_in l D cI cZ bs ad ws v9.toInt64 1 9) (va_cwS 3 hts gX8_maySet_X8_in rfl rfl rfl (by decide +kernel) ⟨Nat.le_of_ble_eq_true rfl, Nat.le_of_ble_eq_true rfl⟩) (xg_preS hK hG) rfl rfl hl.1 rfl (lv_room (Nat.le_of_ble_eq_true rfl)) dX8_maySet_46 ⟨Nat.zero_le _, Nat.zero_le _⟩) (fun r2 hr2 => ?_)
    replace hr2 := hr2.symm; subst hr2
    rw [xw_inL_lit v9 1 9 1 9 (by decide) (by decide)]
    rw [hQ]
    exact xg_erz S hr hlk (by cases (xw_in v9 1 9) <;> rfl) (by skip; simp only [em_may, sw1_0, xs_10, xs_20, xs_21, xs_30, xs_31, xs_32, if_true, if_false, Bool.false_eq_true]; try simp [xb_i]) dX8_maySet_49
  · skip
    by_cases sw1_1 : k9 = 1
    · skip
      refine lv_tableIn (off := 49) (tgt := 50) hx hb dX8_maySet_1 (by rw [sw1_1]; decide) (by rw [sw1_1]; decide) (by rw [sw1_1]; rfl) (by decide) ?_
      refine lv_iload_n hx hb dX8_maySet_50 rfl (lv_at hl 1 rfl) ?_
      refine xg_ri (va_runS (As := [.int v9]) (rest := []) S (mX8_isNine l D cI cZ bs ad ws v9) (va_cwS 1 hts gX8_maySet_X8_isNine rfl rfl rfl (by decide +kernel) ⟨Nat.le_of_ble_eq_true rfl, Nat.le_of_ble_eq_true rfl⟩) (xg_preS hK hG) rfl rfl hl.1 rfl (lv_room (Nat.le_of_ble_eq_true rfl)) dX8_maySet_51 ⟨Nat.zero_le _, Nat.zero_le _⟩) (fun r3 hr3 => ?_)
      replace hr3 := hr3.symm; subst hr3
      rw [hQ]
      exact xg_erz S hr hlk (by cases (xw_in v9 0 9) <;> rfl) (by skip; simp only [em_may, sw1_0, sw1_1, xs_10, xs_20, xs_21, xs_30, xs_31, xs_32, if_true, if_false, Bool.false_eq_true]; try simp [xb_i]) dX8_maySet_54
    · skip
      by_cases sw1_2 : k9 = 2
      · skip
        refine lv_tableIn (off := 54) (tgt := 55) hx hb dX8_maySet_1 (by rw [sw1_2]; decide) (by rw [sw1_2]; decide) (by rw [sw1_2]; rfl) (by decide) ?_
        refine lv_iload_n hx hb dX8_maySet_55 rfl (lv_at hl 1 rfl) ?_
        refine lv_i2l (v := v9.toInt64) hx hb dX8_maySet_56 rfl ?_
        refine lv_lconst (v := 0) hx hb dX8_maySet_57 (by decide) ?_
        refine lv_ldc2 (v := 99) hx hb hown k1 dX8_maySet_58 ?_
        refine xg_ri (va_runS (As := [.long v9.toInt64, .long 0, .long 99]) (rest := []) S (mX8_in l D cI cZ bs ad ws v9.toInt64 0 99) (va_cwS 3 hts gX8_maySet_X8_in rfl rfl rfl (by decide +kernel) ⟨Nat.le_of_ble_eq_true rfl, Nat.le_of_ble_eq_true rfl⟩) (xg_preS hK hG) rfl rfl hl.1 rfl (lv_room (Nat.le_of_ble_eq_true rfl)) dX8_maySet_61 ⟨Nat.zero_le _, Nat.zero_le _⟩) (fun r4 hr4 => ?_)
        replace hr4 := hr4.symm; subst hr4
        rw [xw_inL_lit v9 0 99 0 99 (by decide) (by decide)]
        rw [hQ]
        exact xg_erz S hr hlk (by cases (xw_in v9 0 99) <;> rfl) (by skip; simp only [em_may, sw1_0, sw1_1, sw1_2, xs_10, xs_20, xs_21, xs_30, xs_31, xs_32, if_true, if_false, Bool.false_eq_true]; try simp [xb_i]) dX8_maySet_64
      · skip
        by_cases sw1_3 : k9 = 3
        · skip
          refine lv_tableIn (off := 49) (tgt := 50) hx hb dX8_maySet_1 (by rw [sw1_3]; decide) (by rw [sw1_3]; decide) (by rw [sw1_3]; rfl) (by decide) ?_
          refine lv_iload_n hx hb dX8_maySet_50 rfl (lv_at hl 1 rfl) ?_
          refine xg_ri (va_runS (As := [.int v9]) (rest := []) S (mX8_isNine l D cI cZ bs ad ws v9) (va_cwS 1 hts gX8_maySet_X8_isNine rfl rfl rfl (by decide +kernel) ⟨Nat.le_of_ble_eq_true rfl, Nat.le_of_ble_eq_true rfl⟩) (xg_preS hK hG) rfl rfl hl.1 rfl (lv_room (Nat.le_of_ble_eq_true rfl)) dX8_maySet_51 ⟨Nat.zero_le _, Nat.zero_le _⟩) (fun r5 hr5 => ?_)
          replace hr5 := hr5.symm; subst hr5
          rw [hQ]
          exact xg_erz S hr hlk (by cases (xw_in v9 0 9) <;> rfl) (by skip; simp only [em_may, sw1_0, sw1_1, sw1_2, sw1_3, xs_10, xs_20, xs_21, xs_30, xs_31, xs_32, if_true, if_false, Bool.false_eq_true]; try simp [xb_i]) dX8_maySet_54
        · skip
          by_cases sw1_4 : k9 = 4
          · skip
            refine lv_tableIn (off := 64) (tgt := 65) hx hb dX8_maySet_1 (by rw [sw1_4]; decide) (by rw [sw1_4]; decide) (by rw [sw1_4]; rfl) (by decide) ?_
            refine lv_iload_n hx hb dX8_maySet_65 rfl (lv_at hl 1 rfl) ?_
            refine lv_i2l (v := v9.toInt64) hx hb dX8_maySet_66 rfl ?_
            refine lv_lconst (v := 1) hx hb dX8_maySet_67 (by decide) ?_
            refine lv_ldc2 (v := 42) hx hb hown k2 dX8_maySet_68 ?_
            refine xg_ri (va_runS (As := [.long v9.toInt64, .long 1, .long 42]) (rest := []) S (mX8_in l D cI cZ bs ad ws v9.toInt64 1 42) (va_cwS 3 hts gX8_maySet_X8_in rfl rfl rfl (by decide +kernel) ⟨Nat.le_of_ble_eq_true rfl, Nat.le_of_ble_eq_true rfl⟩) (xg_preS hK hG) rfl rfl hl.1 rfl (lv_room (Nat.le_of_ble_eq_true rfl)) dX8_maySet_71 ⟨Nat.zero_le _, Nat.zero_le _⟩) (fun r6 hr6 => ?_)
            replace hr6 := hr6.symm; subst hr6
            rw [xw_inL_lit v9 1 42 1 42 (by decide) (by decide)]
            rw [hQ]
            exact xg_erz S hr hlk (by cases (xw_in v9 1 42) <;> rfl) (by skip; simp only [em_may, sw1_0, sw1_1, sw1_2, sw1_3, sw1_4, xs_10, xs_20, xs_21, xs_30, xs_31, xs_32, if_true, if_false, Bool.false_eq_true]; try simp [xb_i]) dX8_maySet_74
          · skip
            by_cases sw1_5 : k9 = 5
            · skip
              refine lv_tableIn (off := 74) (tgt := 75) hx hb dX8_maySet_1 (by rw [sw1_5]; decide) (by rw [sw1_5]; decide) (by rw [sw1_5]; rfl) (by decide) ?_
              refine lv_iload_n hx hb dX8_maySet_75 rfl (lv_at hl 1 rfl) ?_
              refine lv_i2l (v := v9.toInt64) hx hb dX8_maySet_76 rfl ?_
              refine lv_lconst (v := 0) hx hb dX8_maySet_77 (by decide) ?_
              refine lv_lconst (v := 1) hx hb dX8_maySet_78 (by decide) ?_
              refine xg_ri (va_runS (As := [.long v9.toInt64, .long 0, .long 1]) (rest := []) S (mX8_in l D cI cZ bs ad ws v9.toInt64 0 1) (va_cwS 3 hts gX8_maySet_X8_in rfl rfl rfl (by decide +kernel) ⟨Nat.le_of_ble_eq_true rfl, Nat.le_of_ble_eq_true rfl⟩) (xg_preS hK hG) rfl rfl hl.1 rfl (lv_room (Nat.le_of_ble_eq_true rfl)) dX8_maySet_79 ⟨Nat.zero_le _, Nat.zero_le _⟩) (fun r7 hr7 => ?_)
              replace hr7 := hr7.symm; subst hr7
              rw [xw_inL_lit v9 0 1 0 1 (by decide) (by decide)]
              rw [hQ]
              exact xg_erz S hr hlk (by cases (xw_in v9 0 1) <;> rfl) (by skip; simp only [em_may, sw1_0, sw1_1, sw1_2, sw1_3, sw1_4, sw1_5, xs_10, xs_20, xs_21, xs_30, xs_31, xs_32, if_true, if_false, Bool.false_eq_true]; try simp [xb_i]) dX8_maySet_82
            · skip
              have tsw1_0 : (k9 : Int32).toInt ≠ 0 := fun q => sw1_0 (Int32.toInt_inj.mp (by rw [q]; rfl))
              have tsw1_1 : (k9 : Int32).toInt ≠ 1 := fun q => sw1_1 (Int32.toInt_inj.mp (by rw [q]; rfl))
              have tsw1_2 : (k9 : Int32).toInt ≠ 2 := fun q => sw1_2 (Int32.toInt_inj.mp (by rw [q]; rfl))
              have tsw1_3 : (k9 : Int32).toInt ≠ 3 := fun q => sw1_3 (Int32.toInt_inj.mp (by rw [q]; rfl))
              have tsw1_4 : (k9 : Int32).toInt ≠ 4 := fun q => sw1_4 (Int32.toInt_inj.mp (by rw [q]; rfl))
              have tsw1_5 : (k9 : Int32).toInt ≠ 5 := fun q => sw1_5 (Int32.toInt_inj.mp (by rw [q]; rfl))
              refine lv_tableOut (tgt := 83) hx hb dX8_maySet_1 (by omega) (by decide) ?_
              refine lv_iload_n hx hb dX8_maySet_83 rfl (lv_at hl 0 rfl) ?_
              refine lv_bipush (v := 6) hx hb dX8_maySet_84 (by decide) ?_
              refine lv_icmp_ne (tgt := 105) hx hb dX8_maySet_86 (by decide) (fun c86 => ?_) (fun c86 => ?_)
              · skip
                refine lv_iconst (v := 0) hx hb dX8_maySet_105 (by decide) ?_
                rw [hQ]
                exact xg_erz S hr hlk rfl (by skip; simp only [em_may, sw1_0, sw1_1, sw1_2, sw1_3, sw1_4, sw1_5, c86, xs_10, xs_20, xs_21, xs_30, xs_31, xs_32, if_true, if_false, Bool.false_eq_true]; try simp [xb_i]) dX8_maySet_106
              · skip
                refine lv_iload_n hx hb dX8_maySet_89 rfl (lv_at hl 1 rfl) ?_
                refine lv_i2l (v := v9.toInt64) hx hb dX8_maySet_90 rfl ?_
                refine lv_lconst (v := 0) hx hb dX8_maySet_91 (by decide) ?_
                refine lv_ldc2 (v := 9999) hx hb hown k3 dX8_maySet_92 ?_
                refine xg_ri (va_runS (As := [.long v9.toInt64, .long 0, .long 9999]) (rest := []) S (mX8_in l D cI cZ bs ad ws v9.toInt64 0 9999) (va_cwS 3 hts gX8_maySet_X8_in rfl rfl rfl (by decide +kernel) ⟨Nat.le_of_ble_eq_true rfl, Nat.le_of_ble_eq_true rfl⟩) (xg_preS hK hG) rfl rfl hl.1 rfl (lv_room (Nat.le_of_ble_eq_true rfl)) dX8_maySet_95 ⟨Nat.zero_le _, Nat.zero_le _⟩) (fun r8 hr8 => ?_)
                replace hr8 := hr8.symm; subst hr8
                rw [xw_inL_lit v9 0 9999 0 9999 (by decide) (by decide)]
                refine xb_ifeq (tgt := 105) S dX8_maySet_98 (by decide) (fun c98 => ?_) (fun c98 => ?_)
                · skip
                  refine lv_iconst (v := 0) hx hb dX8_maySet_105 (by decide) ?_
                  rw [hQ]
                  exact xg_erz S hr hlk rfl (by skip; simp only [em_may, sw1_0, sw1_1, sw1_2, sw1_3, sw1_4, sw1_5, c86, c98, xs_10, xs_20, xs_21, xs_30, xs_31, xs_32, if_true, if_false, Bool.false_eq_true]; try simp [xb_i]) dX8_maySet_106
                · skip
                  refine lv_iconst (v := 1) hx hb dX8_maySet_101 (by decide) ?_
                  refine lv_goto (tgt := 106) hx hb dX8_maySet_102 (by decide) ?_
                  rw [hQ]
                  exact xg_erz S hr hlk rfl (by skip; simp only [em_may, sw1_0, sw1_1, sw1_2, sw1_3, sw1_4, sw1_5, c86, c98, xs_10, xs_20, xs_21, xs_30, xs_31, xs_32, if_true, if_false, Bool.false_eq_true]; try simp [xb_i]) dX8_maySet_106
set_option maxHeartbeats 4000000 in
set_option maxRecDepth 100000 in
theorem mX8_toldSet (l : Launch) (D : va_G) (cI cZ : ClassId) (bs : Nat) (ad : Nat → Nat) (ws : va_W) (b : Nat) (A : Nat → Nat → Int32) (I : Nat → Int32) (L : Int64) (hM : xv_M cI cZ ad ws b A I L) (k9 : Int32) : Met l yX8_toldSet wsX8_toldSet ({ frames := 0, cells := 0, slots := 0, locals := 0 } : Room) (va_Pc [.ref (ad b), .int k9] (fun U => xg_W D cI cZ bs ws U)) (xg_Ri (fun r : Int32 => r = em_tol I k9)) 0 0 xg_F := by
  refine xg_met cX8_toldSet 2 (some .int) RX8 (by decide) rfl rfl (Nat.le_of_ble_eq_true rfl) ?_
  intro pg en s m below meth c ls S hr hlk hnm hB hl
  have hK := hB.1
  have hG := xg_start hB
  obtain ⟨hx, hb, hml, hown, hts⟩ := id S
  have hl : lv_has ls 2 [(0, .ref (ad b)), (1, .int k9)] := hl
  obtain ⟨Q, hQ⟩ : ∃ Q, Q = MQ below (xg_Ri (fun r : Int32 => r = em_tol I k9)) ([.ref (ad b), .int k9] : List Value).toArray s 0 0 xg_F := ⟨_, rfl⟩
  rw [← hQ]
  have k0 := hts (.fieldLink RX8 96 "DareBridgeModel" "x" "I") (List.mem_of_getElem? (i := 7) rfl)
  have k1 := hts (.fieldLink RX8 132 "DareBridgeModel" "wet" "I") (List.mem_of_getElem? (i := 6) rfl)
  have k2 := hts (.fieldLink RX8 93 "DareBridgeModel" "plaster" "I") (List.mem_of_getElem? (i := 5) rfl)
  have k3 := hts (.fieldLink RX8 90 "DareBridgeModel" "fade" "I") (List.mem_of_getElem? (i := 4) rfl)
  have k4 := hts (.fieldLink RX8 87 "DareBridgeModel" "cost" "I") (List.mem_of_getElem? (i := 3) rfl)
  have k5 := hts (.fieldLink RX8 84 "DareBridgeModel" "start" "I") (List.mem_of_getElem? (i := 2) rfl)
  have k6 := hts (.fieldLink RX8 80 "DareBridgeModel" "step" "I") (List.mem_of_getElem? (i := 1) rfl)
  refine lv_iload_n hx hb dX8_toldSet_0 rfl (lv_at hl 1 rfl) ?_
  refine lv_if_ne (tgt := 11) hx hb dX8_toldSet_1 (by decide) (fun c1 => ?_) (fun c1 => ?_)
  · skip
    refine lv_iload_n hx hb dX8_toldSet_11 rfl (lv_at hl 1 rfl) ?_
    refine lv_iconst (v := 1) hx hb dX8_toldSet_12 (by decide) ?_
    refine lv_icmp_ne (tgt := 23) hx hb dX8_toldSet_13 (by decide) (fun c13 => ?_) (fun c13 => ?_)
    · skip
      refine lv_iload_n hx hb dX8_toldSet_23 rfl (lv_at hl 1 rfl) ?_
      refine lv_iconst (v := 2) hx hb dX8_toldSet_24 (by decide) ?_
      refine lv_icmp_ne (tgt := 35) hx hb dX8_toldSet_25 (by decide) (fun c25 => ?_) (fun c25 => ?_)
      · skip
        refine lv_iload_n hx hb dX8_toldSet_35 rfl (lv_at hl 1 rfl) ?_
        refine lv_iconst (v := 3) hx hb dX8_toldSet_36 (by decide) ?_
        refine lv_icmp_ne (tgt := 47) hx hb dX8_toldSet_37 (by decide) (fun c37 => ?_) (fun c37 => ?_)
        · skip
          refine lv_iload_n hx hb dX8_toldSet_47 rfl (lv_at hl 1 rfl) ?_
          refine lv_iconst (v := 4) hx hb dX8_toldSet_48 (by decide) ?_
          refine lv_icmp_ne (tgt := 59) hx hb dX8_toldSet_49 (by decide) (fun c49 => ?_) (fun c49 => ?_)
          · skip
            refine lv_iload_n hx hb dX8_toldSet_59 rfl (lv_at hl 1 rfl) ?_
            refine lv_iconst (v := 5) hx hb dX8_toldSet_60 (by decide) ?_
            refine lv_icmp_ne (tgt := 71) hx hb dX8_toldSet_61 (by decide) (fun c61 => ?_) (fun c61 => ?_)
            · skip
              refine lv_aload_n hx hb dX8_toldSet_71 rfl (lv_at hl 0 rfl) ?_
              refine xg_get (C := RX8) (T := TX8) (N := 46) S hK hG (fun w h => List.mem_cons_of_mem _ (List.mem_append_right _ (h))) b hM.1 rfl 14 (by decide) k0 (fun _ h9 => h9) rfl dX8_toldSet_72 ?_
              rw [hQ]
              exact xg_eri S hr hlk (by skip; simp [em_tol, c1, c13, c25, c37, c49, c61]) dX8_toldSet_75
            · skip
              refine lv_aload_n hx hb dX8_toldSet_64 rfl (lv_at hl 0 rfl) ?_
              refine xg_get (C := RX8) (T := TX8) (N := 46) S hK hG (fun w h => List.mem_cons_of_mem _ (List.mem_append_right _ (h))) b hM.1 rfl 13 (by decide) k1 (fun _ h9 => h9) rfl dX8_toldSet_65 ?_
              refine lv_goto (tgt := 75) hx hb dX8_toldSet_68 (by decide) ?_
              rw [hQ]
              exact xg_eri S hr hlk (by skip; simp [em_tol, c1, c13, c25, c37, c49, c61]) dX8_toldSet_75
          · skip
            refine lv_aload_n hx hb dX8_toldSet_52 rfl (lv_at hl 0 rfl) ?_
            refine xg_get (C := RX8) (T := TX8) (N := 46) S hK hG (fun w h => List.mem_cons_of_mem _ (List.mem_append_right _ (h))) b hM.1 rfl 12 (by decide) k2 (fun _ h9 => h9) rfl dX8_toldSet_53 ?_
            refine lv_goto (tgt := 75) hx hb dX8_toldSet_56 (by decide) ?_
            rw [hQ]
            exact xg_eri S hr hlk (by skip; simp [em_tol, c1, c13, c25, c37, c49]) dX8_toldSet_75
        · skip
          refine lv_aload_n hx hb dX8_toldSet_40 rfl (lv_at hl 0 rfl) ?_
          refine xg_get (C := RX8) (T := TX8) (N := 46) S hK hG (fun w h => List.mem_cons_of_mem _ (List.mem_append_right _ (h))) b hM.1 rfl 11 (by decide) k3 (fun _ h9 => h9) rfl dX8_toldSet_41 ?_
          refine lv_goto (tgt := 75) hx hb dX8_toldSet_44 (by decide) ?_
          rw [hQ]
          exact xg_eri S hr hlk (by skip; simp [em_tol, c1, c13, c25, c37]) dX8_toldSet_75
      · skip
        refine lv_aload_n hx hb dX8_toldSet_28 rfl (lv_at hl 0 rfl) ?_
        refine xg_get (C := RX8) (T := TX8) (N := 46) S hK hG (fun w h => List.mem_cons_of_mem _ (List.mem_append_right _ (h))) b hM.1 rfl 10 (by decide) k4 (fun _ h9 => h9) rfl dX8_toldSet_29 ?_
        refine lv_goto (tgt := 75) hx hb dX8_toldSet_32 (by decide) ?_
        rw [hQ]
        exact xg_eri S hr hlk (by skip; simp [em_tol, c1, c13, c25]) dX8_toldSet_75
    · skip
      refine lv_aload_n hx hb dX8_toldSet_16 rfl (lv_at hl 0 rfl) ?_
      refine xg_get (C := RX8) (T := TX8) (N := 46) S hK hG (fun w h => List.mem_cons_of_mem _ (List.mem_append_right _ (h))) b hM.1 rfl 9 (by decide) k5 (fun _ h9 => h9) rfl dX8_toldSet_17 ?_
      refine lv_goto (tgt := 75) hx hb dX8_toldSet_20 (by decide) ?_
      rw [hQ]
      exact xg_eri S hr hlk (by skip; simp [em_tol, c1, c13]) dX8_toldSet_75
  · skip
    refine lv_aload_n hx hb dX8_toldSet_4 rfl (lv_at hl 0 rfl) ?_
    refine xg_get (C := RX8) (T := TX8) (N := 46) S hK hG (fun w h => List.mem_cons_of_mem _ (List.mem_append_right _ (h))) b hM.1 rfl 8 (by decide) k6 (fun _ h9 => h9) rfl dX8_toldSet_5 ?_
    refine lv_goto (tgt := 75) hx hb dX8_toldSet_8 (by decide) ?_
    rw [hQ]
    exact xg_eri S hr hlk (by skip; simp [em_tol, c1]) dX8_toldSet_75
