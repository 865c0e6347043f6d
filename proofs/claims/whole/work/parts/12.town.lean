set_option maxHeartbeats 4000000 in
set_option maxRecDepth 100000 in
theorem mX5_worthDone (l : Launch) (D : va_G) (cI cZ : ClassId) (bs : Nat) (ad : Nat → Nat) (ws : va_W) (b : Nat) (T : Nat → Nat → Int32) (hT : xv_T cI ad ws b T) (p : Int32) (y : Int32) (q : Int32) : Met l yX5_worthDone wsX5_worthDone ({ frames := 2, cells := 0, slots := 0, locals := 47 } : Room) (va_Pc [.ref (ad b), .int p, .int y, .int q] (fun U => xg_W D cI cZ bs ws U)) (xg_Ri (fun r : Int32 => r = dt_wdn T p y q)) 0 0 xg_F := by
  refine xg_met cX5_worthDone 5 (some .int) RX5 (by decide) rfl rfl (Nat.le_of_ble_eq_true rfl) ?_
  intro pg en s m below meth c ls S hr hlk hnm hB hl
  have hK := hB.1
  have hG := xg_start hB
  obtain ⟨hx, hb, hml, hown, hts⟩ := id S
  have hl : lv_has ls 5 [(0, .ref (ad b)), (1, .int p), (2, .int y), (3, .int q)] := hl
  obtain ⟨Q, hQ⟩ : ∃ Q, Q = MQ below (xg_Ri (fun r : Int32 => r = dt_wdn T p y q)) ([.ref (ad b), .int p, .int y, .int q] : List Value).toArray s 0 0 xg_F := ⟨_, rfl⟩
  rw [← hQ]
  have k0 := hts (.fieldLink RX5 9 "DareBridge$Town" "rules" "[I") (List.mem_of_getElem? (i := 1) rfl)
  have k1 := hts (.initialized RX7) (List.mem_of_getElem? (i := 4) rfl)
  have k2 := hts (.static yX7_at) (List.mem_of_getElem? (i := 3) rfl)
  have k3 := hts (.fieldLink RX5 21 "DareBridge$Town" "fear" "[I") (List.mem_of_getElem? (i := 2) rfl)
  refine lv_aload_n hx hb dX5_worthDone_0 rfl (lv_at hl 0 rfl) ?_
  refine xg_get (C := RX5) (T := TX5) (N := 13) S hK hG (fun w h => List.mem_cons_of_mem _ (List.mem_append_right _ (h))) b hT.1 rfl 0 (by decide) k0 (fun _ h9 => h9) rfl dX5_worthDone_1 ?_
  refine lv_iconst (v := 2) hx hb dX5_worthDone_4 (by decide) ?_
  refine xg_ri (va_runSN (As := [.ref (ad (b + 1)), .int 2]) (rest := []) S (mX7_at l D cI cZ bs ad ws (b + 1) 7 (T 0) (show ws[b + 1]? = some (ad (b + 1), .inl (cI, 7, .inl (T 0))) from hT.2 0 (by decide)) 2 (by decide)) ⟨(va_cnB 2 hts gX5_worthDone_X7_at_n59 rfl rfl rfl (hK.2.1 _ xg_nest_10) k1 (by decide +kernel) ⟨Nat.le_of_ble_eq_true rfl, Nat.le_of_ble_eq_true rfl⟩), k2, trivial⟩ (xg_preS hK hG) rfl rfl hl.1 rfl (lv_room (Nat.le_of_ble_eq_true rfl)) dX5_worthDone_5 ⟨Nat.zero_le _, Nat.zero_le _⟩) (fun r1 hr1 => ?_)
  replace hr1 := hr1.symm; subst hr1
  refine lv_aload_n hx hb dX5_worthDone_8 rfl (lv_at hl 0 rfl) ?_
  refine xg_get (C := RX5) (T := TX5) (N := 13) S hK hG (fun w h => List.mem_cons_of_mem _ (List.mem_append_right _ (h))) b hT.1 rfl 3 (by decide) k3 (fun _ h9 => h9) rfl dX5_worthDone_9 ?_
  refine lv_iload_n hx hb dX5_worthDone_12 rfl (lv_at hl 1 rfl) ?_
  refine xg_ri (va_runSN (As := [.ref (ad (b + 4)), .int p]) (rest := [.int (xb_at 7 (T 0) 2)]) S (mX7_at l D cI cZ bs ad ws (b + 4) 6 (T 3) (show ws[b + 4]? = some (ad (b + 4), .inl (cI, 6, .inl (T 3))) from hT.2 3 (by decide)) p (by decide)) ⟨(va_cnB 2 hts gX5_worthDone_X7_at_n59 rfl rfl rfl (hK.2.1 _ xg_nest_10) k1 (by decide +kernel) ⟨Nat.le_of_ble_eq_true rfl, Nat.le_of_ble_eq_true rfl⟩), k2, trivial⟩ (xg_preS hK hG) rfl rfl hl.1 rfl (lv_room (Nat.le_of_ble_eq_true rfl)) dX5_worthDone_13 ⟨Nat.zero_le _, Nat.zero_le _⟩) (fun r2 hr2 => ?_)
  replace hr2 := hr2.symm; subst hr2
  refine lv_iload_n hx hb dX5_worthDone_16 rfl (lv_at hl 2 rfl) ?_
  refine lv_imul hx hb dX5_worthDone_17 ?_
  refine lv_iadd hx hb dX5_worthDone_18 ?_
  refine lv_topi (fun x3 ex3 => ?_)
  replace ex3 := ex3.symm
  refine lv_istore (lv' := [(4, .int x3), (0, .ref (ad b)), (1, .int p), (2, .int y), (3, .int q)]) hx hb dX5_worthDone_19 hl (by decide) rfl (fun ls hl => ?_)
  refine lv_bipush (v := 10) hx hb dX5_worthDone_21 (by decide) ?_
  refine lv_iload_n hx hb dX5_worthDone_23 rfl (lv_at hl 4 rfl) ?_
  refine lv_imul hx hb dX5_worthDone_24 ?_
  refine lv_iload_n hx hb dX5_worthDone_25 rfl (lv_at hl 3 rfl) ?_
  refine lv_imul hx hb dX5_worthDone_26 ?_
  refine lv_aload_n hx hb dX5_worthDone_27 rfl (lv_at hl 1 rfl) ?_
  refine lv_iload_n hx hb dX5_worthDone_28 rfl (lv_at hl 2 rfl) ?_
  refine lv_iload_n hx hb dX5_worthDone_29 rfl (lv_at hl 3 rfl) ?_
  refine xg_ri (va_runV (As := [.int p, .int y]) (rest := [.int ((10 * q) * y)]) S (mX5_oddsOf l D cI cZ bs ad ws b T hT p y) (cwV 2 hts gX5_worthDone_X5_oddsOf rfl rfl rfl (by decide +kernel) ⟨Nat.le_of_ble_eq_true rfl, Nat.le_of_ble_eq_true rfl⟩) (xg_preV hK hG b hT.1 rfl rfl) rfl rfl hl.1 rfl (lv_room (Nat.le_of_ble_eq_true rfl)) dX5_worthDone_30 ⟨Nat.zero_le _, Nat.zero_le _⟩) (fun r4 hr4 => ?_)
  replace hr4 := hr4.symm; subst hr4
  refine lv_iload hx hb dX5_worthDone_33 (lv_at hl 0 rfl) ?_
  refine lv_imul hx hb dX5_worthDone_35 ?_
  refine lv_isub hx hb dX5_worthDone_36 ?_
  rw [hQ]
  exact xg_eri S hr hlk (by subst ex3; rfl) dX5_worthDone_37
set_option maxHeartbeats 4000000 in
set_option maxRecDepth 100000 in
theorem mX5_worthRefused (l : Launch) (D : va_G) (cI cZ : ClassId) (bs : Nat) (ad : Nat → Nat) (ws : va_W) (y : Int32) (q : Int32) : Met l yX5_worthRefused wsX5_worthRefused ({ frames := 0, cells := 0, slots := 0, locals := 0 } : Room) (va_Pc [.int y, .int q] (fun U => xg_W D cI cZ bs ws U)) (xg_Ri (fun r : Int32 => r = dt_wrf y q)) 0 0 xg_F := by
  refine xg_met cX5_worthRefused 2 (some .int) RX5 (by decide) rfl rfl (Nat.le_of_ble_eq_true rfl) ?_
  intro pg en s m below meth c ls S hr hlk hnm hB hl
  have hK := hB.1
  have hG := xg_start hB
  obtain ⟨hx, hb, hml, hown, hts⟩ := id S
  have hl : lv_has ls 2 [(0, .int y), (1, .int q)] := hl
  obtain ⟨Q, hQ⟩ : ∃ Q, Q = MQ below (xg_Ri (fun r : Int32 => r = dt_wrf y q)) ([.int y, .int q] : List Value).toArray s 0 0 xg_F := ⟨_, rfl⟩
  rw [← hQ]
  refine lv_bipush (v := (-10)) hx hb dX5_worthRefused_0 (by decide) ?_
  refine lv_iload_n hx hb dX5_worthRefused_2 rfl (lv_at hl 1 rfl) ?_
  refine lv_imul hx hb dX5_worthRefused_3 ?_
  refine lv_iload_n hx hb dX5_worthRefused_4 rfl (lv_at hl 0 rfl) ?_
  refine lv_iconst (v := 2) hx hb dX5_worthRefused_5 (by decide) ?_
  refine lv_idiv hx hb dX5_worthRefused_6 (by decide) ?_
  refine lv_imul hx hb dX5_worthRefused_7 ?_
  rw [hQ]
  exact xg_eri S hr hlk (by skip; rfl) dX5_worthRefused_8
set_option maxHeartbeats 4000000 in
set_option maxRecDepth 100000 in
theorem mX5_dares (l : Launch) (D : va_G) (cI cZ : ClassId) (bs : Nat) (ad : Nat → Nat) (ws : va_W) (b : Nat) (T : Nat → Nat → Int32) (hT : xv_T cI ad ws b T) (p : Int32) (y : Int32) (q : Int32) : Met l yX5_dares wsX5_dares ({ frames := 3, cells := 0, slots := 0, locals := 71 } : Room) (va_Pc [.ref (ad b), .int p, .int y, .int q] (fun U => xg_W D cI cZ bs ws U)) (xg_Ri (fun r : Int32 => r = xb_i (dt_drs T p y q))) 0 0 xg_F := by
  refine xg_met cX5_dares 4 (some .boolean) RX5 (by decide) rfl rfl (Nat.le_of_ble_eq_true rfl) ?_
  intro pg en s m below meth c ls S hr hlk hnm hB hl
  have hK := hB.1
  have hG := xg_start hB
  obtain ⟨hx, hb, hml, hown, hts⟩ := id S
  have hl : lv_has ls 4 [(0, .ref (ad b)), (1, .int p), (2, .int y), (3, .int q)] := hl
  obtain ⟨Q, hQ⟩ : ∃ Q, Q = MQ below (xg_Ri (fun r : Int32 => r = xb_i (dt_drs T p y q))) ([.ref (ad b), .int p, .int y, .int q] : List Value).toArray s 0 0 xg_F := ⟨_, rfl⟩
  rw [← hQ]
  refine lv_aload_n hx hb dX5_dares_0 rfl (lv_at hl 0 rfl) ?_
  refine lv_iload_n hx hb dX5_dares_1 rfl (lv_at hl 1 rfl) ?_
  refine lv_iload_n hx hb dX5_dares_2 rfl (lv_at hl 2 rfl) ?_
  refine lv_iload_n hx hb dX5_dares_3 rfl (lv_at hl 3 rfl) ?_
  refine xg_ri (va_runV (As := [.int p, .int y, .int q]) (rest := []) S (mX5_worthDone l D cI cZ bs ad ws b T hT p y q) (cwV 3 hts gX5_dares_X5_worthDone rfl rfl rfl (by decide +kernel) ⟨Nat.le_of_ble_eq_true rfl, Nat.le_of_ble_eq_true rfl⟩) (xg_preV hK hG b hT.1 rfl rfl) rfl rfl hl.1 rfl (lv_room (Nat.le_of_ble_eq_true rfl)) dX5_dares_4 ⟨Nat.zero_le _, Nat.zero_le _⟩) (fun r1 hr1 => ?_)
  replace hr1 := hr1.symm; subst hr1
  refine lv_iload_n hx hb dX5_dares_7 rfl (lv_at hl 2 rfl) ?_
  refine lv_iload_n hx hb dX5_dares_8 rfl (lv_at hl 3 rfl) ?_
  refine xg_ri (va_runS (As := [.int y, .int q]) (rest := [.int (dt_wdn T p y q)]) S (mX5_worthRefused l D cI cZ bs ad ws y q) (va_cwS 2 hts gX5_dares_X5_worthRefused rfl rfl rfl (by decide +kernel) ⟨Nat.le_of_ble_eq_true rfl, Nat.le_of_ble_eq_true rfl⟩) (xg_preS hK hG) rfl rfl hl.1 rfl (lv_room (Nat.le_of_ble_eq_true rfl)) dX5_dares_9 ⟨Nat.zero_le _, Nat.zero_le _⟩) (fun r2 hr2 => ?_)
  replace hr2 := hr2.symm; subst hr2
  refine lv_icmp_lt (tgt := 19) hx hb dX5_dares_12 (by decide) (fun c12 => ?_) (fun c12 => ?_)
  · skip
    refine lv_iconst (v := 0) hx hb dX5_dares_19 (by decide) ?_
    rw [hQ]
    exact xg_erz S hr hlk rfl (by skip; simp [dt_drs, xb_i, c12]) dX5_dares_20
  · skip
    refine lv_iconst (v := 1) hx hb dX5_dares_15 (by decide) ?_
    refine lv_goto (tgt := 20) hx hb dX5_dares_16 (by decide) ?_
    rw [hQ]
    exact xg_erz S hr hlk rfl (by skip; simp [dt_drs, xb_i, c12]) dX5_dares_20
set_option maxHeartbeats 4000000 in
set_option maxRecDepth 100000 in
theorem mX5_leastRefused (l : Launch) (D : va_G) (cI cZ : ClassId) (bs : Nat) (ad : Nat → Nat) (ws : va_W) (b : Nat) (T : Nat → Nat → Int32) (hT : xv_T cI ad ws b T) (p : Int32) : Met l yX5_leastRefused wsX5_leastRefused ({ frames := 4, cells := 0, slots := 0, locals := 94 } : Room) (va_Pc [.ref (ad b), .int p] (fun U => xg_W D cI cZ bs ws U)) (xg_Ri (fun r : Int32 => r = dt_lrf T p)) 0 0 xg_F := by
  refine xg_met cX5_leastRefused 3 (some .int) RX5 (by decide) rfl rfl (Nat.le_of_ble_eq_true rfl) ?_
  intro pg en s m below meth c ls S hr hlk hnm hB hl
  have hK := hB.1
  have hG := xg_start hB
  obtain ⟨hx, hb, hml, hown, hts⟩ := id S
  have hl : lv_has ls 3 [(0, .ref (ad b)), (1, .int p)] := hl
  obtain ⟨Q, hQ⟩ : ∃ Q, Q = MQ below (xg_Ri (fun r : Int32 => r = dt_lrf T p)) ([.ref (ad b), .int p] : List Value).toArray s 0 0 xg_F := ⟨_, rfl⟩
  rw [← hQ]
  have k0 := hts (.fieldLink RX5 24 "DareBridge$Town" "pride" "[I") (List.mem_of_getElem? (i := 1) rfl)
  have k1 := hts (.initialized RX7) (List.mem_of_getElem? (i := 3) rfl)
  have k2 := hts (.static yX7_at) (List.mem_of_getElem? (i := 2) rfl)
  refine lv_iconst (v := 1) hx hb dX5_leastRefused_0 (by decide) ?_
  refine lv_istore_n (lv' := [(2, .int 1), (0, .ref (ad b)), (1, .int p)]) hx hb dX5_leastRefused_1 rfl hl (by decide) rfl (fun ls hl => ?_)
  -- the loop at 2
  have lp2 : ∀ (fu : Nat) (k : Nat), (k ≤ 16) → (17 ≤ k + fu) → (xw_first (dt_dfs T p) 15 1 = xw_first (dt_dfs T p) (16 - k) k) → ∀ y2_2 : Int32, y2_2 = nI k → ∀ (ls : Array Slot), lv_has ls 3 [(0, .ref (ad b)), (1, .int p), (2, .int y2_2)] → W pg l en ({ frames := 4, cells := 0, slots := 0, locals := 94 } : Room) s m ([.ref (ad b), .int p] : List Value).toArray below meth c s.heap [] 0 0 Q (F0 m 2 ls []) := by
    intro fu
    induction fu with
    | zero =>
      intro k hk hf hr2
      exact absurd hf (by omega)
    | succ fu ih =>
      intro k hk hf hr2 y2_2 ey2_2
      intro ls hl
      replace ey2_2 := ey2_2.symm; subst ey2_2
      refine lv_iload_n hx hb dX5_leastRefused_2 rfl (lv_at hl 2 rfl) ?_
      refine lv_bipush (v := 15) hx hb dX5_leastRefused_3 (by decide) ?_
      refine lv_icmp_gt (tgt := 33) hx hb dX5_leastRefused_5 (by decide) (fun c5 => ?_) (fun c5 => ?_)
      · skip
        have hk9 : k = 16 := by have := xb_gt (k := k) (n := 15) (by omega) (by decide) c5; omega
        subst hk9
        refine lv_bipush (v := 16) hx hb dX5_leastRefused_33 (by decide) ?_
        rw [hQ]
        exact xg_eri S hr hlk (by skip; (unfold dt_lrf; rw [hr2]; rfl)) dX5_leastRefused_35
      · skip
        have hk9 : k ≤ 15 := xb_ngt (k := k) (n := 15) (by omega) (by decide) c5
        refine lv_aload_n hx hb dX5_leastRefused_8 rfl (lv_at hl 0 rfl) ?_
        refine lv_iload_n hx hb dX5_leastRefused_9 rfl (lv_at hl 1 rfl) ?_
        refine lv_iload_n hx hb dX5_leastRefused_10 rfl (lv_at hl 2 rfl) ?_
        refine lv_aload_n hx hb dX5_leastRefused_11 rfl (lv_at hl 0 rfl) ?_
        refine xg_get (C := RX5) (T := TX5) (N := 13) S hK hG (fun w h => List.mem_cons_of_mem _ (List.mem_append_right _ (h))) b hT.1 rfl 4 (by decide) k0 (fun _ h9 => h9) rfl dX5_leastRefused_12 ?_
        refine lv_iload_n hx hb dX5_leastRefused_15 rfl (lv_at hl 1 rfl) ?_
        refine xg_ri (va_runSN (As := [.ref (ad (b + 5)), .int p]) (rest := [.int (nI k), .int p, .ref (ad b)]) S (mX7_at l D cI cZ bs ad ws (b + 5) 6 (T 4) (show ws[b + 5]? = some (ad (b + 5), .inl (cI, 6, .inl (T 4))) from hT.2 4 (by decide)) p (by decide)) ⟨(va_cnB 2 hts gX5_leastRefused_X7_at_n59 rfl rfl rfl (hK.2.1 _ xg_nest_10) k1 (by decide +kernel) ⟨Nat.le_of_ble_eq_true rfl, Nat.le_of_ble_eq_true rfl⟩), k2, trivial⟩ (xg_preS hK hG) rfl rfl hl.1 rfl (lv_room (Nat.le_of_ble_eq_true rfl)) dX5_leastRefused_16 ⟨Nat.zero_le _, Nat.zero_le _⟩) (fun r1 hr1 => ?_)
        replace hr1 := hr1.symm; subst hr1
        refine xg_ri (va_runV (As := [.int p, .int (nI k), .int (xb_at 6 (T 4) p)]) (rest := []) S (mX5_dares l D cI cZ bs ad ws b T hT p (nI k) (xb_at 6 (T 4) p)) (cwV 3 hts gX5_leastRefused_X5_dares rfl rfl rfl (by decide +kernel) ⟨Nat.le_of_ble_eq_true rfl, Nat.le_of_ble_eq_true rfl⟩) (xg_preV hK hG b hT.1 rfl rfl) rfl rfl hl.1 rfl (lv_room (Nat.le_of_ble_eq_true rfl)) dX5_leastRefused_19 ⟨Nat.zero_le _, Nat.zero_le _⟩) (fun r2 hr2 => ?_)
        replace hr2 := hr2.symm; subst hr2
        refine xb_ifne (tgt := 27) S dX5_leastRefused_22 (by decide) (fun c22 => ?_) (fun c22 => ?_)
        · skip
          obtain ⟨x3, ex3⟩ : ∃ zz : Int32, (nI k) + 1 = zz := ⟨_, rfl⟩
          refine lv_iinc (v := x3) (lv' := [(2, .int x3), (0, .ref (ad b)), (1, .int p)]) hx hb dX5_leastRefused_27 hl (k := 2) rfl (by rw [← ex3]; rfl) (by decide) rfl (fun ls hl => ?_)
          refine lv_goto (tgt := 2) hx hb dX5_leastRefused_30 (by decide) ?_
          exact ih (k + 1) (by omega) (by omega) (by rw [hr2, show 16 - k = (16 - (k + 1)) + 1 by omega, xw_first, if_pos (show dt_dfs T p k = true from c22)]) x3 (by subst ex3; exact nI_1 k) ls (lv_sub hl [1, 2, 0] rfl)
        · skip
          refine lv_iload_n hx hb dX5_leastRefused_25 rfl (lv_at hl 2 rfl) ?_
          rw [hQ]
          exact xg_eri S hr hlk (by skip; (unfold dt_lrf; rw [hr2, show 16 - k = (16 - (k + 1)) + 1 by omega, xw_first, if_neg (Bool.eq_false_iff.mp (show dt_dfs T p k = false from c22))])) dX5_leastRefused_26
  exact lp2 17 1 (by omega) (by omega) rfl 1 (by skip; rfl) ls (lv_sub hl [1, 2, 0] rfl)
set_option maxHeartbeats 4000000 in
set_option maxRecDepth 100000 in
theorem mX5_surest (l : Launch) (D : va_G) (cI cZ : ClassId) (bs : Nat) (ad : Nat → Nat) (ws : va_W) (b : Nat) (T : Nat → Nat → Int32) (hT : xv_T cI ad ws b T) (p : Int32) : Met l yX5_surest wsX5_surest ({ frames := 2, cells := 0, slots := 0, locals := 47 } : Room) (va_Pc [.ref (ad b), .int p] (fun U => xg_W D cI cZ bs ws U)) (xg_Ri (fun r : Int32 => r = dt_sur T p)) 0 0 xg_F := by
  refine xg_met cX5_surest 3 (some .int) RX5 (by decide) rfl rfl (Nat.le_of_ble_eq_true rfl) ?_
  intro pg en s m below meth c ls S hr hlk hnm hB hl
  have hK := hB.1
  have hG := xg_start hB
  obtain ⟨hx, hb, hml, hown, hts⟩ := id S
  have hl : lv_has ls 3 [(0, .ref (ad b)), (1, .int p)] := hl
  obtain ⟨Q, hQ⟩ : ∃ Q, Q = MQ below (xg_Ri (fun r : Int32 => r = dt_sur T p)) ([.ref (ad b), .int p] : List Value).toArray s 0 0 xg_F := ⟨_, rfl⟩
  rw [← hQ]
  refine lv_bipush (v := 15) hx hb dX5_surest_0 (by decide) ?_
  refine lv_istore_n (lv' := [(2, .int 15), (0, .ref (ad b)), (1, .int p)]) hx hb dX5_surest_2 rfl hl (by decide) rfl (fun ls hl => ?_)
  -- the loop at 3
  have lp3 : ∀ (fu : Nat) (k : Nat), (k ≤ 15) → (k < fu) → (xw_down (fun k => decide (dt_odd T p (nI k) = 0)) 15 = xw_down (fun k => decide (dt_odd T p (nI k) = 0)) k) → ∀ y3_2 : Int32, y3_2 = nI k → ∀ (ls : Array Slot), lv_has ls 3 [(0, .ref (ad b)), (1, .int p), (2, .int y3_2)] → W pg l en ({ frames := 2, cells := 0, slots := 0, locals := 47 } : Room) s m ([.ref (ad b), .int p] : List Value).toArray below meth c s.heap [] 0 0 Q (F0 m 3 ls []) := by
    intro fu
    induction fu with
    | zero =>
      intro k hk hf hr2
      exact absurd hf (by omega)
    | succ fu ih =>
      intro k hk hf hr2 y3_2 ey3_2
      intro ls hl
      replace ey3_2 := ey3_2.symm; subst ey3_2
      refine lv_iload_n hx hb dX5_surest_3 rfl (lv_at hl 2 rfl) ?_
      refine lv_iconst (v := 1) hx hb dX5_surest_4 (by decide) ?_
      refine lv_icmp_lt (tgt := 25) hx hb dX5_surest_5 (by decide) (fun c5 => ?_) (fun c5 => ?_)
      · skip
        have hk9 : k = 0 := by have := (nI_ltI (a := k) (b := 1) (by omega) (by decide)).mp c5; omega
        subst hk9
        refine lv_iconst (v := 0) hx hb dX5_surest_25 (by decide) ?_
        rw [hQ]
        exact xg_eri S hr hlk (by skip; (unfold dt_sur; rw [hr2]; rfl)) dX5_surest_26
      · skip
        have hk9 : 0 < k := xb_nlt (k := k) (n := 1) (by omega) (by decide) c5
        refine lv_aload_n hx hb dX5_surest_8 rfl (lv_at hl 0 rfl) ?_
        refine lv_iload_n hx hb dX5_surest_9 rfl (lv_at hl 1 rfl) ?_
        refine lv_iload_n hx hb dX5_surest_10 rfl (lv_at hl 2 rfl) ?_
        refine xg_ri (va_runV (As := [.int p, .int (nI k)]) (rest := []) S (mX5_oddsOf l D cI cZ bs ad ws b T hT p (nI k)) (cwV 2 hts gX5_surest_X5_oddsOf rfl rfl rfl (by decide +kernel) ⟨Nat.le_of_ble_eq_true rfl, Nat.le_of_ble_eq_true rfl⟩) (xg_preV hK hG b hT.1 rfl rfl) rfl rfl hl.1 rfl (lv_room (Nat.le_of_ble_eq_true rfl)) dX5_surest_11 ⟨Nat.zero_le _, Nat.zero_le _⟩) (fun r1 hr1 => ?_)
        replace hr1 := hr1.symm; subst hr1
        refine lv_if_ne (tgt := 19) hx hb dX5_surest_14 (by decide) (fun c14 => ?_) (fun c14 => ?_)
        · skip
          obtain ⟨x2, ex2⟩ : ∃ zz : Int32, (nI k) + (-1) = zz := ⟨_, rfl⟩
          refine lv_iinc (v := x2) (lv' := [(2, .int x2), (0, .ref (ad b)), (1, .int p)]) hx hb dX5_surest_19 hl (k := 2) rfl (by rw [← ex2]; rfl) (by decide) rfl (fun ls hl => ?_)
          refine lv_goto (tgt := 3) hx hb dX5_surest_22 (by decide) ?_
          exact ih (k - 1) (by omega) (by omega) (hr2.trans (xw_down_no hk9 (by simp [c14]))) x2 (by subst ex2; exact xb_dec hk9) ls (lv_sub hl [1, 2, 0] rfl)
        · skip
          refine lv_iload_n hx hb dX5_surest_17 rfl (lv_at hl 2 rfl) ?_
          rw [hQ]
          exact xg_eri S hr hlk (by skip; (unfold dt_sur; rw [hr2, xw_down_yes hk9 (by simp [c14])])) dX5_surest_18
  exact lp3 16 15 (by omega) (by omega) rfl 15 (by skip; rfl) ls (lv_sub hl [1, 2, 0] rfl)
set_option maxHeartbeats 4000000 in
set_option maxRecDepth 100000 in
theorem mX5_whyNot (l : Launch) (D : va_G) (cI cZ : ClassId) (bs : Nat) (ad : Nat → Nat) (ws : va_W) (b : Nat) (T : Nat → Nat → Int32) (hT : xv_T cI ad ws b T) (p : Int32) (p2 : Int32) (y : Int32) : Met l yX5_whyNot wsX5_whyNot ({ frames := 2, cells := 0, slots := 0, locals := 42 } : Room) (va_Pc [.ref (ad b), .int p, .int p2, .int y] (fun U => xg_W D cI cZ bs ws U)) (xg_Ri (fun r : Int32 => r = dt_why T p p2 y)) 0 0 xg_F := by
  refine xg_met cX5_whyNot 4 (some .int) RX5 (by decide) rfl rfl (Nat.le_of_ble_eq_true rfl) ?_
  intro pg en s m below meth c ls S hr hlk hnm hB hl
  have hK := hB.1
  have hG := xg_start hB
  obtain ⟨hx, hb, hml, hown, hts⟩ := id S
  have hl : lv_has ls 4 [(0, .ref (ad b)), (1, .int p), (2, .int p2), (3, .int y)] := hl
  obtain ⟨Q, hQ⟩ : ∃ Q, Q = MQ below (xg_Ri (fun r : Int32 => r = dt_why T p p2 y)) ([.ref (ad b), .int p, .int p2, .int y] : List Value).toArray s 0 0 xg_F := ⟨_, rfl⟩
  rw [← hQ]
  have k0 := hts (.fieldLink RX5 36 "DareBridge$Town" "plaster" "[I") (List.mem_of_getElem? (i := 1) rfl)
  have k1 := hts (.initialized RX7) (List.mem_of_getElem? (i := 11) rfl)
  have k2 := hts (.static yX7_at) (List.mem_of_getElem? (i := 10) rfl)
  have k3 := hts (.fieldLink RX5 30 "DareBridge$Town" "high" "[I") (List.mem_of_getElem? (i := 2) rfl)
  have k4 := hts (.fieldLink RX5 9 "DareBridge$Town" "rules" "[I") (List.mem_of_getElem? (i := 3) rfl)
  refine lv_aload_n hx hb dX5_whyNot_0 rfl (lv_at hl 0 rfl) ?_
  refine lv_iload_n hx hb dX5_whyNot_1 rfl (lv_at hl 1 rfl) ?_
  refine xg_ri (va_runV (As := [.int p]) (rest := []) S (mX5_isThere l D cI cZ bs ad ws b T hT p) (cwV 1 hts gX5_whyNot_X5_isThere rfl rfl rfl (by decide +kernel) ⟨Nat.le_of_ble_eq_true rfl, Nat.le_of_ble_eq_true rfl⟩) (xg_preV hK hG b hT.1 rfl rfl) rfl rfl hl.1 rfl (lv_room (Nat.le_of_ble_eq_true rfl)) dX5_whyNot_2 ⟨Nat.zero_le _, Nat.zero_le _⟩) (fun r1 hr1 => ?_)
  replace hr1 := hr1.symm; subst hr1
  refine xb_ifeq (tgt := 21) S dX5_whyNot_5 (by decide) (fun c5 => ?_) (fun c5 => ?_)
  · skip
    refine lv_iconst (v := 1) hx hb dX5_whyNot_21 (by decide) ?_
    rw [hQ]
    exact xg_eri S hr hlk (by skip; simp [dt_why, c5]) dX5_whyNot_22
  · skip
    refine lv_aload_n hx hb dX5_whyNot_8 rfl (lv_at hl 0 rfl) ?_
    refine lv_iload_n hx hb dX5_whyNot_9 rfl (lv_at hl 2 rfl) ?_
    refine xg_ri (va_runV (As := [.int p2]) (rest := []) S (mX5_isThere l D cI cZ bs ad ws b T hT p2) (cwV 1 hts gX5_whyNot_X5_isThere rfl rfl rfl (by decide +kernel) ⟨Nat.le_of_ble_eq_true rfl, Nat.le_of_ble_eq_true rfl⟩) (xg_preV hK hG b hT.1 rfl rfl) rfl rfl hl.1 rfl (lv_room (Nat.le_of_ble_eq_true rfl)) dX5_whyNot_10 ⟨Nat.zero_le _, Nat.zero_le _⟩) (fun r2 hr2 => ?_)
    replace hr2 := hr2.symm; subst hr2
    refine xb_ifeq (tgt := 21) S dX5_whyNot_13 (by decide) (fun c13 => ?_) (fun c13 => ?_)
    · skip
      refine lv_iconst (v := 1) hx hb dX5_whyNot_21 (by decide) ?_
      rw [hQ]
      exact xg_eri S hr hlk (by skip; simp [dt_why, c5, c13]) dX5_whyNot_22
    · skip
      refine lv_iload_n hx hb dX5_whyNot_16 rfl (lv_at hl 1 rfl) ?_
      refine lv_iload_n hx hb dX5_whyNot_17 rfl (lv_at hl 2 rfl) ?_
      refine lv_icmp_ne (tgt := 23) hx hb dX5_whyNot_18 (by decide) (fun c18 => ?_) (fun c18 => ?_)
      · skip
        refine lv_aload_n hx hb dX5_whyNot_23 rfl (lv_at hl 0 rfl) ?_
        refine xg_get (C := RX5) (T := TX5) (N := 13) S hK hG (fun w h => List.mem_cons_of_mem _ (List.mem_append_right _ (h))) b hT.1 rfl 8 (by decide) k0 (fun _ h9 => h9) rfl dX5_whyNot_24 ?_
        refine lv_iload_n hx hb dX5_whyNot_27 rfl (lv_at hl 1 rfl) ?_
        refine xg_ri (va_runSN (As := [.ref (ad (b + 9)), .int p]) (rest := []) S (mX7_at l D cI cZ bs ad ws (b + 9) 6 (T 8) (show ws[b + 9]? = some (ad (b + 9), .inl (cI, 6, .inl (T 8))) from hT.2 8 (by decide)) p (by decide)) ⟨(va_cnB 2 hts gX5_whyNot_X7_at_n59 rfl rfl rfl (hK.2.1 _ xg_nest_10) k1 (by decide +kernel) ⟨Nat.le_of_ble_eq_true rfl, Nat.le_of_ble_eq_true rfl⟩), k2, trivial⟩ (xg_preS hK hG) rfl rfl hl.1 rfl (lv_room (Nat.le_of_ble_eq_true rfl)) dX5_whyNot_28 ⟨Nat.zero_le _, Nat.zero_le _⟩) (fun r3 hr3 => ?_)
        replace hr3 := hr3.symm; subst hr3
        refine lv_if_gt (tgt := 45) hx hb dX5_whyNot_31 (by decide) (fun c31 => ?_) (fun c31 => ?_)
        · skip
          refine lv_iconst (v := 2) hx hb dX5_whyNot_45 (by decide) ?_
          rw [hQ]
          exact xg_eri S hr hlk (by skip; simp [dt_why, c5, c13, c18, c31]) dX5_whyNot_46
        · skip
          refine lv_aload_n hx hb dX5_whyNot_34 rfl (lv_at hl 0 rfl) ?_
          refine xg_get (C := RX5) (T := TX5) (N := 13) S hK hG (fun w h => List.mem_cons_of_mem _ (List.mem_append_right _ (h))) b hT.1 rfl 8 (by decide) k0 (fun _ h9 => h9) rfl dX5_whyNot_35 ?_
          refine lv_iload_n hx hb dX5_whyNot_38 rfl (lv_at hl 2 rfl) ?_
          refine xg_ri (va_runSN (As := [.ref (ad (b + 9)), .int p2]) (rest := []) S (mX7_at l D cI cZ bs ad ws (b + 9) 6 (T 8) (show ws[b + 9]? = some (ad (b + 9), .inl (cI, 6, .inl (T 8))) from hT.2 8 (by decide)) p2 (by decide)) ⟨(va_cnB 2 hts gX5_whyNot_X7_at_n59 rfl rfl rfl (hK.2.1 _ xg_nest_10) k1 (by decide +kernel) ⟨Nat.le_of_ble_eq_true rfl, Nat.le_of_ble_eq_true rfl⟩), k2, trivial⟩ (xg_preS hK hG) rfl rfl hl.1 rfl (lv_room (Nat.le_of_ble_eq_true rfl)) dX5_whyNot_39 ⟨Nat.zero_le _, Nat.zero_le _⟩) (fun r4 hr4 => ?_)
          replace hr4 := hr4.symm; subst hr4
          refine lv_if_le (tgt := 47) hx hb dX5_whyNot_42 (by decide) (fun c42 => ?_) (fun c42 => ?_)
          · skip
            refine lv_iload_n hx hb dX5_whyNot_47 rfl (lv_at hl 3 rfl) ?_
            refine lv_aload_n hx hb dX5_whyNot_48 rfl (lv_at hl 0 rfl) ?_
            refine xg_get (C := RX5) (T := TX5) (N := 13) S hK hG (fun w h => List.mem_cons_of_mem _ (List.mem_append_right _ (h))) b hT.1 rfl 6 (by decide) k3 (fun _ h9 => h9) rfl dX5_whyNot_49 ?_
            refine lv_iload_n hx hb dX5_whyNot_52 rfl (lv_at hl 1 rfl) ?_
            refine xg_ri (va_runSN (As := [.ref (ad (b + 7)), .int p]) (rest := [.int y]) S (mX7_at l D cI cZ bs ad ws (b + 7) 6 (T 6) (show ws[b + 7]? = some (ad (b + 7), .inl (cI, 6, .inl (T 6))) from hT.2 6 (by decide)) p (by decide)) ⟨(va_cnB 2 hts gX5_whyNot_X7_at_n59 rfl rfl rfl (hK.2.1 _ xg_nest_10) k1 (by decide +kernel) ⟨Nat.le_of_ble_eq_true rfl, Nat.le_of_ble_eq_true rfl⟩), k2, trivial⟩ (xg_preS hK hG) rfl rfl hl.1 rfl (lv_room (Nat.le_of_ble_eq_true rfl)) dX5_whyNot_53 ⟨Nat.zero_le _, Nat.zero_le _⟩) (fun r5 hr5 => ?_)
            replace hr5 := hr5.symm; subst hr5
            refine lv_aload_n hx hb dX5_whyNot_56 rfl (lv_at hl 0 rfl) ?_
            refine xg_get (C := RX5) (T := TX5) (N := 13) S hK hG (fun w h => List.mem_cons_of_mem _ (List.mem_append_right _ (h))) b hT.1 rfl 0 (by decide) k4 (fun _ h9 => h9) rfl dX5_whyNot_57 ?_
            refine lv_iconst (v := 0) hx hb dX5_whyNot_60 (by decide) ?_
            refine xg_ri (va_runSN (As := [.ref (ad (b + 1)), .int 0]) (rest := [.int (xb_at 6 (T 6) p), .int y]) S (mX7_at l D cI cZ bs ad ws (b + 1) 7 (T 0) (show ws[b + 1]? = some (ad (b + 1), .inl (cI, 7, .inl (T 0))) from hT.2 0 (by decide)) 0 (by decide)) ⟨(va_cnB 2 hts gX5_whyNot_X7_at_n59 rfl rfl rfl (hK.2.1 _ xg_nest_10) k1 (by decide +kernel) ⟨Nat.le_of_ble_eq_true rfl, Nat.le_of_ble_eq_true rfl⟩), k2, trivial⟩ (xg_preS hK hG) rfl rfl hl.1 rfl (lv_room (Nat.le_of_ble_eq_true rfl)) dX5_whyNot_61 ⟨Nat.zero_le _, Nat.zero_le _⟩) (fun r6 hr6 => ?_)
            replace hr6 := hr6.symm; subst hr6
            refine lv_iadd hx hb dX5_whyNot_64 ?_
            refine lv_icmp_le (tgt := 70) hx hb dX5_whyNot_65 (by decide) (fun c65 => ?_) (fun c65 => ?_)
            · skip
              refine lv_iload_n hx hb dX5_whyNot_70 rfl (lv_at hl 3 rfl) ?_
              refine lv_aload_n hx hb dX5_whyNot_71 rfl (lv_at hl 0 rfl) ?_
              refine xg_get (C := RX5) (T := TX5) (N := 13) S hK hG (fun w h => List.mem_cons_of_mem _ (List.mem_append_right _ (h))) b hT.1 rfl 6 (by decide) k3 (fun _ h9 => h9) rfl dX5_whyNot_72 ?_
              refine lv_iload_n hx hb dX5_whyNot_75 rfl (lv_at hl 2 rfl) ?_
              refine xg_ri (va_runSN (As := [.ref (ad (b + 7)), .int p2]) (rest := [.int y]) S (mX7_at l D cI cZ bs ad ws (b + 7) 6 (T 6) (show ws[b + 7]? = some (ad (b + 7), .inl (cI, 6, .inl (T 6))) from hT.2 6 (by decide)) p2 (by decide)) ⟨(va_cnB 2 hts gX5_whyNot_X7_at_n59 rfl rfl rfl (hK.2.1 _ xg_nest_10) k1 (by decide +kernel) ⟨Nat.le_of_ble_eq_true rfl, Nat.le_of_ble_eq_true rfl⟩), k2, trivial⟩ (xg_preS hK hG) rfl rfl hl.1 rfl (lv_room (Nat.le_of_ble_eq_true rfl)) dX5_whyNot_76 ⟨Nat.zero_le _, Nat.zero_le _⟩) (fun r7 hr7 => ?_)
              replace hr7 := hr7.symm; subst hr7
              refine lv_icmp_gt (tgt := 86) hx hb dX5_whyNot_79 (by decide) (fun c79 => ?_) (fun c79 => ?_)
              · skip
                refine lv_iconst (v := 0) hx hb dX5_whyNot_86 (by decide) ?_
                rw [hQ]
                exact xg_eri S hr hlk (by skip; simp [dt_why, c5, c13, c18, c31, c42, c65, c79]) dX5_whyNot_87
              · skip
                refine lv_iconst (v := 4) hx hb dX5_whyNot_82 (by decide) ?_
                refine lv_goto (tgt := 87) hx hb dX5_whyNot_83 (by decide) ?_
                rw [hQ]
                exact xg_eri S hr hlk (by skip; simp [dt_why, c5, c13, c18, c31, c42, c65, c79]) dX5_whyNot_87
            · skip
              refine lv_iconst (v := 3) hx hb dX5_whyNot_68 (by decide) ?_
              rw [hQ]
              exact xg_eri S hr hlk (by skip; simp [dt_why, c5, c13, c18, c31, c42, c65]) dX5_whyNot_69
          · skip
            refine lv_iconst (v := 2) hx hb dX5_whyNot_45 (by decide) ?_
            rw [hQ]
            exact xg_eri S hr hlk (by skip; simp [dt_why, c5, c13, c18, c31, c42]) dX5_whyNot_46
      · skip
        refine lv_iconst (v := 1) hx hb dX5_whyNot_21 (by decide) ?_
        rw [hQ]
        exact xg_eri S hr hlk (by skip; simp [dt_why, c5, c13, c18]) dX5_whyNot_22
set_option maxHeartbeats 4000000 in
set_option maxRecDepth 100000 in
theorem mX5_refuse (l : Launch) (D : va_G) (cI cZ : ClassId) (bs : Nat) (ad : Nat → Nat) (ws : va_W) (b : Nat) (T : Nat → Nat → Int32) (hT : xv_T cI ad ws b T) (p : Int32) (y : Int32) : Met l yX5_refuse wsX5_refuse ({ frames := 1, cells := 0, slots := 0, locals := 22 } : Room) (va_Pc [.ref (ad b), .int p, .int y] (fun U => xg_W D cI cZ bs ws U)) (va_Qv (fun w : va_W => xv_T cI ad w b (dt_ref T p y) ∧ xv_S ws w b 13) (fun w t => xg_W D cI cZ bs w t) (xg_A bs)) 0 0 (xg_A bs) := by
  refine xg_met cX5_refuse 3 none RX5 (by decide) rfl rfl (Nat.le_of_ble_eq_true rfl) ?_
  intro pg en s m below meth c ls S hr hlk hnm hB hl
  have hK := hB.1
  have hG := xg_start hB
  obtain ⟨hx, hb, hml, hown, hts⟩ := id S
  have hl : lv_has ls 3 [(0, .ref (ad b)), (1, .int p), (2, .int y)] := hl
  obtain ⟨Q, hQ⟩ : ∃ Q, Q = MQ below (va_Qv (fun w : va_W => xv_T cI ad w b (dt_ref T p y) ∧ xv_S ws w b 13) (fun w t => xg_W D cI cZ bs w t) (xg_A bs)) ([.ref (ad b), .int p, .int y] : List Value).toArray s 0 0 (xg_A bs) := ⟨_, rfl⟩
  rw [← hQ]
  have k0 := hts (.fieldLink RX5 33 "DareBridge$Town" "fame" "[I") (List.mem_of_getElem? (i := 1) rfl)
  have k1 := hts (.initialized RX7) (List.mem_of_getElem? (i := 3) rfl)
  have k2 := hts (.static yX7_at) (List.mem_of_getElem? (i := 2) rfl)
  have k3 := hts (.static yX7_put) (List.mem_of_getElem? (i := 5) rfl)
  refine lv_aload_n hx hb dX5_refuse_0 rfl (lv_at hl 0 rfl) ?_
  refine xg_get (C := RX5) (T := TX5) (N := 13) S hK hG (fun w h => List.mem_cons_of_mem _ (List.mem_append_right _ (h))) b hT.1 rfl 7 (by decide) k0 (fun _ h9 => h9) rfl dX5_refuse_1 ?_
  refine lv_iload_n hx hb dX5_refuse_4 rfl (lv_at hl 1 rfl) ?_
  refine lv_aload_n hx hb dX5_refuse_5 rfl (lv_at hl 0 rfl) ?_
  refine xg_get (C := RX5) (T := TX5) (N := 13) S hK hG (fun w h => List.mem_cons_of_mem _ (List.mem_append_right _ (h))) b hT.1 rfl 7 (by decide) k0 (fun _ h9 => h9) rfl dX5_refuse_6 ?_
  refine lv_iload_n hx hb dX5_refuse_9 rfl (lv_at hl 1 rfl) ?_
  refine xg_ri (va_runSN (As := [.ref (ad (b + 8)), .int p]) (rest := [.int p, .ref (ad (b + 8))]) S (mX7_at l D cI cZ bs ad ws (b + 8) 6 (T 7) (show ws[b + 8]? = some (ad (b + 8), .inl (cI, 6, .inl (T 7))) from hT.2 7 (by decide)) p (by decide)) ⟨(va_cnB 2 hts gX5_refuse_X7_at_n59 rfl rfl rfl (hK.2.1 _ xg_nest_10) k1 (by decide +kernel) ⟨Nat.le_of_ble_eq_true rfl, Nat.le_of_ble_eq_true rfl⟩), k2, trivial⟩ (xg_preS hK hG) rfl rfl hl.1 rfl (lv_room (Nat.le_of_ble_eq_true rfl)) dX5_refuse_10 ⟨Nat.zero_le _, Nat.zero_le _⟩) (fun r1 hr1 => ?_)
  replace hr1 := hr1.symm; subst hr1
  refine lv_iload_n hx hb dX5_refuse_13 rfl (lv_at hl 2 rfl) ?_
  refine lv_iconst (v := 2) hx hb dX5_refuse_14 (by decide) ?_
  refine lv_idiv hx hb dX5_refuse_15 (by decide) ?_
  refine lv_isub hx hb dX5_refuse_16 ?_
  refine xg_mv (va_runSN (As := [.ref (ad (b + 8)), .int p, .int ((xb_at 6 (T 7) p) - (y / 2))]) (rest := []) S (mX7_put l D cI cZ bs ad ws (b + 8) 6 (T 7) (show ws[b + 8]? = some (ad (b + 8), .inl (cI, 6, .inl (T 7))) from hT.2 7 (by decide)) p ((xb_at 6 (T 7) p) - (y / 2)) (by decide)) ⟨(va_cnB 3 hts gX5_refuse_X7_put_n63 rfl rfl rfl (hK.2.1 _ xg_nest_9) k1 (by decide +kernel) ⟨Nat.le_of_ble_eq_true rfl, Nat.le_of_ble_eq_true rfl⟩), k3, trivial⟩ (xg_preS hK hG) rfl rfl hl.1 rfl (lv_room (Nat.le_of_ble_eq_true rfl)) dX5_refuse_17 ⟨Nat.zero_le _, Nat.zero_le _⟩) hG (fun w3 H locs hr2 hG => ?_)
  obtain ⟨hvw3_0, hsw3⟩ := hr2
  obtain ⟨T4, eT4⟩ : ∃ zz : Nat → Nat → Int32, va_up T 7 (xb_pt 6 (T 7) p ((xb_at 6 (T 7) p) - (y / 2))) = zz := ⟨_, rfl⟩
  have hT : xv_T cI ad w3 b T4 := by rw [← eT4]; exact hT.rowS 7 (by decide) hvw3_0 hsw3
  have hSw3 : xv_S ws w3 b 13 := hsw3.mono (by omega) (by omega)
  rw [hQ]
  exact xg_emv S hr hlk hK hG ⟨(by rw [show (dt_ref T p y) = T4 from (by subst eT4; rfl)]; exact hT), hSw3⟩ dX5_refuse_20
set_option maxHeartbeats 4000000 in
set_option maxRecDepth 100000 in
theorem mX5_night (l : Launch) (D : va_G) (cI cZ : ClassId) (bs : Nat) (ad : Nat → Nat) (ws : va_W) (b : Nat) (T : Nat → Nat → Int32) (hT : xv_T cI ad ws b T) : Met l yX5_night wsX5_night ({ frames := 1, cells := 0, slots := 0, locals := 24 } : Room) (va_Pc [.ref (ad b)] (fun U => xg_W D cI cZ bs ws U)) (va_Qv (fun w : va_W => xv_T cI ad w b (dt_nit T) ∧ xv_S ws w b 13) (fun w t => xg_W D cI cZ bs w t) (xg_A bs)) 0 0 (xg_A bs) := by
  refine xg_met cX5_night 4 none RX5 (by decide) rfl rfl (Nat.le_of_ble_eq_true rfl) ?_
  intro pg en s m below meth c ls S hr hlk hnm hB hl
  have hK := hB.1
  have hG := xg_start hB
  obtain ⟨hx, hb, hml, hown, hts⟩ := id S
  have hl : lv_has ls 4 [(0, .ref (ad b))] := hl
  obtain ⟨Q, hQ⟩ : ∃ Q, Q = MQ below (va_Qv (fun w : va_W => xv_T cI ad w b (dt_nit T) ∧ xv_S ws w b 13) (fun w t => xg_W D cI cZ bs w t) (xg_A bs)) ([.ref (ad b)] : List Value).toArray s 0 0 (xg_A bs) := ⟨_, rfl⟩
  rw [← hQ]
  have k0 := hts (.fieldLink RX5 9 "DareBridge$Town" "rules" "[I") (List.mem_of_getElem? (i := 1) rfl)
  have k1 := hts (.initialized RX7) (List.mem_of_getElem? (i := 12) rfl)
  have k2 := hts (.static yX7_at) (List.mem_of_getElem? (i := 11) rfl)
  have k3 := hts (.fieldLink RX5 33 "DareBridge$Town" "fame" "[I") (List.mem_of_getElem? (i := 2) rfl)
  have k4 := hts (.methodLink RX5 67 Lib.Math.min.name) (List.mem_of_getElem? (i := 7) rfl)
  have k5 := hts (.static Lib.Math.min.name) (List.mem_of_getElem? (i := 8) rfl)
  have k6 := hts (.initialized "java/lang/Math") (List.mem_of_getElem? (i := 5) rfl)
  have k7 := hts (.code Lib.Math.min.name Lib.Math.min.code 2 (some .int)) (List.mem_of_getElem? (i := 9) rfl)
  have k8 := hts (.methodLink RX5 73 Lib.Math.max.name) (List.mem_of_getElem? (i := 3) rfl)
  have k9 := hts (.static Lib.Math.max.name) (List.mem_of_getElem? (i := 4) rfl)
  have k10 := hts (.code Lib.Math.max.name Lib.Math.max.code 2 (some .int)) (List.mem_of_getElem? (i := 6) rfl)
  have k11 := hts (.static yX7_put) (List.mem_of_getElem? (i := 14) rfl)
  have k12 := hts (.fieldLink RX5 36 "DareBridge$Town" "plaster" "[I") (List.mem_of_getElem? (i := 10) rfl)
  refine lv_aload_n hx hb dX5_night_0 rfl (lv_at hl 0 rfl) ?_
  refine xg_get (C := RX5) (T := TX5) (N := 13) S hK hG (fun w h => List.mem_cons_of_mem _ (List.mem_append_right _ (h))) b hT.1 rfl 0 (by decide) k0 (fun _ h9 => h9) rfl dX5_night_1 ?_
  refine lv_iconst (v := 3) hx hb dX5_night_4 (by decide) ?_
  refine xg_ri (va_runSN (As := [.ref (ad (b + 1)), .int 3]) (rest := []) S (mX7_at l D cI cZ bs ad ws (b + 1) 7 (T 0) (show ws[b + 1]? = some (ad (b + 1), .inl (cI, 7, .inl (T 0))) from hT.2 0 (by decide)) 3 (by decide)) ⟨(va_cnB 2 hts gX5_night_X7_at_n59 rfl rfl rfl (hK.2.1 _ xg_nest_10) k1 (by decide +kernel) ⟨Nat.le_of_ble_eq_true rfl, Nat.le_of_ble_eq_true rfl⟩), k2, trivial⟩ (xg_preS hK hG) rfl rfl hl.1 rfl (lv_room (Nat.le_of_ble_eq_true rfl)) dX5_night_5 ⟨Nat.zero_le _, Nat.zero_le _⟩) (fun r1 hr1 => ?_)
  replace hr1 := hr1.symm; subst hr1
  refine lv_topi (fun x2 ex2 => ?_)
  replace ex2 := ex2.symm
  refine lv_istore_n (lv' := [(1, .int x2), (0, .ref (ad b))]) hx hb dX5_night_8 rfl hl (by decide) rfl (fun ls hl => ?_)
  refine lv_iconst (v := 0) hx hb dX5_night_9 (by decide) ?_
  refine lv_istore_n (lv' := [(2, .int 0), (1, .int x2), (0, .ref (ad b))]) hx hb dX5_night_10 rfl hl (by decide) rfl (fun ls hl => ?_)
  -- the loop at 11
  have lp11 : ∀ (fu : Nat) (k : Nat), (k ≤ 6) → (7 ≤ k + fu) → ∀ y11_2 : Int32, y11_2 = nI k → ∀ z11_hT_T : Nat → Nat → Int32, z11_hT_T = dt_nik T k → ∀ (w11 : va_W) (H : Heap) (locs : List Loc), xg_H D bs w11 s.heap H locs → (xv_T cI ad w11 b z11_hT_T) → xv_S ws w11 b 13 → ∀ (ls : Array Slot), lv_has ls 4 [(0, .ref (ad b)), (1, .int x2), (2, .int y11_2)] → W pg l en ({ frames := 1, cells := 0, slots := 0, locals := 24 } : Room) s m ([.ref (ad b)] : List Value).toArray below meth c H locs 0 0 Q (F0 m 11 ls []) := by
    intro fu
    induction fu with
    | zero =>
      intro k hk hf
      exact absurd hf (by omega)
    | succ fu ih =>
      intro k hk hf y11_2 ey11_2 z11_hT_T ez11_hT_T
      intro w11 H locs hG hT hSw11
      intro ls hl
      replace ey11_2 := ey11_2.symm; subst ey11_2
      replace ez11_hT_T := ez11_hT_T.symm; subst ez11_hT_T
      refine lv_iload_n hx hb dX5_night_11 rfl (lv_at hl 2 rfl) ?_
      refine lv_bipush (v := 6) hx hb dX5_night_12 (by decide) ?_
      refine lv_icmp_ge (tgt := 83) hx hb dX5_night_14 (by decide) (fun c14 => ?_) (fun c14 => ?_)
      · skip
        have hk9 : k = 6 := by have := xb_le (k := k) (n := 6) (by omega) (by decide) c14; omega
        rw [hQ]
        exact xg_emv S hr hlk hK hG ⟨(by rw [show (dt_nit T) = (dt_nik T k) from (by subst ex2; (rw [hk9]; rfl))]; exact hT), hSw11⟩ dX5_night_83
      · skip
        have hk9 : k < 6 := xb_lt (by omega) (by decide) c14
        refine lv_aload_n hx hb dX5_night_17 rfl (lv_at hl 0 rfl) ?_
        refine xg_get (C := RX5) (T := TX5) (N := 13) S hK hG (fun w h => List.mem_cons_of_mem _ (List.mem_append_right _ (h))) b hT.1 rfl 7 (by decide) k3 (fun _ h9 => h9) rfl dX5_night_18 ?_
        refine lv_iload_n hx hb dX5_night_21 rfl (lv_at hl 2 rfl) ?_
        refine xg_ri (va_runSN (As := [.ref (ad (b + 8)), .int (nI k)]) (rest := []) S (mX7_at l D cI cZ bs ad w11 (b + 8) 6 ((dt_nik T k) 7) (show w11[b + 8]? = some (ad (b + 8), .inl (cI, 6, .inl ((dt_nik T k) 7))) from hT.2 7 (by decide)) (nI k) (by decide)) ⟨(va_cnB 2 hts gX5_night_X7_at_n59 rfl rfl rfl (hK.2.1 _ xg_nest_10) k1 (by decide +kernel) ⟨Nat.le_of_ble_eq_true rfl, Nat.le_of_ble_eq_true rfl⟩), k2, trivial⟩ (xg_preS hK hG) rfl rfl hl.1 rfl (lv_room (Nat.le_of_ble_eq_true rfl)) dX5_night_22 ⟨Nat.zero_le _, Nat.zero_le _⟩) (fun r3 hr3 => ?_)
        replace hr3 := hr3.symm; subst hr3
        refine lv_topi (fun x4 ex4 => ?_)
        replace ex4 := ex4.symm
        refine lv_istore_n (lv' := [(3, .int x4), (0, .ref (ad b)), (1, .int x2), (2, .int (nI k))]) hx hb dX5_night_25 rfl hl (by decide) rfl (fun ls hl => ?_)
        refine lv_aload_n hx hb dX5_night_26 rfl (lv_at hl 1 rfl) ?_
        refine xg_get (C := RX5) (T := TX5) (N := 13) S hK hG (fun w h => List.mem_cons_of_mem _ (List.mem_append_right _ (h))) b hT.1 rfl 7 (by decide) k3 (fun _ h9 => h9) rfl dX5_night_27 ?_
        refine lv_iload_n hx hb dX5_night_30 rfl (lv_at hl 3 rfl) ?_
        refine lv_iload_n hx hb dX5_night_31 rfl (lv_at hl 0 rfl) ?_
        have jn52_5 : ∀ v5 : Int32, v5 = (if x4 ≤ 0 then if (x4 + x2) < 0 then x4 + x2 else 0 else if 0 < (x4 - x2) then x4 - x2 else 0) → W pg l en ({ frames := 1, cells := 0, slots := 0, locals := 24 } : Room) s m ([.ref (ad b)] : List Value).toArray below meth c H locs 0 0 Q (F0 m 52 ls [.int v5, .int (nI k), .ref (ad (b + 8))]) := by
          intro v5 ev5
          replace ev5 := ev5.symm
          refine xg_mv (va_runSN (As := [.ref (ad (b + 8)), .int (nI k), .int v5]) (rest := []) S (mX7_put l D cI cZ bs ad w11 (b + 8) 6 ((dt_nik T k) 7) (show w11[b + 8]? = some (ad (b + 8), .inl (cI, 6, .inl ((dt_nik T k) 7))) from hT.2 7 (by decide)) (nI k) v5 (by decide)) ⟨(va_cnB 3 hts gX5_night_X7_put_n63 rfl rfl rfl (hK.2.1 _ xg_nest_9) k1 (by decide +kernel) ⟨Nat.le_of_ble_eq_true rfl, Nat.le_of_ble_eq_true rfl⟩), k11, trivial⟩ (xg_preS hK hG) rfl rfl hl.1 rfl (lv_room (Nat.le_of_ble_eq_true rfl)) dX5_night_52 ⟨Nat.zero_le _, Nat.zero_le _⟩) hG (fun w7 H locs hr6 hG => ?_)
          obtain ⟨hvw7_0, hsw7⟩ := hr6
          obtain ⟨T8, eT8⟩ : ∃ zz : Nat → Nat → Int32, va_up (dt_nik T k) 7 (xb_pt 6 ((dt_nik T k) 7) (nI k) v5) = zz := ⟨_, rfl⟩
          have hT : xv_T cI ad w7 b T8 := by rw [← eT8]; exact hT.rowS 7 (by decide) hvw7_0 hsw7
          have hSw7 : xv_S ws w7 b 13 := hSw11.trans (hsw7.mono (by omega) (by omega))
          refine lv_aload_n hx hb dX5_night_55 rfl (lv_at hl 1 rfl) ?_
          refine xg_get (C := RX5) (T := TX5) (N := 13) S hK hG (fun w h => List.mem_cons_of_mem _ (List.mem_append_right _ (h))) b hT.1 rfl 8 (by decide) k12 (fun _ h9 => h9) rfl dX5_night_56 ?_
          refine lv_iload_n hx hb dX5_night_59 rfl (lv_at hl 3 rfl) ?_
          refine lv_iconst (v := 0) hx hb dX5_night_60 (by decide) ?_
          refine lv_aload_n hx hb dX5_night_61 rfl (lv_at hl 1 rfl) ?_
          refine xg_get (C := RX5) (T := TX5) (N := 13) S hK hG (fun w h => List.mem_cons_of_mem _ (List.mem_append_right _ (h))) b hT.1 rfl 8 (by decide) k12 (fun _ h9 => h9) rfl dX5_night_62 ?_
          refine lv_iload_n hx hb dX5_night_65 rfl (lv_at hl 3 rfl) ?_
          refine xg_ri (va_runSN (As := [.ref (ad (b + 9)), .int (nI k)]) (rest := [.int 0, .int (nI k), .ref (ad (b + 9))]) S (mX7_at l D cI cZ bs ad w7 (b + 9) 6 (T8 8) (show w7[b + 9]? = some (ad (b + 9), .inl (cI, 6, .inl (T8 8))) from hT.2 8 (by decide)) (nI k) (by decide)) ⟨(va_cnB 2 hts gX5_night_X7_at_n59 rfl rfl rfl (hK.2.1 _ xg_nest_10) k1 (by decide +kernel) ⟨Nat.le_of_ble_eq_true rfl, Nat.le_of_ble_eq_true rfl⟩), k2, trivial⟩ (xg_preS hK hG) rfl rfl hl.1 rfl (lv_room (Nat.le_of_ble_eq_true rfl)) dX5_night_66 ⟨Nat.zero_le _, Nat.zero_le _⟩) (fun r9 hr9 => ?_)
          replace hr9 := hr9.symm; subst hr9
          refine lv_iconst (v := 1) hx hb dX5_night_69 (by decide) ?_
          refine lv_isub hx hb dX5_night_70 ?_
          refine va_mmax hx hb (hml.trans hl.1.symm) hown k8 k9 k6 k10 (Nat.le_of_ble_eq_true rfl) (Nat.le_of_ble_eq_true rfl) (Nat.zero_le _) (Nat.zero_le _) dX5_night_71 ?_
          refine xg_mv (va_runSN (As := [.ref (ad (b + 9)), .int (nI k), .int (if 0 < ((xb_at 6 (T8 8) (nI k)) - 1) then (xb_at 6 (T8 8) (nI k)) - 1 else 0)]) (rest := []) S (mX7_put l D cI cZ bs ad w7 (b + 9) 6 (T8 8) (show w7[b + 9]? = some (ad (b + 9), .inl (cI, 6, .inl (T8 8))) from hT.2 8 (by decide)) (nI k) (if 0 < ((xb_at 6 (T8 8) (nI k)) - 1) then (xb_at 6 (T8 8) (nI k)) - 1 else 0) (by decide)) ⟨(va_cnB 3 hts gX5_night_X7_put_n63 rfl rfl rfl (hK.2.1 _ xg_nest_9) k1 (by decide +kernel) ⟨Nat.le_of_ble_eq_true rfl, Nat.le_of_ble_eq_true rfl⟩), k11, trivial⟩ (xg_preS hK hG) rfl rfl hl.1 rfl (lv_room (Nat.le_of_ble_eq_true rfl)) dX5_night_74 ⟨Nat.zero_le _, Nat.zero_le _⟩) hG (fun w11 H locs hr10 hG => ?_)
          obtain ⟨hvw11_0, hsw11⟩ := hr10
          obtain ⟨T12, eT12⟩ : ∃ zz : Nat → Nat → Int32, va_up T8 8 (xb_pt 6 (T8 8) (nI k) (if 0 < ((xb_at 6 (T8 8) (nI k)) - 1) then (xb_at 6 (T8 8) (nI k)) - 1 else 0)) = zz := ⟨_, rfl⟩
          have hT : xv_T cI ad w11 b T12 := by rw [← eT12]; exact hT.rowS 8 (by decide) hvw11_0 hsw11
          have hSw11 : xv_S ws w11 b 13 := hSw7.trans (hsw11.mono (by omega) (by omega))
          obtain ⟨x13, ex13⟩ : ∃ zz : Int32, (nI k) + 1 = zz := ⟨_, rfl⟩
          refine lv_iinc (v := x13) (lv' := [(2, .int x13), (3, .int x4), (0, .ref (ad b)), (1, .int x2)]) hx hb dX5_night_77 hl (k := 3) rfl (by rw [← ex13]; rfl) (by decide) rfl (fun ls hl => ?_)
          refine lv_goto (tgt := 11) hx hb dX5_night_80 (by decide) ?_
          exact ih (k + 1) (by omega) (by omega) x13 (by subst ex2 ex4 ev5 eT8 eT12 ex13; exact nI_1 k) T12 (by subst ex2 ex4 ev5 eT8 eT12 ex13; simp [dt_nik, dt_ni2, dt_ni1, dt_fad, xw_mx, xw_mn, va_up_self, va_up_ne]) w11 _ _ hG hT hSw11 ls (lv_sub hl [2, 3, 0] rfl)
        refine lv_if_le (tgt := 45) hx hb dX5_night_32 (by decide) (fun c32 => ?_) (fun c32 => ?_)
        · skip
          refine lv_iconst (v := 0) hx hb dX5_night_45 (by decide) ?_
          refine lv_iload_n hx hb dX5_night_46 rfl (lv_at hl 0 rfl) ?_
          refine lv_iload_n hx hb dX5_night_47 rfl (lv_at hl 2 rfl) ?_
          refine lv_iadd hx hb dX5_night_48 ?_
          refine va_mmin hx hb (hml.trans hl.1.symm) hown k4 k5 k6 k7 (Nat.le_of_ble_eq_true rfl) (Nat.le_of_ble_eq_true rfl) (Nat.zero_le _) (Nat.zero_le _) dX5_night_49 ?_
          exact jn52_5 _ (by rw [if_pos c32])
        · skip
          refine lv_iconst (v := 0) hx hb dX5_night_35 (by decide) ?_
          refine lv_iload_n hx hb dX5_night_36 rfl (lv_at hl 0 rfl) ?_
          refine lv_iload_n hx hb dX5_night_37 rfl (lv_at hl 2 rfl) ?_
          refine lv_isub hx hb dX5_night_38 ?_
          refine va_mmax hx hb (hml.trans hl.1.symm) hown k8 k9 k6 k10 (Nat.le_of_ble_eq_true rfl) (Nat.le_of_ble_eq_true rfl) (Nat.zero_le _) (Nat.zero_le _) dX5_night_39 ?_
          refine lv_goto (tgt := 52) hx hb dX5_night_42 (by decide) ?_
          exact jn52_5 _ (by rw [if_neg c32])
  exact lp11 7 0 (by omega) (by omega) 0 (by subst ex2; rfl) T (by subst ex2; rfl) ws _ _ hG hT xv_S.rf ls (lv_sub hl [2, 1, 0] rfl)
set_option maxHeartbeats 4000000 in
set_option maxRecDepth 100000 in
theorem mX5_wouldRefuse (l : Launch) (D : va_G) (cI cZ : ClassId) (bs : Nat) (ad : Nat → Nat) (ws : va_W) (b : Nat) (T : Nat → Nat → Int32) (hT : xv_T cI ad ws b T) (p : Int32) (y : Int32) : Met l yX5_wouldRefuse wsX5_wouldRefuse ({ frames := 4, cells := 0, slots := 0, locals := 94 } : Room) (va_Pc [.ref (ad b), .int p, .int y] (fun U => xg_W D cI cZ bs ws U)) (xg_Ri (fun r : Int32 => r = xb_i (dt_wou T p y))) 0 0 xg_F := by
  refine xg_met cX5_wouldRefuse 3 (some .boolean) RX5 (by decide) rfl rfl (Nat.le_of_ble_eq_true rfl) ?_
  intro pg en s m below meth c ls S hr hlk hnm hB hl
  have hK := hB.1
  have hG := xg_start hB
  obtain ⟨hx, hb, hml, hown, hts⟩ := id S
  have hl : lv_has ls 3 [(0, .ref (ad b)), (1, .int p), (2, .int y)] := hl
  obtain ⟨Q, hQ⟩ : ∃ Q, Q = MQ below (xg_Ri (fun r : Int32 => r = xb_i (dt_wou T p y))) ([.ref (ad b), .int p, .int y] : List Value).toArray s 0 0 xg_F := ⟨_, rfl⟩
  rw [← hQ]
  have k0 := hts (.fieldLink RX5 36 "DareBridge$Town" "plaster" "[I") (List.mem_of_getElem? (i := 1) rfl)
  have k1 := hts (.initialized RX7) (List.mem_of_getElem? (i := 11) rfl)
  have k2 := hts (.static yX7_at) (List.mem_of_getElem? (i := 10) rfl)
  have k3 := hts (.fieldLink RX5 30 "DareBridge$Town" "high" "[I") (List.mem_of_getElem? (i := 2) rfl)
  have k4 := hts (.fieldLink RX5 24 "DareBridge$Town" "pride" "[I") (List.mem_of_getElem? (i := 3) rfl)
  refine lv_aload_n hx hb dX5_wouldRefuse_0 rfl (lv_at hl 0 rfl) ?_
  refine lv_iload_n hx hb dX5_wouldRefuse_1 rfl (lv_at hl 1 rfl) ?_
  refine xg_ri (va_runV (As := [.int p]) (rest := []) S (mX5_isThere l D cI cZ bs ad ws b T hT p) (cwV 1 hts gX5_wouldRefuse_X5_isThere rfl rfl rfl (by decide +kernel) ⟨Nat.le_of_ble_eq_true rfl, Nat.le_of_ble_eq_true rfl⟩) (xg_preV hK hG b hT.1 rfl rfl) rfl rfl hl.1 rfl (lv_room (Nat.le_of_ble_eq_true rfl)) dX5_wouldRefuse_2 ⟨Nat.zero_le _, Nat.zero_le _⟩) (fun r1 hr1 => ?_)
  replace hr1 := hr1.symm; subst hr1
  refine xb_ifeq (tgt := 52) S dX5_wouldRefuse_5 (by decide) (fun c5 => ?_) (fun c5 => ?_)
  · skip
    refine lv_iconst (v := 0) hx hb dX5_wouldRefuse_52 (by decide) ?_
    rw [hQ]
    exact xg_erz S hr hlk rfl (by skip; simp [dt_wou, dt_prd, xb_i, c5]) dX5_wouldRefuse_53
  · skip
    refine lv_aload_n hx hb dX5_wouldRefuse_8 rfl (lv_at hl 0 rfl) ?_
    refine xg_get (C := RX5) (T := TX5) (N := 13) S hK hG (fun w h => List.mem_cons_of_mem _ (List.mem_append_right _ (h))) b hT.1 rfl 8 (by decide) k0 (fun _ h9 => h9) rfl dX5_wouldRefuse_9 ?_
    refine lv_iload_n hx hb dX5_wouldRefuse_12 rfl (lv_at hl 1 rfl) ?_
    refine xg_ri (va_runSN (As := [.ref (ad (b + 9)), .int p]) (rest := []) S (mX7_at l D cI cZ bs ad ws (b + 9) 6 (T 8) (show ws[b + 9]? = some (ad (b + 9), .inl (cI, 6, .inl (T 8))) from hT.2 8 (by decide)) p (by decide)) ⟨(va_cnB 2 hts gX5_wouldRefuse_X7_at_n59 rfl rfl rfl (hK.2.1 _ xg_nest_10) k1 (by decide +kernel) ⟨Nat.le_of_ble_eq_true rfl, Nat.le_of_ble_eq_true rfl⟩), k2, trivial⟩ (xg_preS hK hG) rfl rfl hl.1 rfl (lv_room (Nat.le_of_ble_eq_true rfl)) dX5_wouldRefuse_13 ⟨Nat.zero_le _, Nat.zero_le _⟩) (fun r2 hr2 => ?_)
    replace hr2 := hr2.symm; subst hr2
    refine lv_if_ne (tgt := 52) hx hb dX5_wouldRefuse_16 (by decide) (fun c16 => ?_) (fun c16 => ?_)
    · skip
      refine lv_iconst (v := 0) hx hb dX5_wouldRefuse_52 (by decide) ?_
      rw [hQ]
      exact xg_erz S hr hlk rfl (by skip; simp [dt_wou, dt_prd, xb_i, c5, c16]) dX5_wouldRefuse_53
    · skip
      refine lv_aload_n hx hb dX5_wouldRefuse_19 rfl (lv_at hl 0 rfl) ?_
      refine xg_get (C := RX5) (T := TX5) (N := 13) S hK hG (fun w h => List.mem_cons_of_mem _ (List.mem_append_right _ (h))) b hT.1 rfl 6 (by decide) k3 (fun _ h9 => h9) rfl dX5_wouldRefuse_20 ?_
      refine lv_iload_n hx hb dX5_wouldRefuse_23 rfl (lv_at hl 1 rfl) ?_
      refine xg_ri (va_runSN (As := [.ref (ad (b + 7)), .int p]) (rest := []) S (mX7_at l D cI cZ bs ad ws (b + 7) 6 (T 6) (show ws[b + 7]? = some (ad (b + 7), .inl (cI, 6, .inl (T 6))) from hT.2 6 (by decide)) p (by decide)) ⟨(va_cnB 2 hts gX5_wouldRefuse_X7_at_n59 rfl rfl rfl (hK.2.1 _ xg_nest_10) k1 (by decide +kernel) ⟨Nat.le_of_ble_eq_true rfl, Nat.le_of_ble_eq_true rfl⟩), k2, trivial⟩ (xg_preS hK hG) rfl rfl hl.1 rfl (lv_room (Nat.le_of_ble_eq_true rfl)) dX5_wouldRefuse_24 ⟨Nat.zero_le _, Nat.zero_le _⟩) (fun r3 hr3 => ?_)
      replace hr3 := hr3.symm; subst hr3
      refine lv_iload_n hx hb dX5_wouldRefuse_27 rfl (lv_at hl 2 rfl) ?_
      refine lv_icmp_ge (tgt := 52) hx hb dX5_wouldRefuse_28 (by decide) (fun c28 => ?_) (fun c28 => ?_)
      · skip
        refine lv_iconst (v := 0) hx hb dX5_wouldRefuse_52 (by decide) ?_
        rw [hQ]
        exact xg_erz S hr hlk rfl (by skip; simp [dt_wou, dt_prd, xb_i, c5, c16, c28]) dX5_wouldRefuse_53
      · skip
        refine lv_aload_n hx hb dX5_wouldRefuse_31 rfl (lv_at hl 0 rfl) ?_
        refine lv_iload_n hx hb dX5_wouldRefuse_32 rfl (lv_at hl 1 rfl) ?_
        refine lv_iload_n hx hb dX5_wouldRefuse_33 rfl (lv_at hl 2 rfl) ?_
        refine lv_aload_n hx hb dX5_wouldRefuse_34 rfl (lv_at hl 0 rfl) ?_
        refine xg_get (C := RX5) (T := TX5) (N := 13) S hK hG (fun w h => List.mem_cons_of_mem _ (List.mem_append_right _ (h))) b hT.1 rfl 4 (by decide) k4 (fun _ h9 => h9) rfl dX5_wouldRefuse_35 ?_
        refine lv_iload_n hx hb dX5_wouldRefuse_38 rfl (lv_at hl 1 rfl) ?_
        refine xg_ri (va_runSN (As := [.ref (ad (b + 5)), .int p]) (rest := [.int y, .int p, .ref (ad b)]) S (mX7_at l D cI cZ bs ad ws (b + 5) 6 (T 4) (show ws[b + 5]? = some (ad (b + 5), .inl (cI, 6, .inl (T 4))) from hT.2 4 (by decide)) p (by decide)) ⟨(va_cnB 2 hts gX5_wouldRefuse_X7_at_n59 rfl rfl rfl (hK.2.1 _ xg_nest_10) k1 (by decide +kernel) ⟨Nat.le_of_ble_eq_true rfl, Nat.le_of_ble_eq_true rfl⟩), k2, trivial⟩ (xg_preS hK hG) rfl rfl hl.1 rfl (lv_room (Nat.le_of_ble_eq_true rfl)) dX5_wouldRefuse_39 ⟨Nat.zero_le _, Nat.zero_le _⟩) (fun r4 hr4 => ?_)
        replace hr4 := hr4.symm; subst hr4
        refine xg_ri (va_runV (As := [.int p, .int y, .int (xb_at 6 (T 4) p)]) (rest := []) S (mX5_dares l D cI cZ bs ad ws b T hT p y (xb_at 6 (T 4) p)) (cwV 3 hts gX5_wouldRefuse_X5_dares rfl rfl rfl (by decide +kernel) ⟨Nat.le_of_ble_eq_true rfl, Nat.le_of_ble_eq_true rfl⟩) (xg_preV hK hG b hT.1 rfl rfl) rfl rfl hl.1 rfl (lv_room (Nat.le_of_ble_eq_true rfl)) dX5_wouldRefuse_42 ⟨Nat.zero_le _, Nat.zero_le _⟩) (fun r5 hr5 => ?_)
        replace hr5 := hr5.symm; subst hr5
        refine xb_ifne (tgt := 52) S dX5_wouldRefuse_45 (by decide) (fun c45 => ?_) (fun c45 => ?_)
        · skip
          refine lv_iconst (v := 0) hx hb dX5_wouldRefuse_52 (by decide) ?_
          rw [hQ]
          exact xg_erz S hr hlk rfl (by skip; simp [dt_wou, dt_prd, xb_i, c5, c16, c28, c45]) dX5_wouldRefuse_53
        · skip
          refine lv_iconst (v := 1) hx hb dX5_wouldRefuse_48 (by decide) ?_
          refine lv_goto (tgt := 53) hx hb dX5_wouldRefuse_49 (by decide) ?_
          rw [hQ]
          exact xg_erz S hr hlk rfl (by skip; simp [dt_wou, dt_prd, xb_i, c5, c16, c28, c45]) dX5_wouldRefuse_53
