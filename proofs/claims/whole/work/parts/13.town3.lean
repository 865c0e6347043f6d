set_option maxHeartbeats 4000000 in
set_option maxRecDepth 100000 in
theorem mX5_worthDone (l : Launch) (D : va_G) (cI cZ : ClassId) (bs : Nat) (ad : Nat → Nat) (ws : va_W) (b : Nat) (T : Nat → Nat → Int32) (hT : xv_T cI ad ws b T) (p : Int32) (y : Int32) (q : Int32) : Met l yX5_worthDone wsX5_worthDone ({ frames := 2, cells := 0, slots := 0, locals := 47 } : Room) (va_Pc [.ref (ad b), .int p, .int y, .int q] (fun U => xg_W D cI cZ bs ws U)) (xg_Ri (fun r : Int32 => r = dt_wdn T p y q)) 0 0 xg_F := by
  refine xg_met cX5_worthDone 5 (some .int) RX5 (by decide) rfl rfl (Nat.le_of_ble_eq_true rfl) ?_
  intro pg en s m below meth c ls S hr hlk hnm hB hl
  have hK := hB.1
  have hG := xg_start hB
  obtain ⟨hx, hb, hml, hown, hts⟩ := id S
  have hl : lv_has ls 5 [(0, .ref (ad b)), (1, .int p), (2, .int y), (3, .int q)] := hl
  obtain ⟨Q, hQ⟩ : ∃ Q, Q = MQ below (xg_Ri (fun r : Int32 => r = dt_wdn T p y q)) ([.ref (ad b), .int p, .int y, .int q] : List Value).toArray s 0 0 xg_F := ⟨_, rfl⟩
  rw [← hQ]
  have k0 := hts (.fieldLink RX5 9 "DareBridge$Town" "rules" "[I") (List.mem_of_getElem? (i := 1) rfl)
  have k1 := hts (.initialized RX7) (List.mem_of_getElem? (i := 4) rfl)
  have k2 := hts (.static yX7_at) (List.mem_of_getElem? (i := 3) rfl)
  have k3 := hts (.fieldLink RX5 21 "DareBridge$Town" "fear" "[I") (List.mem_of_getElem? (i := 2) rfl)
  refine lv_aload_n hx hb dX5_worthDone_0 rfl (lv_at hl 0 rfl) ?_
  refine xg_get (C := RX5) (T := TX5) (N := 13) S hK hG (fun w h => List.mem_cons_of_mem _ (List.mem_append_right _ (h))) b hT.1 rfl 0 (by decide) k0 (fun _ h9 => h9) rfl dX5_worthDone_1 ?_
  refine lv_iconst (v := 2) hx hb dX5_worthDone_4 (by decide) ?_
  refine xg_ri (va_runSN (As := [.ref (ad (b + 1)), .int 2]) (rest := []) S (mX7_at l D cI cZ bs ad ws (b + 1) 7 (T 0) (show ws[b + 1]? = some (ad (b + 1), .inl (cI, 7, .inl (T 0))) from hT.2 0 (by decide)) 2 (by decide)) ⟨(va_cnB 2 hts gX5_worthDone_X7_at_n59 rfl rfl rfl (hK.2.1 _ xg_nest_10) k1 (by decide +kernel) ⟨Nat.le_of_ble_eq_true rfl, Nat.le_of_ble_eq_true rfl⟩), k2, trivial⟩ (xg_preS hK hG) rfl rfl hl.1 rfl (lv_room (Nat.le_of_ble_eq_true rfl)) dX5_worthDone_5 ⟨Nat.zero_le _, Nat.zero_le _⟩) (fun r1 hr1 => ?_)
  subst hr1
  refine lv_aload_n hx hb dX5_worthDone_8 rfl (lv_at hl 0 rfl) ?_
  refine xg_get (C := RX5) (T := TX5) (N := 13) S hK hG (fun w h => List.mem_cons_of_mem _ (List.mem_append_right _ (h))) b hT.1 rfl 3 (by decide) k3 (fun _ h9 => h9) rfl dX5_worthDone_9 ?_
  refine lv_iload_n hx hb dX5_worthDone_12 rfl (lv_at hl 1 rfl) ?_
  refine xg_ri (va_runSN (As := [.ref (ad (b + 4)), .int p]) (rest := [.int (xb_at 7 (T 0) 2)]) S (mX7_at l D cI cZ bs ad ws (b + 4) 6 (T 3) (show ws[b + 4]? = some (ad (b + 4), .inl (cI, 6, .inl (T 3))) from hT.2 3 (by decide)) p (by decide)) ⟨(va_cnB 2 hts gX5_worthDone_X7_at_n59 rfl rfl rfl (hK.2.1 _ xg_nest_10) k1 (by decide +kernel) ⟨Nat.le_of_ble_eq_true rfl, Nat.le_of_ble_eq_true rfl⟩), k2, trivial⟩ (xg_preS hK hG) rfl rfl hl.1 rfl (lv_room (Nat.le_of_ble_eq_true rfl)) dX5_worthDone_13 ⟨Nat.zero_le _, Nat.zero_le _⟩) (fun r2 hr2 => ?_)
  subst hr2
  refine lv_iload_n hx hb dX5_worthDone_16 rfl (lv_at hl 2 rfl) ?_
  refine lv_imul hx hb dX5_worthDone_17 ?_
  refine lv_iadd hx hb dX5_worthDone_18 ?_
  refine lv_topi (fun x3 ex3 => ?_)
  refine lv_istore (lv' := [(4, .int x3), (0, .ref (ad b)), (1, .int p), (2, .int y), (3, .int q)]) hx hb dX5_worthDone_19 hl (by decide) rfl (fun ls hl => ?_)
  refine lv_bipush (v := 10) hx hb dX5_worthDone_21 (by decide) ?_
  refine lv_iload_n hx hb dX5_worthDone_23 rfl (lv_at hl 4 rfl) ?_
  refine lv_imul hx hb dX5_worthDone_24 ?_
  refine lv_iload_n hx hb dX5_worthDone_25 rfl (lv_at hl 3 rfl) ?_
  refine lv_imul hx hb dX5_worthDone_26 ?_
  refine lv_aload_n hx hb dX5_worthDone_27 rfl (lv_at hl 1 rfl) ?_
  refine lv_iload_n hx hb dX5_worthDone_28 rfl (lv_at hl 2 rfl) ?_
  refine lv_iload_n hx hb dX5_worthDone_29 rfl (lv_at hl 3 rfl) ?_
  refine xg_ri (va_runV (As := [.int p, .int y]) (rest := [.int ((10 * q) * y)]) S (mX5_oddsOf l D cI cZ bs ad ws b T hT p y) (cwV 2 hts gX5_worthDone_X5_oddsOf rfl rfl rfl (by decide +kernel) ⟨Nat.le_of_ble_eq_true rfl, Nat.le_of_ble_eq_true rfl⟩) (xg_preV hK hG b hT.1 rfl rfl) rfl rfl hl.1 rfl (lv_room (Nat.le_of_ble_eq_true rfl)) dX5_worthDone_30 ⟨Nat.zero_le _, Nat.zero_le _⟩) (fun r4 hr4 => ?_)
  subst hr4
  refine lv_iload hx hb dX5_worthDone_33 (lv_at hl 0 rfl) ?_
  refine lv_imul hx hb dX5_worthDone_35 ?_
  refine lv_isub hx hb dX5_worthDone_36 ?_
  rw [hQ]
  exact xg_eri S hr hlk (by subst_vars; rfl) dX5_worthDone_37
set_option maxHeartbeats 4000000 in
set_option maxRecDepth 100000 in
theorem mX5_worthRefused (l : Launch) (D : va_G) (cI cZ : ClassId) (bs : Nat) (ad : Nat → Nat) (ws : va_W) (y : Int32) (q : Int32) : Met l yX5_worthRefused wsX5_worthRefused ({ frames := 0, cells := 0, slots := 0, locals := 0 } : Room) (va_Pc [.int y, .int q] (fun U => xg_W D cI cZ bs ws U)) (xg_Ri (fun r : Int32 => r = dt_wrf y q)) 0 0 xg_F := by
  refine xg_met cX5_worthRefused 2 (some .int) RX5 (by decide) rfl rfl (Nat.le_of_ble_eq_true rfl) ?_
  intro pg en s m below meth c ls S hr hlk hnm hB hl
  have hK := hB.1
  have hG := xg_start hB
  obtain ⟨hx, hb, hml, hown, hts⟩ := id S
  have hl : lv_has ls 2 [(0, .int y), (1, .int q)] := hl
  obtain ⟨Q, hQ⟩ : ∃ Q, Q = MQ below (xg_Ri (fun r : Int32 => r = dt_wrf y q)) ([.int y, .int q] : List Value).toArray s 0 0 xg_F := ⟨_, rfl⟩
  rw [← hQ]
  refine lv_bipush (v := (-10)) hx hb dX5_worthRefused_0 (by decide) ?_
  refine lv_iload_n hx hb dX5_worthRefused_2 rfl (lv_at hl 1 rfl) ?_
  refine lv_imul hx hb dX5_worthRefused_3 ?_
  refine lv_iload_n hx hb dX5_worthRefused_4 rfl (lv_at hl 0 rfl) ?_
  refine lv_iconst (v := 2) hx hb dX5_worthRefused_5 (by decide) ?_
  refine lv_idiv hx hb dX5_worthRefused_6 (by decide) ?_
  refine lv_imul hx hb dX5_worthRefused_7 ?_
  rw [hQ]
  exact xg_eri S hr hlk (by subst_vars; rfl) dX5_worthRefused_8
set_option maxHeartbeats 4000000 in
set_option maxRecDepth 100000 in
theorem mX5_dares (l : Launch) (D : va_G) (cI cZ : ClassId) (bs : Nat) (ad : Nat → Nat) (ws : va_W) (b : Nat) (T : Nat → Nat → Int32) (hT : xv_T cI ad ws b T) (p : Int32) (y : Int32) (q : Int32) : Met l yX5_dares wsX5_dares ({ frames := 3, cells := 0, slots := 0, locals := 71 } : Room) (va_Pc [.ref (ad b), .int p, .int y, .int q] (fun U => xg_W D cI cZ bs ws U)) (xg_Ri (fun r : Int32 => r = xb_i (dt_drs T p y q))) 0 0 xg_F := by
  refine xg_met cX5_dares 4 (some .boolean) RX5 (by decide) rfl rfl (Nat.le_of_ble_eq_true rfl) ?_
  intro pg en s m below meth c ls S hr hlk hnm hB hl
  have hK := hB.1
  have hG := xg_start hB
  obtain ⟨hx, hb, hml, hown, hts⟩ := id S
  have hl : lv_has ls 4 [(0, .ref (ad b)), (1, .int p), (2, .int y), (3, .int q)] := hl
  obtain ⟨Q, hQ⟩ : ∃ Q, Q = MQ below (xg_Ri (fun r : Int32 => r = xb_i (dt_drs T p y q))) ([.ref (ad b), .int p, .int y, .int q] : List Value).toArray s 0 0 xg_F := ⟨_, rfl⟩
  rw [← hQ]
  refine lv_aload_n hx hb dX5_dares_0 rfl (lv_at hl 0 rfl) ?_
  refine lv_iload_n hx hb dX5_dares_1 rfl (lv_at hl 1 rfl) ?_
  refine lv_iload_n hx hb dX5_dares_2 rfl (lv_at hl 2 rfl) ?_
  refine lv_iload_n hx hb dX5_dares_3 rfl (lv_at hl 3 rfl) ?_
  refine xg_ri (va_runV (As := [.int p, .int y, .int q]) (rest := []) S (mX5_worthDone l D cI cZ bs ad ws b T hT p y q) (cwV 3 hts gX5_dares_X5_worthDone rfl rfl rfl (by decide +kernel) ⟨Nat.le_of_ble_eq_true rfl, Nat.le_of_ble_eq_true rfl⟩) (xg_preV hK hG b hT.1 rfl rfl) rfl rfl hl.1 rfl (lv_room (Nat.le_of_ble_eq_true rfl)) dX5_dares_4 ⟨Nat.zero_le _, Nat.zero_le _⟩) (fun r1 hr1 => ?_)
  subst hr1
  refine lv_iload_n hx hb dX5_dares_7 rfl (lv_at hl 2 rfl) ?_
  refine lv_iload_n hx hb dX5_dares_8 rfl (lv_at hl 3 rfl) ?_
  refine xg_ri (va_runS (As := [.int y, .int q]) (rest := [.int (dt_wdn T p y q)]) S (mX5_worthRefused l D cI cZ bs ad ws y q) (va_cwS 2 hts gX5_dares_X5_worthRefused rfl rfl rfl (by decide +kernel) ⟨Nat.le_of_ble_eq_true rfl, Nat.le_of_ble_eq_true rfl⟩) (xg_preS hK hG) rfl rfl hl.1 rfl (lv_room (Nat.le_of_ble_eq_true rfl)) dX5_dares_9 ⟨Nat.zero_le _, Nat.zero_le _⟩) (fun r2 hr2 => ?_)
  subst hr2
  refine lv_icmp_lt (tgt := 19) hx hb dX5_dares_12 (by decide) (fun c12 => ?_) (fun c12 => ?_)
  · skip
    refine lv_iconst (v := 0) hx hb dX5_dares_19 (by decide) ?_
    rw [hQ]
    exact xg_erz S hr hlk rfl (by subst_vars; simp [dt_drs, xb_i, c12]) dX5_dares_20
  · skip
    refine lv_iconst (v := 1) hx hb dX5_dares_15 (by decide) ?_
    refine lv_goto (tgt := 20) hx hb dX5_dares_16 (by decide) ?_
    rw [hQ]
    exact xg_erz S hr hlk rfl (by subst_vars; simp [dt_drs, xb_i, c12]) dX5_dares_20
set_option maxHeartbeats 4000000 in
set_option maxRecDepth 100000 in
theorem mX5_leastRefused (l : Launch) (D : va_G) (cI cZ : ClassId) (bs : Nat) (ad : Nat → Nat) (ws : va_W) (b : Nat) (T : Nat → Nat → Int32) (hT : xv_T cI ad ws b T) (p : Int32) : Met l yX5_leastRefused wsX5_leastRefused ({ frames := 4, cells := 0, slots := 0, locals := 94 } : Room) (va_Pc [.ref (ad b), .int p] (fun U => xg_W D cI cZ bs ws U)) (xg_Ri (fun r : Int32 => r = dt_lrf T p)) 0 0 xg_F := by
  refine xg_met cX5_leastRefused 3 (some .int) RX5 (by decide) rfl rfl (Nat.le_of_ble_eq_true rfl) ?_
  intro pg en s m below meth c ls S hr hlk hnm hB hl
  have hK := hB.1
  have hG := xg_start hB
  obtain ⟨hx, hb, hml, hown, hts⟩ := id S
  have hl : lv_has ls 3 [(0, .ref (ad b)), (1, .int p)] := hl
  obtain ⟨Q, hQ⟩ : ∃ Q, Q = MQ below (xg_Ri (fun r : Int32 => r = dt_lrf T p)) ([.ref (ad b), .int p] : List Value).toArray s 0 0 xg_F := ⟨_, rfl⟩
  rw [← hQ]
  have k0 := hts (.fieldLink RX5 24 "DareBridge$Town" "pride" "[I") (List.mem_of_getElem? (i := 1) rfl)
  have k1 := hts (.initialized RX7) (List.mem_of_getElem? (i := 3) rfl)
  have k2 := hts (.static yX7_at) (List.mem_of_getElem? (i := 2) rfl)
  refine lv_iconst (v := 1) hx hb dX5_leastRefused_0 (by decide) ?_
  refine lv_istore_n (lv' := [(2, .int 1), (0, .ref (ad b)), (1, .int p)]) hx hb dX5_leastRefused_1 rfl hl (by decide) rfl (fun ls hl => ?_)
  -- the loop at 2
  have lp2 : ∀ (fu : Nat) (k : Nat), (k ≤ 16) → (17 ≤ k + fu) → (xw_first (dt_dfs T p) 15 1 = xw_first (dt_dfs T p) (16 - k) k) → ∀ y2_2 : Int32, y2_2 = nI k → ∀ (ls : Array Slot), lv_has ls 3 [(0, .ref (ad b)), (1, .int p), (2, .int y2_2)] → W pg l en ({ frames := 4, cells := 0, slots := 0, locals := 94 } : Room) s m ([.ref (ad b), .int p] : List Value).toArray below meth c s.heap [] 0 0 Q (F0 m 2 ls []) := by
    intro fu
    induction fu with
    | zero =>
      intro k hk hf hr2
      exact absurd hf (by omega)
    | succ fu ih =>
      intro k hk hf hr2 y2_2 ey2_2
      intro ls hl
      subst ey2_2
      refine lv_iload_n hx hb dX5_leastRefused_2 rfl (lv_at hl 2 rfl) ?_
      refine lv_bipush (v := 15) hx hb dX5_leastRefused_3 (by decide) ?_
      refine lv_icmp_gt (tgt := 33) hx hb dX5_leastRefused_5 (by decide) (fun c5 => ?_) (fun c5 => ?_)
      · skip
        have hk9 : k = 16 := by have := xb_gt (k := k) (n := 15) (by omega) (by decide) c5; omega
        subst hk9
        refine lv_bipush (v := 16) hx hb dX5_leastRefused_33 (by decide) ?_
        rw [hQ]
        exact xg_eri S hr hlk (by subst_vars; (unfold dt_lrf; rw [hr2]; rfl)) dX5_leastRefused_35
      · skip
        have hk9 : k ≤ 15 := xb_ngt (k := k) (n := 15) (by omega) (by decide) c5
        refine lv_aload_n hx hb dX5_leastRefused_8 rfl (lv_at hl 0 rfl) ?_
        refine lv_iload_n hx hb dX5_leastRefused_9 rfl (lv_at hl 1 rfl) ?_
        refine lv_iload_n hx hb dX5_leastRefused_10 rfl (lv_at hl 2 rfl) ?_
        refine lv_aload_n hx hb dX5_leastRefused_11 rfl (lv_at hl 0 rfl) ?_
        refine xg_get (C := RX5) (T := TX5) (N := 13) S hK hG (fun w h => List.mem_cons_of_mem _ (List.mem_append_right _ (h))) b hT.1 rfl 4 (by decide) k0 (fun _ h9 => h9) rfl dX5_leastRefused_12 ?_
        refine lv_iload_n hx hb dX5_leastRefused_15 rfl (lv_at hl 1 rfl) ?_
        refine xg_ri (va_runSN (As := [.ref (ad (b + 5)), .int p]) (rest := [.int (nI k), .int p, .ref (ad b)]) S (mX7_at l D cI cZ bs ad ws (b + 5) 6 (T 4) (show ws[b + 5]? = some (ad (b + 5), .inl (cI, 6, .inl (T 4))) from hT.2 4 (by decide)) p (by decide)) ⟨(va_cnB 2 hts gX5_leastRefused_X7_at_n59 rfl rfl rfl (hK.2.1 _ xg_nest_10) k1 (by decide +kernel) ⟨Nat.le_of_ble_eq_true rfl, Nat.le_of_ble_eq_true rfl⟩), k2, trivial⟩ (xg_preS hK hG) rfl rfl hl.1 rfl (lv_room (Nat.le_of_ble_eq_true rfl)) dX5_leastRefused_16 ⟨Nat.zero_le _, Nat.zero_le _⟩) (fun r1 hr1 => ?_)
        subst hr1
        refine xg_ri (va_runV (As := [.int p, .int (nI k), .int (xb_at 6 (T 4) p)]) (rest := []) S (mX5_dares l D cI cZ bs ad ws b T hT p (nI k) (xb_at 6 (T 4) p)) (cwV 3 hts gX5_leastRefused_X5_dares rfl rfl rfl (by decide +kernel) ⟨Nat.le_of_ble_eq_true rfl, Nat.le_of_ble_eq_true rfl⟩) (xg_preV hK hG b hT.1 rfl rfl) rfl rfl hl.1 rfl (lv_room (Nat.le_of_ble_eq_true rfl)) dX5_leastRefused_19 ⟨Nat.zero_le _, Nat.zero_le _⟩) (fun r2 hr2 => ?_)
        subst hr2
        refine xb_ifne (tgt := 27) S dX5_leastRefused_22 (by decide) (fun c22 => ?_) (fun c22 => ?_)
        · skip
          obtain ⟨x3, ex3⟩ : ∃ y : Int32, y = (nI k) + 1 := ⟨_, rfl⟩
          refine lv_iinc (v := x3) (lv' := [(2, .int x3), (0, .ref (ad b)), (1, .int p)]) hx hb dX5_leastRefused_27 hl (k := 2) rfl (by rw [ex3]; rfl) (by decide) rfl (fun ls hl => ?_)
          refine lv_goto (tgt := 2) hx hb dX5_leastRefused_30 (by decide) ?_
          exact ih (k + 1) (by omega) (by omega) (by rw [hr2, show 16 - k = (16 - (k + 1)) + 1 by omega, xw_first, if_pos (show dt_dfs T p k = true from c22)]) x3 (by subst_vars; exact nI_1 k) ls (lv_sub hl [1, 2, 0] rfl)
        · skip
          refine lv_iload_n hx hb dX5_leastRefused_25 rfl (lv_at hl 2 rfl) ?_
          rw [hQ]
          exact xg_eri S hr hlk (by subst_vars; (unfold dt_lrf; rw [hr2, show 16 - k = (16 - (k + 1)) + 1 by omega, xw_first, if_neg (Bool.eq_false_iff.mp (show dt_dfs T p k = false from c22))])) dX5_leastRefused_26
  exact lp2 17 1 (by omega) (by omega) rfl 1 (by subst_vars; rfl) ls (lv_sub hl [1, 2, 0] rfl)
