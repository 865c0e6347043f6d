set_option maxHeartbeats 4000000 in
set_option maxRecDepth 100000 in
theorem mX5_rule (l : Launch) (D : va_G) (cI cZ : ClassId) (bs : Nat) (ad : Nat → Nat) (ws : va_W) (b : Nat) (T : Nat → Nat → Int32) (hT : xv_T cI ad ws b T) (i : Int32) : Met l yX5_rule wsX5_rule ({ frames := 1, cells := 0, slots := 0, locals := 21 } : Room) (va_Pc [.ref (ad b), .int i] (fun U => xg_W D cI cZ bs ws U)) (xg_Ri (fun r : Int32 => r = xb_at 7 (T 0) i)) 0 0 xg_F := by
  refine xg_met cX5_rule 2 (some .int) RX5 (by decide) rfl rfl (Nat.le_of_ble_eq_true rfl) ?_
  intro pg en s m below meth c ls S hr hlk hnm hB hl
  have hK := hB.1
  have hG := xg_start hB
  obtain ⟨hx, hb, hml, hown, hts⟩ := id S
  have hl : lv_has ls 2 [(0, .ref (ad b)), (1, .int i)] := hl
  obtain ⟨Q, hQ⟩ : ∃ Q, Q = MQ below (xg_Ri (fun r : Int32 => r = xb_at 7 (T 0) i)) ([.ref (ad b), .int i] : List Value).toArray s 0 0 xg_F := ⟨_, rfl⟩
  rw [← hQ]
  have k0 := hts (.fieldLink RX5 9 "DareBridge$Town" "rules" "[I") (List.mem_of_getElem? (i := 1) rfl)
  have k1 := hts (.initialized RX7) (List.mem_of_getElem? (i := 3) rfl)
  have k2 := hts (.static yX7_at) (List.mem_of_getElem? (i := 2) rfl)
  refine lv_aload_n hx hb dX5_rule_0 rfl (lv_at hl 0 rfl) ?_
  refine xg_get (C := RX5) (T := TX5) (N := 13) S hK hG (fun w h => List.mem_cons_of_mem _ (List.mem_append_right _ (h))) b hT.1 rfl 0 (by decide) k0 (fun _ h9 => h9) rfl dX5_rule_1 ?_
  refine lv_iload_n hx hb dX5_rule_4 rfl (lv_at hl 1 rfl) ?_
  refine xg_ri (va_runSN (As := [.ref (ad (b + 1)), .int i]) (rest := []) S (mX7_at l D cI cZ bs ad ws (b + 1) 7 (T 0) (show ws[b + 1]? = some (ad (b + 1), .inl (cI, 7, .inl (T 0))) from hT.2 0 (by decide)) i (by decide)) ⟨(va_cnB 2 hts gX5_rule_X7_at_n59 rfl rfl rfl (hK.2.1 _ xg_nest_10) k1 (by decide +kernel) ⟨Nat.le_of_ble_eq_true rfl, Nat.le_of_ble_eq_true rfl⟩), k2, trivial⟩ (xg_preS hK hG) rfl rfl hl.1 rfl (lv_room (Nat.le_of_ble_eq_true rfl)) dX5_rule_5 ⟨Nat.zero_le _, Nat.zero_le _⟩) (fun r1 hr1 => ?_)
  subst hr1
  rw [hQ]
  exact xg_eri S hr hlk (by subst_vars; rfl) dX5_rule_8
set_option maxHeartbeats 4000000 in
set_option maxRecDepth 100000 in
theorem mX5_prideOf (l : Launch) (D : va_G) (cI cZ : ClassId) (bs : Nat) (ad : Nat → Nat) (ws : va_W) (b : Nat) (T : Nat → Nat → Int32) (hT : xv_T cI ad ws b T) (p : Int32) : Met l yX5_prideOf wsX5_prideOf ({ frames := 1, cells := 0, slots := 0, locals := 21 } : Room) (va_Pc [.ref (ad b), .int p] (fun U => xg_W D cI cZ bs ws U)) (xg_Ri (fun r : Int32 => r = dt_prd T p)) 0 0 xg_F := by
  refine xg_met cX5_prideOf 2 (some .int) RX5 (by decide) rfl rfl (Nat.le_of_ble_eq_true rfl) ?_
  intro pg en s m below meth c ls S hr hlk hnm hB hl
  have hK := hB.1
  have hG := xg_start hB
  obtain ⟨hx, hb, hml, hown, hts⟩ := id S
  have hl : lv_has ls 2 [(0, .ref (ad b)), (1, .int p)] := hl
  obtain ⟨Q, hQ⟩ : ∃ Q, Q = MQ below (xg_Ri (fun r : Int32 => r = dt_prd T p)) ([.ref (ad b), .int p] : List Value).toArray s 0 0 xg_F := ⟨_, rfl⟩
  rw [← hQ]
  have k0 := hts (.fieldLink RX5 24 "DareBridge$Town" "pride" "[I") (List.mem_of_getElem? (i := 1) rfl)
  have k1 := hts (.initialized RX7) (List.mem_of_getElem? (i := 3) rfl)
  have k2 := hts (.static yX7_at) (List.mem_of_getElem? (i := 2) rfl)
  refine lv_aload_n hx hb dX5_prideOf_0 rfl (lv_at hl 0 rfl) ?_
  refine xg_get (C := RX5) (T := TX5) (N := 13) S hK hG (fun w h => List.mem_cons_of_mem _ (List.mem_append_right _ (h))) b hT.1 rfl 4 (by decide) k0 (fun _ h9 => h9) rfl dX5_prideOf_1 ?_
  refine lv_iload_n hx hb dX5_prideOf_4 rfl (lv_at hl 1 rfl) ?_
  refine xg_ri (va_runSN (As := [.ref (ad (b + 5)), .int p]) (rest := []) S (mX7_at l D cI cZ bs ad ws (b + 5) 6 (T 4) (show ws[b + 5]? = some (ad (b + 5), .inl (cI, 6, .inl (T 4))) from hT.2 4 (by decide)) p (by decide)) ⟨(va_cnB 2 hts gX5_prideOf_X7_at_n59 rfl rfl rfl (hK.2.1 _ xg_nest_10) k1 (by decide +kernel) ⟨Nat.le_of_ble_eq_true rfl, Nat.le_of_ble_eq_true rfl⟩), k2, trivial⟩ (xg_preS hK hG) rfl rfl hl.1 rfl (lv_room (Nat.le_of_ble_eq_true rfl)) dX5_prideOf_5 ⟨Nat.zero_le _, Nat.zero_le _⟩) (fun r1 hr1 => ?_)
  subst hr1
  rw [hQ]
  exact xg_eri S hr hlk (by subst_vars; rfl) dX5_prideOf_8
set_option maxHeartbeats 4000000 in
set_option maxRecDepth 100000 in
theorem mX5_isThere (l : Launch) (D : va_G) (cI cZ : ClassId) (bs : Nat) (ad : Nat → Nat) (ws : va_W) (b : Nat) (T : Nat → Nat → Int32) (hT : xv_T cI ad ws b T) (p : Int32) : Met l yX5_isThere wsX5_isThere ({ frames := 1, cells := 0, slots := 0, locals := 21 } : Room) (va_Pc [.ref (ad b), .int p] (fun U => xg_W D cI cZ bs ws U)) (xg_Ri (fun r : Int32 => r = xb_i (dt_isT T p))) 0 0 xg_F := by
  refine xg_met cX5_isThere 2 (some .boolean) RX5 (by decide) rfl rfl (Nat.le_of_ble_eq_true rfl) ?_
  intro pg en s m below meth c ls S hr hlk hnm hB hl
  have hK := hB.1
  have hG := xg_start hB
  obtain ⟨hx, hb, hml, hown, hts⟩ := id S
  have hl : lv_has ls 2 [(0, .ref (ad b)), (1, .int p)] := hl
  obtain ⟨Q, hQ⟩ : ∃ Q, Q = MQ below (xg_Ri (fun r : Int32 => r = xb_i (dt_isT T p))) ([.ref (ad b), .int p] : List Value).toArray s 0 0 xg_F := ⟨_, rfl⟩
  rw [← hQ]
  have k0 := hts (.fieldLink RX5 15 "DareBridge$Town" "there" "[I") (List.mem_of_getElem? (i := 1) rfl)
  have k1 := hts (.initialized RX7) (List.mem_of_getElem? (i := 3) rfl)
  have k2 := hts (.static yX7_at) (List.mem_of_getElem? (i := 2) rfl)
  refine lv_aload_n hx hb dX5_isThere_0 rfl (lv_at hl 0 rfl) ?_
  refine xg_get (C := RX5) (T := TX5) (N := 13) S hK hG (fun w h => List.mem_cons_of_mem _ (List.mem_append_right _ (h))) b hT.1 rfl 1 (by decide) k0 (fun _ h9 => h9) rfl dX5_isThere_1 ?_
  refine lv_iload_n hx hb dX5_isThere_4 rfl (lv_at hl 1 rfl) ?_
  refine xg_ri (va_runSN (As := [.ref (ad (b + 2)), .int p]) (rest := []) S (mX7_at l D cI cZ bs ad ws (b + 2) 6 (T 1) (show ws[b + 2]? = some (ad (b + 2), .inl (cI, 6, .inl (T 1))) from hT.2 1 (by decide)) p (by decide)) ⟨(va_cnB 2 hts gX5_isThere_X7_at_n59 rfl rfl rfl (hK.2.1 _ xg_nest_10) k1 (by decide +kernel) ⟨Nat.le_of_ble_eq_true rfl, Nat.le_of_ble_eq_true rfl⟩), k2, trivial⟩ (xg_preS hK hG) rfl rfl hl.1 rfl (lv_room (Nat.le_of_ble_eq_true rfl)) dX5_isThere_5 ⟨Nat.zero_le _, Nat.zero_le _⟩) (fun r1 hr1 => ?_)
  subst hr1
  refine lv_iconst (v := 1) hx hb dX5_isThere_8 (by decide) ?_
  refine lv_icmp_ne (tgt := 16) hx hb dX5_isThere_9 (by decide) (fun c9 => ?_) (fun c9 => ?_)
  · skip
    refine lv_iconst (v := 0) hx hb dX5_isThere_16 (by decide) ?_
    rw [hQ]
    exact xg_erz S hr hlk rfl (by subst_vars; simp [dt_isT, xb_i, c9]) dX5_isThere_17
  · skip
    refine lv_iconst (v := 1) hx hb dX5_isThere_12 (by decide) ?_
    refine lv_goto (tgt := 17) hx hb dX5_isThere_13 (by decide) ?_
    rw [hQ]
    exact xg_erz S hr hlk rfl (by subst_vars; simp [dt_isT, xb_i, c9]) dX5_isThere_17
set_option maxHeartbeats 4000000 in
set_option maxRecDepth 100000 in
theorem mX5_bits (l : Launch) (D : va_G) (cI cZ : ClassId) (bs : Nat) (ad : Nat → Nat) (ws : va_W) (b : Nat) (T : Nat → Nat → Int32) (hT : xv_T cI ad ws b T) : Met l yX5_bits wsX5_bits ({ frames := 1, cells := 0, slots := 0, locals := 21 } : Room) (va_Pc [.ref (ad b)] (fun U => xg_W D cI cZ bs ws U)) (xg_Ri (fun r : Int32 => r = dt_btu T 6)) 0 0 xg_F := by
  refine xg_met cX5_bits 3 (some .int) RX5 (by decide) rfl rfl (Nat.le_of_ble_eq_true rfl) ?_
  intro pg en s m below meth c ls S hr hlk hnm hB hl
  have hK := hB.1
  have hG := xg_start hB
  obtain ⟨hx, hb, hml, hown, hts⟩ := id S
  have hl : lv_has ls 3 [(0, .ref (ad b))] := hl
  obtain ⟨Q, hQ⟩ : ∃ Q, Q = MQ below (xg_Ri (fun r : Int32 => r = dt_btu T 6)) ([.ref (ad b)] : List Value).toArray s 0 0 xg_F := ⟨_, rfl⟩
  rw [← hQ]
  have k0 := hts (.fieldLink RX5 15 "DareBridge$Town" "there" "[I") (List.mem_of_getElem? (i := 1) rfl)
  have k1 := hts (.initialized RX7) (List.mem_of_getElem? (i := 3) rfl)
  have k2 := hts (.static yX7_at) (List.mem_of_getElem? (i := 2) rfl)
  refine lv_iconst (v := 0) hx hb dX5_bits_0 (by decide) ?_
  refine lv_istore_n (lv' := [(1, .int 0), (0, .ref (ad b))]) hx hb dX5_bits_1 rfl hl (by decide) rfl (fun ls hl => ?_)
  refine lv_iconst (v := 0) hx hb dX5_bits_2 (by decide) ?_
  refine lv_istore_n (lv' := [(2, .int 0), (1, .int 0), (0, .ref (ad b))]) hx hb dX5_bits_3 rfl hl (by decide) rfl (fun ls hl => ?_)
  -- the loop at 4
  have lp4 : ∀ (fu : Nat) (k : Nat), (k ≤ 6) → (7 ≤ k + fu) → ∀ y4_1 : Int32, y4_1 = dt_btu T k → ∀ y4_2 : Int32, y4_2 = nI k → ∀ (ls : Array Slot), lv_has ls 3 [(0, .ref (ad b)), (1, .int y4_1), (2, .int y4_2)] → W pg l en ({ frames := 1, cells := 0, slots := 0, locals := 21 } : Room) s m ([.ref (ad b)] : List Value).toArray below meth c s.heap [] 0 0 Q (F0 m 4 ls []) := by
    intro fu
    induction fu with
    | zero =>
      intro k hk hf
      exact absurd hf (by omega)
    | succ fu ih =>
      intro k hk hf y4_1 ey4_1 y4_2 ey4_2
      intro ls hl
      subst ey4_1
      subst ey4_2
      refine lv_iload_n hx hb dX5_bits_4 rfl (lv_at hl 2 rfl) ?_
      refine lv_bipush (v := 6) hx hb dX5_bits_5 (by decide) ?_
      refine lv_icmp_ge (tgt := 29) hx hb dX5_bits_7 (by decide) (fun c7 => ?_) (fun c7 => ?_)
      · skip
        have hk9 : k = 6 := by have := xb_le (k := k) (n := 6) (by omega) (by decide) c7; omega
        subst hk9
        refine lv_iload_n hx hb dX5_bits_29 rfl (lv_at hl 1 rfl) ?_
        rw [hQ]
        exact xg_eri S hr hlk (by subst_vars; rfl) dX5_bits_30
      · skip
        have hk9 : k < 6 := xb_lt (by omega) (by decide) c7
        refine lv_iload_n hx hb dX5_bits_10 rfl (lv_at hl 1 rfl) ?_
        refine lv_aload_n hx hb dX5_bits_11 rfl (lv_at hl 0 rfl) ?_
        refine xg_get (C := RX5) (T := TX5) (N := 13) S hK hG (fun w h => List.mem_cons_of_mem _ (List.mem_append_right _ (h))) b hT.1 rfl 1 (by decide) k0 (fun _ h9 => h9) rfl dX5_bits_12 ?_
        refine lv_iload_n hx hb dX5_bits_15 rfl (lv_at hl 2 rfl) ?_
        refine xg_ri (va_runSN (As := [.ref (ad (b + 2)), .int (nI k)]) (rest := [.int (dt_btu T k)]) S (mX7_at l D cI cZ bs ad ws (b + 2) 6 (T 1) (show ws[b + 2]? = some (ad (b + 2), .inl (cI, 6, .inl (T 1))) from hT.2 1 (by decide)) (nI k) (by decide)) ⟨(va_cnB 2 hts gX5_bits_X7_at_n59 rfl rfl rfl (hK.2.1 _ xg_nest_10) k1 (by decide +kernel) ⟨Nat.le_of_ble_eq_true rfl, Nat.le_of_ble_eq_true rfl⟩), k2, trivial⟩ (xg_preS hK hG) rfl rfl hl.1 rfl (lv_room (Nat.le_of_ble_eq_true rfl)) dX5_bits_16 ⟨Nat.zero_le _, Nat.zero_le _⟩) (fun r1 hr1 => ?_)
        subst hr1
        refine lv_iload_n hx hb dX5_bits_19 rfl (lv_at hl 2 rfl) ?_
        refine lv_ishl hx hb dX5_bits_20 ?_
        refine lv_ior hx hb dX5_bits_21 ?_
        refine lv_topi (fun x2 ex2 => ?_)
        refine lv_istore_n (lv' := [(1, .int x2), (0, .ref (ad b)), (2, .int (nI k))]) hx hb dX5_bits_22 rfl hl (by decide) rfl (fun ls hl => ?_)
        obtain ⟨x3, ex3⟩ : ∃ y : Int32, y = (nI k) + 1 := ⟨_, rfl⟩
        refine lv_iinc (v := x3) (lv' := [(2, .int x3), (1, .int x2), (0, .ref (ad b))]) hx hb dX5_bits_23 hl (k := 2) rfl (by rw [ex3]; rfl) (by decide) rfl (fun ls hl => ?_)
        refine lv_goto (tgt := 4) hx hb dX5_bits_26 (by decide) ?_
        exact ih (k + 1) (by omega) (by omega) x2 (by subst_vars; rfl) x3 (by subst_vars; exact nI_1 k) ls (lv_sub hl [2, 1, 0] rfl)
  exact lp4 7 0 (by omega) (by omega) 0 (by subst_vars; rfl) 0 (by subst_vars; rfl) ls (lv_sub hl [2, 1, 0] rfl)
