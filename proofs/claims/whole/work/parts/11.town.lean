set_option maxHeartbeats 4000000 in
set_option maxRecDepth 100000 in
theorem mX5_rule (l : Launch) (D : va_G) (cI cZ : ClassId) (bs : Nat) (ad : Nat → Nat) (ws : va_W) (b : Nat) (T : Nat → Nat → Int32) (hT : xv_T cI ad ws b T) (i : Int32) : Met l yX5_rule wsX5_rule ({ frames := 1, cells := 0, slots := 0, locals := 21 } : Room) (va_Pc [.ref (ad b), .int i] (fun U => xg_W D cI cZ bs ws U)) (xg_Ri (fun r : Int32 => r = xb_at 7 (T 0) i)) 0 0 xg_F := by
  refine xg_met cX5_rule 2 (some .int) RX5 (by decide) rfl rfl (Nat.le_of_ble_eq_true rfl) ?_
  intro pg en s m below meth c ls S hr hlk hnm hB hl
  have hK := hB.1
  have hG := xg_start hB
  obtain ⟨hx, hb, hml, hown, hts⟩ := id S
  have hl : lv_has ls 2 [(0, .ref (ad b)), (1, .int i)] := hl
  obtain ⟨Q, hQ⟩ : ∃ Q, Q = MQ below (xg_Ri (fun r : Int32 => r = xb_at 7 (T 0) i)) ([.ref (ad b), .int i] : List Value).toArray s 0 0 xg_F := ⟨_, rfl⟩
  rw [← hQ]
  have k0 := hts (.fieldLink RX5 9 "DareBridge$Town" "rules" "[I") (List.mem_of_getElem? (i := 1) rfl)
  have k1 := hts (.initialized RX7) (List.mem_of_getElem? (i := 3) rfl)
  have k2 := hts (.static yX7_at) (List.mem_of_getElem? (i := 2) rfl)
  refine lv_aload_n hx hb dX5_rule_0 rfl (lv_at hl 0 rfl) ?_
  refine xg_get (C := RX5) (T := TX5) (N := 13) S hK hG (fun w h => List.mem_cons_of_mem _ (List.mem_append_right _ (h))) b hT.1 rfl 0 (by decide) k0 (fun _ h9 => h9) rfl dX5_rule_1 ?_
  refine lv_iload_n hx hb dX5_rule_4 rfl (lv_at hl 1 rfl) ?_
  refine xg_ri (va_runSN (As := [.ref (ad (b + 1)), .int i]) (rest := []) S (mX7_at l D cI cZ bs ad ws (b + 1) 7 (T 0) (show ws[b + 1]? = some (ad (b + 1), .inl (cI, 7, .inl (T 0))) from hT.2 0 (by decide)) i (by decide)) ⟨(va_cnB 2 hts gX5_rule_X7_at_n59 rfl rfl rfl (hK.2.1 _ xg_nest_10) k1 (by decide +kernel) ⟨Nat.le_of_ble_eq_true rfl, Nat.le_of_ble_eq_true rfl⟩), k2, trivial⟩ (xg_preS hK hG) rfl rfl hl.1 rfl (lv_room (Nat.le_of_ble_eq_true rfl)) dX5_rule_5 ⟨Nat.zero_le _, Nat.zero_le _⟩) (fun r1 hr1 => ?_)
  replace hr1 := hr1.symm; subst hr1
  rw [hQ]
  exact xg_eri S hr hlk (by skip; rfl) dX5_rule_8
set_option maxHeartbeats 4000000 in
set_option maxRecDepth 100000 in
theorem mX5_prideOf (l : Launch) (D : va_G) (cI cZ : ClassId) (bs : Nat) (ad : Nat → Nat) (ws : va_W) (b : Nat) (T : Nat → Nat → Int32) (hT : xv_T cI ad ws b T) (p : Int32) : Met l yX5_prideOf wsX5_prideOf ({ frames := 1, cells := 0, slots := 0, locals := 21 } : Room) (va_Pc [.ref (ad b), .int p] (fun U => xg_W D cI cZ bs ws U)) (xg_Ri (fun r : Int32 => r = dt_prd T p)) 0 0 xg_F := by
  refine xg_met cX5_prideOf 2 (some .int) RX5 (by decide) rfl rfl (Nat.le_of_ble_eq_true rfl) ?_
  intro pg en s m below meth c ls S hr hlk hnm hB hl
  have hK := hB.1
  have hG := xg_start hB
  obtain ⟨hx, hb, hml, hown, hts⟩ := id S
  have hl : lv_has ls 2 [(0, .ref (ad b)), (1, .int p)] := hl
  obtain ⟨Q, hQ⟩ : ∃ Q, Q = MQ below (xg_Ri (fun r : Int32 => r = dt_prd T p)) ([.ref (ad b), .int p] : List Value).toArray s 0 0 xg_F := ⟨_, rfl⟩
  rw [← hQ]
  have k0 := hts (.fieldLink RX5 24 "DareBridge$Town" "pride" "[I") (List.mem_of_getElem? (i := 1) rfl)
  have k1 := hts (.initialized RX7) (List.mem_of_getElem? (i := 3) rfl)
  have k2 := hts (.static yX7_at) (List.mem_of_getElem? (i := 2) rfl)
  refine lv_aload_n hx hb dX5_prideOf_0 rfl (lv_at hl 0 rfl) ?_
  refine xg_get (C := RX5) (T := TX5) (N := 13) S hK hG (fun w h => List.mem_cons_of_mem _ (List.mem_append_right _ (h))) b hT.1 rfl 4 (by decide) k0 (fun _ h9 => h9) rfl dX5_prideOf_1 ?_
  refine lv_iload_n hx hb dX5_prideOf_4 rfl (lv_at hl 1 rfl) ?_
  refine xg_ri (va_runSN (As := [.ref (ad (b + 5)), .int p]) (rest := []) S (mX7_at l D cI cZ bs ad ws (b + 5) 6 (T 4) (show ws[b + 5]? = some (ad (b + 5), .inl (cI, 6, .inl (T 4))) from hT.2 4 (by decide)) p (by decide)) ⟨(va_cnB 2 hts gX5_prideOf_X7_at_n59 rfl rfl rfl (hK.2.1 _ xg_nest_10) k1 (by decide +kernel) ⟨Nat.le_of_ble_eq_true rfl, Nat.le_of_ble_eq_true rfl⟩), k2, trivial⟩ (xg_preS hK hG) rfl rfl hl.1 rfl (lv_room (Nat.le_of_ble_eq_true rfl)) dX5_prideOf_5 ⟨Nat.zero_le _, Nat.zero_le _⟩) (fun r1 hr1 => ?_)
  replace hr1 := hr1.symm; subst hr1
  rw [hQ]
  exact xg_eri S hr hlk (by skip; rfl) dX5_prideOf_8
set_option maxHeartbeats 4000000 in
set_option maxRecDepth 100000 in
theorem mX5_isThere (l : Launch) (D : va_G) (cI cZ : ClassId) (bs : Nat) (ad : Nat → Nat) (ws : va_W) (b : Nat) (T : Nat → Nat → Int32) (hT : xv_T cI ad ws b T) (p : Int32) : Met l yX5_isThere wsX5_isThere ({ frames := 1, cells := 0, slots := 0, locals := 21 } : Room) (va_Pc [.ref (ad b), .int p] (fun U => xg_W D cI cZ bs ws U)) (xg_Ri (fun r : Int32 => r = xb_i (dt_isT T p))) 0 0 xg_F := by
  refine xg_met cX5_isThere 2 (some .boolean) RX5 (by decide) rfl rfl (Nat.le_of_ble_eq_true rfl) ?_
  intro pg en s m below meth c ls S hr hlk hnm hB hl
  have hK := hB.1
  have hG := xg_start hB
  obtain ⟨hx, hb, hml, hown, hts⟩ := id S
  have hl : lv_has ls 2 [(0, .ref (ad b)), (1, .int p)] := hl
  obtain ⟨Q, hQ⟩ : ∃ Q, Q = MQ below (xg_Ri (fun r : Int32 => r = xb_i (dt_isT T p))) ([.ref (ad b), .int p] : List Value).toArray s 0 0 xg_F := ⟨_, rfl⟩
  rw [← hQ]
  have k0 := hts (.fieldLink RX5 15 "DareBridge$Town" "there" "[I") (List.mem_of_getElem? (i := 1) rfl)
  have k1 := hts (.initialized RX7) (List.mem_of_getElem? (i := 3) rfl)
  have k2 := hts (.static yX7_at) (List.mem_of_getElem? (i := 2) rfl)
  refine lv_aload_n hx hb dX5_isThere_0 rfl (lv_at hl 0 rfl) ?_
  refine xg_get (C := RX5) (T := TX5) (N := 13) S hK hG (fun w h => List.mem_cons_of_mem _ (List.mem_append_right _ (h))) b hT.1 rfl 1 (by decide) k0 (fun _ h9 => h9) rfl dX5_isThere_1 ?_
  refine lv_iload_n hx hb dX5_isThere_4 rfl (lv_at hl 1 rfl) ?_
  refine xg_ri (va_runSN (As := [.ref (ad (b + 2)), .int p]) (rest := []) S (mX7_at l D cI cZ bs ad ws (b + 2) 6 (T 1) (show ws[b + 2]? = some (ad (b + 2), .inl (cI, 6, .inl (T 1))) from hT.2 1 (by decide)) p (by decide)) ⟨(va_cnB 2 hts gX5_isThere_X7_at_n59 rfl rfl rfl (hK.2.1 _ xg_nest_10) k1 (by decide +kernel) ⟨Nat.le_of_ble_eq_true rfl, Nat.le_of_ble_eq_true rfl⟩), k2, trivial⟩ (xg_preS hK hG) rfl rfl hl.1 rfl (lv_room (Nat.le_of_ble_eq_true rfl)) dX5_isThere_5 ⟨Nat.zero_le _, Nat.zero_le _⟩) (fun r1 hr1 => ?_)
  replace hr1 := hr1.symm; subst hr1
  refine lv_iconst (v := 1) hx hb dX5_isThere_8 (by decide) ?_
  refine lv_icmp_ne (tgt := 16) hx hb dX5_isThere_9 (by decide) (fun c9 => ?_) (fun c9 => ?_)
  · skip
    refine lv_iconst (v := 0) hx hb dX5_isThere_16 (by decide) ?_
    rw [hQ]
    exact xg_erz S hr hlk rfl (by skip; simp [dt_isT, xb_i, c9]) dX5_isThere_17
  · skip
    refine lv_iconst (v := 1) hx hb dX5_isThere_12 (by decide) ?_
    refine lv_goto (tgt := 17) hx hb dX5_isThere_13 (by decide) ?_
    rw [hQ]
    exact xg_erz S hr hlk rfl (by skip; simp [dt_isT, xb_i, c9]) dX5_isThere_17
set_option maxHeartbeats 4000000 in
set_option maxRecDepth 100000 in
theorem mX5_bits (l : Launch) (D : va_G) (cI cZ : ClassId) (bs : Nat) (ad : Nat → Nat) (ws : va_W) (b : Nat) (T : Nat → Nat → Int32) (hT : xv_T cI ad ws b T) : Met l yX5_bits wsX5_bits ({ frames := 1, cells := 0, slots := 0, locals := 21 } : Room) (va_Pc [.ref (ad b)] (fun U => xg_W D cI cZ bs ws U)) (xg_Ri (fun r : Int32 => r = dt_btu T 6)) 0 0 xg_F := by
  refine xg_met cX5_bits 3 (some .int) RX5 (by decide) rfl rfl (Nat.le_of_ble_eq_true rfl) ?_
  intro pg en s m below meth c ls S hr hlk hnm hB hl
  have hK := hB.1
  have hG := xg_start hB
  obtain ⟨hx, hb, hml, hown, hts⟩ := id S
  have hl : lv_has ls 3 [(0, .ref (ad b))] := hl
  obtain ⟨Q, hQ⟩ : ∃ Q, Q = MQ below (xg_Ri (fun r : Int32 => r = dt_btu T 6)) ([.ref (ad b)] : List Value).toArray s 0 0 xg_F := ⟨_, rfl⟩
  rw [← hQ]
  have k0 := hts (.fieldLink RX5 15 "DareBridge$Town" "there" "[I") (List.mem_of_getElem? (i := 1) rfl)
  have k1 := hts (.initialized RX7) (List.mem_of_getElem? (i := 3) rfl)
  have k2 := hts (.static yX7_at) (List.mem_of_getElem? (i := 2) rfl)
  refine lv_iconst (v := 0) hx hb dX5_bits_0 (by decide) ?_
  refine lv_istore_n (lv' := [(1, .int 0), (0, .ref (ad b))]) hx hb dX5_bits_1 rfl hl (by decide) rfl (fun ls hl => ?_)
  refine lv_iconst (v := 0) hx hb dX5_bits_2 (by decide) ?_
  refine lv_istore_n (lv' := [(2, .int 0), (1, .int 0), (0, .ref (ad b))]) hx hb dX5_bits_3 rfl hl (by decide) rfl (fun ls hl => ?_)
  -- the loop at 4
  have lp4 : ∀ (fu : Nat) (k : Nat), (k ≤ 6) → (7 ≤ k + fu) → ∀ y4_1 : Int32, y4_1 = dt_btu T k → ∀ y4_2 : Int32, y4_2 = nI k → ∀ (ls : Array Slot), lv_has ls 3 [(0, .ref (ad b)), (1, .int y4_1), (2, .int y4_2)] → W pg l en ({ frames := 1, cells := 0, slots := 0, locals := 21 } : Room) s m ([.ref (ad b)] : List Value).toArray below meth c s.heap [] 0 0 Q (F0 m 4 ls []) := by
    intro fu
    induction fu with
    | zero =>
      intro k hk hf
      exact absurd hf (by omega)
    | succ fu ih =>
      intro k hk hf y4_1 ey4_1 y4_2 ey4_2
      intro ls hl
      replace ey4_1 := ey4_1.symm; subst ey4_1
      replace ey4_2 := ey4_2.symm; subst ey4_2
      refine lv_iload_n hx hb dX5_bits_4 rfl (lv_at hl 2 rfl) ?_
      refine lv_bipush (v := 6) hx hb dX5_bits_5 (by decide) ?_
      refine lv_icmp_ge (tgt := 29) hx hb dX5_bits_7 (by decide) (fun c7 => ?_) (fun c7 => ?_)
      · skip
        have hk9 : k = 6 := by have := xb_le (k := k) (n := 6) (by omega) (by decide) c7; omega
        refine lv_iload_n hx hb dX5_bits_29 rfl (lv_at hl 1 rfl) ?_
        rw [hQ]
        exact xg_eri S hr hlk (by skip; rw [hk9]) dX5_bits_30
      · skip
        have hk9 : k < 6 := xb_lt (by omega) (by decide) c7
        refine lv_iload_n hx hb dX5_bits_10 rfl (lv_at hl 1 rfl) ?_
        refine lv_aload_n hx hb dX5_bits_11 rfl (lv_at hl 0 rfl) ?_
        refine xg_get (C := RX5) (T := TX5) (N := 13) S hK hG (fun w h => List.mem_cons_of_mem _ (List.mem_append_right _ (h))) b hT.1 rfl 1 (by decide) k0 (fun _ h9 => h9) rfl dX5_bits_12 ?_
        refine lv_iload_n hx hb dX5_bits_15 rfl (lv_at hl 2 rfl) ?_
        refine xg_ri (va_runSN (As := [.ref (ad (b + 2)), .int (nI k)]) (rest := [.int (dt_btu T k)]) S (mX7_at l D cI cZ bs ad ws (b + 2) 6 (T 1) (show ws[b + 2]? = some (ad (b + 2), .inl (cI, 6, .inl (T 1))) from hT.2 1 (by decide)) (nI k) (by decide)) ⟨(va_cnB 2 hts gX5_bits_X7_at_n59 rfl rfl rfl (hK.2.1 _ xg_nest_10) k1 (by decide +kernel) ⟨Nat.le_of_ble_eq_true rfl, Nat.le_of_ble_eq_true rfl⟩), k2, trivial⟩ (xg_preS hK hG) rfl rfl hl.1 rfl (lv_room (Nat.le_of_ble_eq_true rfl)) dX5_bits_16 ⟨Nat.zero_le _, Nat.zero_le _⟩) (fun r1 hr1 => ?_)
        replace hr1 := hr1.symm; subst hr1
        refine lv_iload_n hx hb dX5_bits_19 rfl (lv_at hl 2 rfl) ?_
        refine lv_ishl hx hb dX5_bits_20 ?_
        refine lv_ior hx hb dX5_bits_21 ?_
        refine lv_topi (fun x2 ex2 => ?_)
        replace ex2 := ex2.symm
        refine lv_istore_n (lv' := [(1, .int x2), (0, .ref (ad b)), (2, .int (nI k))]) hx hb dX5_bits_22 rfl hl (by decide) rfl (fun ls hl => ?_)
        obtain ⟨x3, ex3⟩ : ∃ zz : Int32, (nI k) + 1 = zz := ⟨_, rfl⟩
        refine lv_iinc (v := x3) (lv' := [(2, .int x3), (1, .int x2), (0, .ref (ad b))]) hx hb dX5_bits_23 hl (k := 2) rfl (by rw [← ex3]; rfl) (by decide) rfl (fun ls hl => ?_)
        refine lv_goto (tgt := 4) hx hb dX5_bits_26 (by decide) ?_
        exact ih (k + 1) (by omega) (by omega) x2 (by subst ex2 ex3; rfl) x3 (by subst ex2 ex3; exact nI_1 k) ls (lv_sub hl [2, 1, 0] rfl)
  exact lp4 7 0 (by omega) (by omega) 0 (by skip; rfl) 0 (by skip; rfl) ls (lv_sub hl [2, 1, 0] rfl)
set_option maxHeartbeats 4000000 in
set_option maxRecDepth 100000 in
theorem mX5_come (l : Launch) (D : va_G) (cI cZ : ClassId) (bs : Nat) (ad : Nat → Nat) (ws : va_W) (b : Nat) (T : Nat → Nat → Int32) (hT : xv_T cI ad ws b T) (p : Int32) (a : Int32) (b1 : Int32) (c1 : Int32) (d1 : Int32) : Met l yX5_come wsX5_come ({ frames := 1, cells := 0, slots := 0, locals := 22 } : Room) (va_Pc [.ref (ad b), .int p, .int a, .int b1, .int c1, .int d1] (fun U => xg_W D cI cZ bs ws U)) (va_Qv (fun w : va_W => xv_T cI ad w b (dt_come T p a b1 c1 d1) ∧ xv_S ws w b 13) (fun w t => xg_W D cI cZ bs w t) (xg_A bs)) 0 0 (xg_A bs) := by
  refine xg_met cX5_come 6 none RX5 (by decide) rfl rfl (Nat.le_of_ble_eq_true rfl) ?_
  intro pg en s m below meth c ls S hr hlk hnm hB hl
  have hK := hB.1
  have hG := xg_start hB
  obtain ⟨hx, hb, hml, hown, hts⟩ := id S
  have hl : lv_has ls 6 [(0, .ref (ad b)), (1, .int p), (2, .int a), (3, .int b1), (4, .int c1), (5, .int d1)] := hl
  obtain ⟨Q, hQ⟩ : ∃ Q, Q = MQ below (va_Qv (fun w : va_W => xv_T cI ad w b (dt_come T p a b1 c1 d1) ∧ xv_S ws w b 13) (fun w t => xg_W D cI cZ bs w t) (xg_A bs)) ([.ref (ad b), .int p, .int a, .int b1, .int c1, .int d1] : List Value).toArray s 0 0 (xg_A bs) := ⟨_, rfl⟩
  rw [← hQ]
  have k0 := hts (.fieldLink RX5 15 "DareBridge$Town" "there" "[I") (List.mem_of_getElem? (i := 1) rfl)
  have k1 := hts (.initialized RX7) (List.mem_of_getElem? (i := 11) rfl)
  have k2 := hts (.static yX7_put) (List.mem_of_getElem? (i := 10) rfl)
  have k3 := hts (.fieldLink RX5 18 "DareBridge$Town" "skill" "[I") (List.mem_of_getElem? (i := 2) rfl)
  have k4 := hts (.fieldLink RX5 21 "DareBridge$Town" "fear" "[I") (List.mem_of_getElem? (i := 3) rfl)
  have k5 := hts (.fieldLink RX5 24 "DareBridge$Town" "pride" "[I") (List.mem_of_getElem? (i := 4) rfl)
  have k6 := hts (.fieldLink RX5 27 "DareBridge$Town" "wish" "[I") (List.mem_of_getElem? (i := 5) rfl)
  have k7 := hts (.fieldLink RX5 30 "DareBridge$Town" "high" "[I") (List.mem_of_getElem? (i := 6) rfl)
  have k8 := hts (.fieldLink RX5 9 "DareBridge$Town" "rules" "[I") (List.mem_of_getElem? (i := 7) rfl)
  have k9 := hts (.static yX7_at) (List.mem_of_getElem? (i := 13) rfl)
  have k10 := hts (.fieldLink RX5 33 "DareBridge$Town" "fame" "[I") (List.mem_of_getElem? (i := 8) rfl)
  have k11 := hts (.fieldLink RX5 36 "DareBridge$Town" "plaster" "[I") (List.mem_of_getElem? (i := 9) rfl)
  refine lv_aload_n hx hb dX5_come_0 rfl (lv_at hl 0 rfl) ?_
  refine xg_get (C := RX5) (T := TX5) (N := 13) S hK hG (fun w h => List.mem_cons_of_mem _ (List.mem_append_right _ (h))) b hT.1 rfl 1 (by decide) k0 (fun _ h9 => h9) rfl dX5_come_1 ?_
  refine lv_iload_n hx hb dX5_come_4 rfl (lv_at hl 1 rfl) ?_
  refine lv_iconst (v := 1) hx hb dX5_come_5 (by decide) ?_
  refine xg_mv (va_runSN (As := [.ref (ad (b + 2)), .int p, .int 1]) (rest := []) S (mX7_put l D cI cZ bs ad ws (b + 2) 6 (T 1) (show ws[b + 2]? = some (ad (b + 2), .inl (cI, 6, .inl (T 1))) from hT.2 1 (by decide)) p 1 (by decide)) ⟨(va_cnB 3 hts gX5_come_X7_put_n63 rfl rfl rfl (hK.2.1 _ xg_nest_9) k1 (by decide +kernel) ⟨Nat.le_of_ble_eq_true rfl, Nat.le_of_ble_eq_true rfl⟩), k2, trivial⟩ (xg_preS hK hG) rfl rfl hl.1 rfl (lv_room (Nat.le_of_ble_eq_true rfl)) dX5_come_6 ⟨Nat.zero_le _, Nat.zero_le _⟩) hG (fun w2 H locs hr1 hG => ?_)
  obtain ⟨hvw2_0, hsw2⟩ := hr1
  obtain ⟨T3, eT3⟩ : ∃ zz : Nat → Nat → Int32, va_up T 1 (xb_pt 6 (T 1) p 1) = zz := ⟨_, rfl⟩
  have hT : xv_T cI ad w2 b T3 := by rw [← eT3]; exact hT.rowS 1 (by decide) hvw2_0 hsw2
  have hSw2 : xv_S ws w2 b 13 := hsw2.mono (by omega) (by omega)
  refine lv_aload_n hx hb dX5_come_9 rfl (lv_at hl 0 rfl) ?_
  refine xg_get (C := RX5) (T := TX5) (N := 13) S hK hG (fun w h => List.mem_cons_of_mem _ (List.mem_append_right _ (h))) b hT.1 rfl 2 (by decide) k3 (fun _ h9 => h9) rfl dX5_come_10 ?_
  refine lv_iload_n hx hb dX5_come_13 rfl (lv_at hl 1 rfl) ?_
  refine lv_iload_n hx hb dX5_come_14 rfl (lv_at hl 2 rfl) ?_
  refine xg_mv (va_runSN (As := [.ref (ad (b + 3)), .int p, .int a]) (rest := []) S (mX7_put l D cI cZ bs ad w2 (b + 3) 6 (T3 2) (show w2[b + 3]? = some (ad (b + 3), .inl (cI, 6, .inl (T3 2))) from hT.2 2 (by decide)) p a (by decide)) ⟨(va_cnB 3 hts gX5_come_X7_put_n63 rfl rfl rfl (hK.2.1 _ xg_nest_9) k1 (by decide +kernel) ⟨Nat.le_of_ble_eq_true rfl, Nat.le_of_ble_eq_true rfl⟩), k2, trivial⟩ (xg_preS hK hG) rfl rfl hl.1 rfl (lv_room (Nat.le_of_ble_eq_true rfl)) dX5_come_15 ⟨Nat.zero_le _, Nat.zero_le _⟩) hG (fun w5 H locs hr4 hG => ?_)
  obtain ⟨hvw5_0, hsw5⟩ := hr4
  obtain ⟨T6, eT6⟩ : ∃ zz : Nat → Nat → Int32, va_up T3 2 (xb_pt 6 (T3 2) p a) = zz := ⟨_, rfl⟩
  have hT : xv_T cI ad w5 b T6 := by rw [← eT6]; exact hT.rowS 2 (by decide) hvw5_0 hsw5
  have hSw5 : xv_S ws w5 b 13 := hSw2.trans (hsw5.mono (by omega) (by omega))
  refine lv_aload_n hx hb dX5_come_18 rfl (lv_at hl 0 rfl) ?_
  refine xg_get (C := RX5) (T := TX5) (N := 13) S hK hG (fun w h => List.mem_cons_of_mem _ (List.mem_append_right _ (h))) b hT.1 rfl 3 (by decide) k4 (fun _ h9 => h9) rfl dX5_come_19 ?_
  refine lv_iload_n hx hb dX5_come_22 rfl (lv_at hl 1 rfl) ?_
  refine lv_iload_n hx hb dX5_come_23 rfl (lv_at hl 3 rfl) ?_
  refine xg_mv (va_runSN (As := [.ref (ad (b + 4)), .int p, .int b1]) (rest := []) S (mX7_put l D cI cZ bs ad w5 (b + 4) 6 (T6 3) (show w5[b + 4]? = some (ad (b + 4), .inl (cI, 6, .inl (T6 3))) from hT.2 3 (by decide)) p b1 (by decide)) ⟨(va_cnB 3 hts gX5_come_X7_put_n63 rfl rfl rfl (hK.2.1 _ xg_nest_9) k1 (by decide +kernel) ⟨Nat.le_of_ble_eq_true rfl, Nat.le_of_ble_eq_true rfl⟩), k2, trivial⟩ (xg_preS hK hG) rfl rfl hl.1 rfl (lv_room (Nat.le_of_ble_eq_true rfl)) dX5_come_24 ⟨Nat.zero_le _, Nat.zero_le _⟩) hG (fun w8 H locs hr7 hG => ?_)
  obtain ⟨hvw8_0, hsw8⟩ := hr7
  obtain ⟨T9, eT9⟩ : ∃ zz : Nat → Nat → Int32, va_up T6 3 (xb_pt 6 (T6 3) p b1) = zz := ⟨_, rfl⟩
  have hT : xv_T cI ad w8 b T9 := by rw [← eT9]; exact hT.rowS 3 (by decide) hvw8_0 hsw8
  have hSw8 : xv_S ws w8 b 13 := hSw5.trans (hsw8.mono (by omega) (by omega))
  refine lv_aload_n hx hb dX5_come_27 rfl (lv_at hl 0 rfl) ?_
  refine xg_get (C := RX5) (T := TX5) (N := 13) S hK hG (fun w h => List.mem_cons_of_mem _ (List.mem_append_right _ (h))) b hT.1 rfl 4 (by decide) k5 (fun _ h9 => h9) rfl dX5_come_28 ?_
  refine lv_iload_n hx hb dX5_come_31 rfl (lv_at hl 1 rfl) ?_
  refine lv_iload hx hb dX5_come_32 (lv_at hl 4 rfl) ?_
  refine xg_mv (va_runSN (As := [.ref (ad (b + 5)), .int p, .int c1]) (rest := []) S (mX7_put l D cI cZ bs ad w8 (b + 5) 6 (T9 4) (show w8[b + 5]? = some (ad (b + 5), .inl (cI, 6, .inl (T9 4))) from hT.2 4 (by decide)) p c1 (by decide)) ⟨(va_cnB 3 hts gX5_come_X7_put_n63 rfl rfl rfl (hK.2.1 _ xg_nest_9) k1 (by decide +kernel) ⟨Nat.le_of_ble_eq_true rfl, Nat.le_of_ble_eq_true rfl⟩), k2, trivial⟩ (xg_preS hK hG) rfl rfl hl.1 rfl (lv_room (Nat.le_of_ble_eq_true rfl)) dX5_come_34 ⟨Nat.zero_le _, Nat.zero_le _⟩) hG (fun w11 H locs hr10 hG => ?_)
  obtain ⟨hvw11_0, hsw11⟩ := hr10
  obtain ⟨T12, eT12⟩ : ∃ zz : Nat → Nat → Int32, va_up T9 4 (xb_pt 6 (T9 4) p c1) = zz := ⟨_, rfl⟩
  have hT : xv_T cI ad w11 b T12 := by rw [← eT12]; exact hT.rowS 4 (by decide) hvw11_0 hsw11
  have hSw11 : xv_S ws w11 b 13 := hSw8.trans (hsw11.mono (by omega) (by omega))
  refine lv_aload_n hx hb dX5_come_37 rfl (lv_at hl 0 rfl) ?_
  refine xg_get (C := RX5) (T := TX5) (N := 13) S hK hG (fun w h => List.mem_cons_of_mem _ (List.mem_append_right _ (h))) b hT.1 rfl 5 (by decide) k6 (fun _ h9 => h9) rfl dX5_come_38 ?_
  refine lv_iload_n hx hb dX5_come_41 rfl (lv_at hl 1 rfl) ?_
  refine lv_iload hx hb dX5_come_42 (lv_at hl 5 rfl) ?_
  refine xg_mv (va_runSN (As := [.ref (ad (b + 6)), .int p, .int d1]) (rest := []) S (mX7_put l D cI cZ bs ad w11 (b + 6) 6 (T12 5) (show w11[b + 6]? = some (ad (b + 6), .inl (cI, 6, .inl (T12 5))) from hT.2 5 (by decide)) p d1 (by decide)) ⟨(va_cnB 3 hts gX5_come_X7_put_n63 rfl rfl rfl (hK.2.1 _ xg_nest_9) k1 (by decide +kernel) ⟨Nat.le_of_ble_eq_true rfl, Nat.le_of_ble_eq_true rfl⟩), k2, trivial⟩ (xg_preS hK hG) rfl rfl hl.1 rfl (lv_room (Nat.le_of_ble_eq_true rfl)) dX5_come_44 ⟨Nat.zero_le _, Nat.zero_le _⟩) hG (fun w14 H locs hr13 hG => ?_)
  obtain ⟨hvw14_0, hsw14⟩ := hr13
  obtain ⟨T15, eT15⟩ : ∃ zz : Nat → Nat → Int32, va_up T12 5 (xb_pt 6 (T12 5) p d1) = zz := ⟨_, rfl⟩
  have hT : xv_T cI ad w14 b T15 := by rw [← eT15]; exact hT.rowS 5 (by decide) hvw14_0 hsw14
  have hSw14 : xv_S ws w14 b 13 := hSw11.trans (hsw14.mono (by omega) (by omega))
  refine lv_aload_n hx hb dX5_come_47 rfl (lv_at hl 0 rfl) ?_
  refine xg_get (C := RX5) (T := TX5) (N := 13) S hK hG (fun w h => List.mem_cons_of_mem _ (List.mem_append_right _ (h))) b hT.1 rfl 6 (by decide) k7 (fun _ h9 => h9) rfl dX5_come_48 ?_
  refine lv_iload_n hx hb dX5_come_51 rfl (lv_at hl 1 rfl) ?_
  refine lv_aload_n hx hb dX5_come_52 rfl (lv_at hl 0 rfl) ?_
  refine xg_get (C := RX5) (T := TX5) (N := 13) S hK hG (fun w h => List.mem_cons_of_mem _ (List.mem_append_right _ (h))) b hT.1 rfl 0 (by decide) k8 (fun _ h9 => h9) rfl dX5_come_53 ?_
  refine lv_iconst (v := 1) hx hb dX5_come_56 (by decide) ?_
  refine xg_ri (va_runSN (As := [.ref (ad (b + 1)), .int 1]) (rest := [.int p, .ref (ad (b + 7))]) S (mX7_at l D cI cZ bs ad w14 (b + 1) 7 (T15 0) (show w14[b + 1]? = some (ad (b + 1), .inl (cI, 7, .inl (T15 0))) from hT.2 0 (by decide)) 1 (by decide)) ⟨(va_cnB 2 hts gX5_come_X7_at_n59 rfl rfl rfl (hK.2.1 _ xg_nest_10) k1 (by decide +kernel) ⟨Nat.le_of_ble_eq_true rfl, Nat.le_of_ble_eq_true rfl⟩), k9, trivial⟩ (xg_preS hK hG) rfl rfl hl.1 rfl (lv_room (Nat.le_of_ble_eq_true rfl)) dX5_come_57 ⟨Nat.zero_le _, Nat.zero_le _⟩) (fun r16 hr16 => ?_)
  replace hr16 := hr16.symm; subst hr16
  refine xg_mv (va_runSN (As := [.ref (ad (b + 7)), .int p, .int (xb_at 7 (T15 0) 1)]) (rest := []) S (mX7_put l D cI cZ bs ad w14 (b + 7) 6 (T15 6) (show w14[b + 7]? = some (ad (b + 7), .inl (cI, 6, .inl (T15 6))) from hT.2 6 (by decide)) p (xb_at 7 (T15 0) 1) (by decide)) ⟨(va_cnB 3 hts gX5_come_X7_put_n63 rfl rfl rfl (hK.2.1 _ xg_nest_9) k1 (by decide +kernel) ⟨Nat.le_of_ble_eq_true rfl, Nat.le_of_ble_eq_true rfl⟩), k2, trivial⟩ (xg_preS hK hG) rfl rfl hl.1 rfl (lv_room (Nat.le_of_ble_eq_true rfl)) dX5_come_60 ⟨Nat.zero_le _, Nat.zero_le _⟩) hG (fun w18 H locs hr17 hG => ?_)
  obtain ⟨hvw18_0, hsw18⟩ := hr17
  obtain ⟨T19, eT19⟩ : ∃ zz : Nat → Nat → Int32, va_up T15 6 (xb_pt 6 (T15 6) p (xb_at 7 (T15 0) 1)) = zz := ⟨_, rfl⟩
  have hT : xv_T cI ad w18 b T19 := by rw [← eT19]; exact hT.rowS 6 (by decide) hvw18_0 hsw18
  have hSw18 : xv_S ws w18 b 13 := hSw14.trans (hsw18.mono (by omega) (by omega))
  refine lv_aload_n hx hb dX5_come_63 rfl (lv_at hl 0 rfl) ?_
  refine xg_get (C := RX5) (T := TX5) (N := 13) S hK hG (fun w h => List.mem_cons_of_mem _ (List.mem_append_right _ (h))) b hT.1 rfl 7 (by decide) k10 (fun _ h9 => h9) rfl dX5_come_64 ?_
  refine lv_iload_n hx hb dX5_come_67 rfl (lv_at hl 1 rfl) ?_
  refine lv_iconst (v := 0) hx hb dX5_come_68 (by decide) ?_
  refine xg_mv (va_runSN (As := [.ref (ad (b + 8)), .int p, .int 0]) (rest := []) S (mX7_put l D cI cZ bs ad w18 (b + 8) 6 (T19 7) (show w18[b + 8]? = some (ad (b + 8), .inl (cI, 6, .inl (T19 7))) from hT.2 7 (by decide)) p 0 (by decide)) ⟨(va_cnB 3 hts gX5_come_X7_put_n63 rfl rfl rfl (hK.2.1 _ xg_nest_9) k1 (by decide +kernel) ⟨Nat.le_of_ble_eq_true rfl, Nat.le_of_ble_eq_true rfl⟩), k2, trivial⟩ (xg_preS hK hG) rfl rfl hl.1 rfl (lv_room (Nat.le_of_ble_eq_true rfl)) dX5_come_69 ⟨Nat.zero_le _, Nat.zero_le _⟩) hG (fun w21 H locs hr20 hG => ?_)
  obtain ⟨hvw21_0, hsw21⟩ := hr20
  obtain ⟨T22, eT22⟩ : ∃ zz : Nat → Nat → Int32, va_up T19 7 (xb_pt 6 (T19 7) p 0) = zz := ⟨_, rfl⟩
  have hT : xv_T cI ad w21 b T22 := by rw [← eT22]; exact hT.rowS 7 (by decide) hvw21_0 hsw21
  have hSw21 : xv_S ws w21 b 13 := hSw18.trans (hsw21.mono (by omega) (by omega))
  refine lv_aload_n hx hb dX5_come_72 rfl (lv_at hl 0 rfl) ?_
  refine xg_get (C := RX5) (T := TX5) (N := 13) S hK hG (fun w h => List.mem_cons_of_mem _ (List.mem_append_right _ (h))) b hT.1 rfl 8 (by decide) k11 (fun _ h9 => h9) rfl dX5_come_73 ?_
  refine lv_iload_n hx hb dX5_come_76 rfl (lv_at hl 1 rfl) ?_
  refine lv_iconst (v := 0) hx hb dX5_come_77 (by decide) ?_
  refine xg_mv (va_runSN (As := [.ref (ad (b + 9)), .int p, .int 0]) (rest := []) S (mX7_put l D cI cZ bs ad w21 (b + 9) 6 (T22 8) (show w21[b + 9]? = some (ad (b + 9), .inl (cI, 6, .inl (T22 8))) from hT.2 8 (by decide)) p 0 (by decide)) ⟨(va_cnB 3 hts gX5_come_X7_put_n63 rfl rfl rfl (hK.2.1 _ xg_nest_9) k1 (by decide +kernel) ⟨Nat.le_of_ble_eq_true rfl, Nat.le_of_ble_eq_true rfl⟩), k2, trivial⟩ (xg_preS hK hG) rfl rfl hl.1 rfl (lv_room (Nat.le_of_ble_eq_true rfl)) dX5_come_78 ⟨Nat.zero_le _, Nat.zero_le _⟩) hG (fun w24 H locs hr23 hG => ?_)
  obtain ⟨hvw24_0, hsw24⟩ := hr23
  obtain ⟨T25, eT25⟩ : ∃ zz : Nat → Nat → Int32, va_up T22 8 (xb_pt 6 (T22 8) p 0) = zz := ⟨_, rfl⟩
  have hT : xv_T cI ad w24 b T25 := by rw [← eT25]; exact hT.rowS 8 (by decide) hvw24_0 hsw24
  have hSw24 : xv_S ws w24 b 13 := hSw21.trans (hsw24.mono (by omega) (by omega))
  rw [hQ]
  exact xg_emv S hr hlk hK hG ⟨(by rw [show (dt_come T p a b1 c1 d1) = T25 from (by subst eT3 eT6 eT9 eT12 eT15 eT19 eT22 eT25; simp [dt_come, va_up_self, va_up_ne])]; exact hT), hSw24⟩ dX5_come_81
set_option maxHeartbeats 4000000 in
set_option maxRecDepth 100000 in
theorem mX5_go (l : Launch) (D : va_G) (cI cZ : ClassId) (bs : Nat) (ad : Nat → Nat) (ws : va_W) (b : Nat) (T : Nat → Nat → Int32) (hT : xv_T cI ad ws b T) (p : Int32) : Met l yX5_go wsX5_go ({ frames := 1, cells := 0, slots := 0, locals := 22 } : Room) (va_Pc [.ref (ad b), .int p] (fun U => xg_W D cI cZ bs ws U)) (va_Qv (fun w : va_W => xv_T cI ad w b (dt_go T p) ∧ xv_S ws w b 13) (fun w t => xg_W D cI cZ bs w t) (xg_A bs)) 0 0 (xg_A bs) := by
  refine xg_met cX5_go 2 none RX5 (by decide) rfl rfl (Nat.le_of_ble_eq_true rfl) ?_
  intro pg en s m below meth c ls S hr hlk hnm hB hl
  have hK := hB.1
  have hG := xg_start hB
  obtain ⟨hx, hb, hml, hown, hts⟩ := id S
  have hl : lv_has ls 2 [(0, .ref (ad b)), (1, .int p)] := hl
  obtain ⟨Q, hQ⟩ : ∃ Q, Q = MQ below (va_Qv (fun w : va_W => xv_T cI ad w b (dt_go T p) ∧ xv_S ws w b 13) (fun w t => xg_W D cI cZ bs w t) (xg_A bs)) ([.ref (ad b), .int p] : List Value).toArray s 0 0 (xg_A bs) := ⟨_, rfl⟩
  rw [← hQ]
  have k0 := hts (.fieldLink RX5 15 "DareBridge$Town" "there" "[I") (List.mem_of_getElem? (i := 1) rfl)
  have k1 := hts (.initialized RX7) (List.mem_of_getElem? (i := 3) rfl)
  have k2 := hts (.static yX7_put) (List.mem_of_getElem? (i := 2) rfl)
  refine lv_aload_n hx hb dX5_go_0 rfl (lv_at hl 0 rfl) ?_
  refine xg_get (C := RX5) (T := TX5) (N := 13) S hK hG (fun w h => List.mem_cons_of_mem _ (List.mem_append_right _ (h))) b hT.1 rfl 1 (by decide) k0 (fun _ h9 => h9) rfl dX5_go_1 ?_
  refine lv_iload_n hx hb dX5_go_4 rfl (lv_at hl 1 rfl) ?_
  refine lv_iconst (v := 0) hx hb dX5_go_5 (by decide) ?_
  refine xg_mv (va_runSN (As := [.ref (ad (b + 2)), .int p, .int 0]) (rest := []) S (mX7_put l D cI cZ bs ad ws (b + 2) 6 (T 1) (show ws[b + 2]? = some (ad (b + 2), .inl (cI, 6, .inl (T 1))) from hT.2 1 (by decide)) p 0 (by decide)) ⟨(va_cnB 3 hts gX5_go_X7_put_n63 rfl rfl rfl (hK.2.1 _ xg_nest_9) k1 (by decide +kernel) ⟨Nat.le_of_ble_eq_true rfl, Nat.le_of_ble_eq_true rfl⟩), k2, trivial⟩ (xg_preS hK hG) rfl rfl hl.1 rfl (lv_room (Nat.le_of_ble_eq_true rfl)) dX5_go_6 ⟨Nat.zero_le _, Nat.zero_le _⟩) hG (fun w2 H locs hr1 hG => ?_)
  obtain ⟨hvw2_0, hsw2⟩ := hr1
  obtain ⟨T3, eT3⟩ : ∃ zz : Nat → Nat → Int32, va_up T 1 (xb_pt 6 (T 1) p 0) = zz := ⟨_, rfl⟩
  have hT : xv_T cI ad w2 b T3 := by rw [← eT3]; exact hT.rowS 1 (by decide) hvw2_0 hsw2
  have hSw2 : xv_S ws w2 b 13 := hsw2.mono (by omega) (by omega)
  rw [hQ]
  exact xg_emv S hr hlk hK hG ⟨(by rw [show (dt_go T p) = T3 from (by subst eT3; rfl)]; exact hT), hSw2⟩ dX5_go_9
set_option maxHeartbeats 4000000 in
set_option maxRecDepth 100000 in
theorem mX5_standing (l : Launch) (D : va_G) (cI cZ : ClassId) (bs : Nat) (ad : Nat → Nat) (ws : va_W) (b : Nat) (T : Nat → Nat → Int32) (hT : xv_T cI ad ws b T) (p : Int32) (x : Int32) : Met l yX5_standing wsX5_standing ({ frames := 1, cells := 0, slots := 0, locals := 21 } : Room) (va_Pc [.ref (ad b), .int p, .int x] (fun U => xg_W D cI cZ bs ws U)) (xg_Ri (fun r : Int32 => r = dt_sta T p x)) 0 0 xg_F := by
  refine xg_met cX5_standing 3 (some .int) RX5 (by decide) rfl rfl (Nat.le_of_ble_eq_true rfl) ?_
  intro pg en s m below meth c ls S hr hlk hnm hB hl
  have hK := hB.1
  have hG := xg_start hB
  obtain ⟨hx, hb, hml, hown, hts⟩ := id S
  have hl : lv_has ls 3 [(0, .ref (ad b)), (1, .int p), (2, .int x)] := hl
  obtain ⟨Q, hQ⟩ : ∃ Q, Q = MQ below (xg_Ri (fun r : Int32 => r = dt_sta T p x)) ([.ref (ad b), .int p, .int x] : List Value).toArray s 0 0 xg_F := ⟨_, rfl⟩
  rw [← hQ]
  have k0 := hts (.fieldLink RX5 33 "DareBridge$Town" "fame" "[I") (List.mem_of_getElem? (i := 1) rfl)
  have k1 := hts (.initialized RX7) (List.mem_of_getElem? (i := 5) rfl)
  have k2 := hts (.static yX7_at) (List.mem_of_getElem? (i := 4) rfl)
  have k3 := hts (.fieldLink RX5 30 "DareBridge$Town" "high" "[I") (List.mem_of_getElem? (i := 2) rfl)
  have k4 := hts (.fieldLink RX5 36 "DareBridge$Town" "plaster" "[I") (List.mem_of_getElem? (i := 3) rfl)
  refine lv_iload_n hx hb dX5_standing_0 rfl (lv_at hl 2 rfl) ?_
  by_cases sw1_0 : x = 0
  · skip
    refine lv_lookup (off := 27) (tgt := 28) hx hb dX5_standing_1 (by decide) (by rw [sw1_0]; rfl) (by decide) ?_
    refine lv_aload_n hx hb dX5_standing_28 rfl (lv_at hl 0 rfl) ?_
    refine xg_get (C := RX5) (T := TX5) (N := 13) S hK hG (fun w h => List.mem_cons_of_mem _ (List.mem_append_right _ (h))) b hT.1 rfl 7 (by decide) k0 (fun _ h9 => h9) rfl dX5_standing_29 ?_
    refine lv_iload_n hx hb dX5_standing_32 rfl (lv_at hl 1 rfl) ?_
    refine xg_ri (va_runSN (As := [.ref (ad (b + 8)), .int p]) (rest := []) S (mX7_at l D cI cZ bs ad ws (b + 8) 6 (T 7) (show ws[b + 8]? = some (ad (b + 8), .inl (cI, 6, .inl (T 7))) from hT.2 7 (by decide)) p (by decide)) ⟨(va_cnB 2 hts gX5_standing_X7_at_n59 rfl rfl rfl (hK.2.1 _ xg_nest_10) k1 (by decide +kernel) ⟨Nat.le_of_ble_eq_true rfl, Nat.le_of_ble_eq_true rfl⟩), k2, trivial⟩ (xg_preS hK hG) rfl rfl hl.1 rfl (lv_room (Nat.le_of_ble_eq_true rfl)) dX5_standing_33 ⟨Nat.zero_le _, Nat.zero_le _⟩) (fun r2 hr2 => ?_)
    replace hr2 := hr2.symm; subst hr2
    refine lv_sipush (v := 1000) hx hb dX5_standing_36 (by decide) ?_
    refine lv_iadd hx hb dX5_standing_39 ?_
    rw [hQ]
    exact xg_eri S hr hlk (by skip; simp [dt_sta, *]) dX5_standing_40
  · skip
    by_cases sw1_1 : x = 1
    · skip
      refine lv_lookup (off := 40) (tgt := 41) hx hb dX5_standing_1 (by decide) (by rw [sw1_1]; rfl) (by decide) ?_
      refine lv_aload_n hx hb dX5_standing_41 rfl (lv_at hl 0 rfl) ?_
      refine xg_get (C := RX5) (T := TX5) (N := 13) S hK hG (fun w h => List.mem_cons_of_mem _ (List.mem_append_right _ (h))) b hT.1 rfl 6 (by decide) k3 (fun _ h9 => h9) rfl dX5_standing_42 ?_
      refine lv_iload_n hx hb dX5_standing_45 rfl (lv_at hl 1 rfl) ?_
      refine xg_ri (va_runSN (As := [.ref (ad (b + 7)), .int p]) (rest := []) S (mX7_at l D cI cZ bs ad ws (b + 7) 6 (T 6) (show ws[b + 7]? = some (ad (b + 7), .inl (cI, 6, .inl (T 6))) from hT.2 6 (by decide)) p (by decide)) ⟨(va_cnB 2 hts gX5_standing_X7_at_n59 rfl rfl rfl (hK.2.1 _ xg_nest_10) k1 (by decide +kernel) ⟨Nat.le_of_ble_eq_true rfl, Nat.le_of_ble_eq_true rfl⟩), k2, trivial⟩ (xg_preS hK hG) rfl rfl hl.1 rfl (lv_room (Nat.le_of_ble_eq_true rfl)) dX5_standing_46 ⟨Nat.zero_le _, Nat.zero_le _⟩) (fun r3 hr3 => ?_)
      replace hr3 := hr3.symm; subst hr3
      rw [hQ]
      exact xg_eri S hr hlk (by skip; simp [dt_sta, *]) dX5_standing_49
    · skip
      have tsw1_0 : ¬ ((0 : Int) = (x : Int32).toInt) := fun q => sw1_0 (Int32.toInt_inj.mp (by rw [← q]; rfl))
      have tsw1_1 : ¬ ((1 : Int) = (x : Int32).toInt) := fun q => sw1_1 (Int32.toInt_inj.mp (by rw [← q]; rfl))
      refine lv_lookup (off := 49) (tgt := 50) hx hb dX5_standing_1 (by decide) (by simp [Op.lookupswitch.offset, tsw1_0, tsw1_1]) (by decide) ?_
      refine lv_aload_n hx hb dX5_standing_50 rfl (lv_at hl 0 rfl) ?_
      refine xg_get (C := RX5) (T := TX5) (N := 13) S hK hG (fun w h => List.mem_cons_of_mem _ (List.mem_append_right _ (h))) b hT.1 rfl 8 (by decide) k4 (fun _ h9 => h9) rfl dX5_standing_51 ?_
      refine lv_iload_n hx hb dX5_standing_54 rfl (lv_at hl 1 rfl) ?_
      refine xg_ri (va_runSN (As := [.ref (ad (b + 9)), .int p]) (rest := []) S (mX7_at l D cI cZ bs ad ws (b + 9) 6 (T 8) (show ws[b + 9]? = some (ad (b + 9), .inl (cI, 6, .inl (T 8))) from hT.2 8 (by decide)) p (by decide)) ⟨(va_cnB 2 hts gX5_standing_X7_at_n59 rfl rfl rfl (hK.2.1 _ xg_nest_10) k1 (by decide +kernel) ⟨Nat.le_of_ble_eq_true rfl, Nat.le_of_ble_eq_true rfl⟩), k2, trivial⟩ (xg_preS hK hG) rfl rfl hl.1 rfl (lv_room (Nat.le_of_ble_eq_true rfl)) dX5_standing_55 ⟨Nat.zero_le _, Nat.zero_le _⟩) (fun r4 hr4 => ?_)
      replace hr4 := hr4.symm; subst hr4
      rw [hQ]
      exact xg_eri S hr hlk (by skip; simp [dt_sta, *]) dX5_standing_58
set_option maxHeartbeats 4000000 in
set_option maxRecDepth 100000 in
theorem mX5_oddsOf (l : Launch) (D : va_G) (cI cZ : ClassId) (bs : Nat) (ad : Nat → Nat) (ws : va_W) (b : Nat) (T : Nat → Nat → Int32) (hT : xv_T cI ad ws b T) (p : Int32) (y : Int32) : Met l yX5_oddsOf wsX5_oddsOf ({ frames := 1, cells := 0, slots := 0, locals := 24 } : Room) (va_Pc [.ref (ad b), .int p, .int y] (fun U => xg_W D cI cZ bs ws U)) (xg_Ri (fun r : Int32 => r = dt_odd T p y)) 0 0 xg_F := by
  refine xg_met cX5_oddsOf 4 (some .int) RX5 (by decide) rfl rfl (Nat.le_of_ble_eq_true rfl) ?_
  intro pg en s m below meth c ls S hr hlk hnm hB hl
  have hK := hB.1
  have hG := xg_start hB
  obtain ⟨hx, hb, hml, hown, hts⟩ := id S
  have hl : lv_has ls 4 [(0, .ref (ad b)), (1, .int p), (2, .int y)] := hl
  obtain ⟨Q, hQ⟩ : ∃ Q, Q = MQ below (xg_Ri (fun r : Int32 => r = dt_odd T p y)) ([.ref (ad b), .int p, .int y] : List Value).toArray s 0 0 xg_F := ⟨_, rfl⟩
  rw [← hQ]
  have k0 := hts (.fieldLink RX5 9 "DareBridge$Town" "rules" "[I") (List.mem_of_getElem? (i := 1) rfl)
  have k1 := hts (.initialized RX7) (List.mem_of_getElem? (i := 11) rfl)
  have k2 := hts (.static yX7_at) (List.mem_of_getElem? (i := 10) rfl)
  have k3 := hts (.fieldLink RX5 18 "DareBridge$Town" "skill" "[I") (List.mem_of_getElem? (i := 2) rfl)
  have k4 := hts (.methodLink RX5 67 Lib.Math.min.name) (List.mem_of_getElem? (i := 3) rfl)
  have k5 := hts (.static Lib.Math.min.name) (List.mem_of_getElem? (i := 4) rfl)
  have k6 := hts (.initialized "java/lang/Math") (List.mem_of_getElem? (i := 5) rfl)
  have k7 := hts (.code Lib.Math.min.name Lib.Math.min.code 2 (some .int)) (List.mem_of_getElem? (i := 6) rfl)
  have k8 := hts (.methodLink RX5 73 Lib.Math.max.name) (List.mem_of_getElem? (i := 7) rfl)
  have k9 := hts (.static Lib.Math.max.name) (List.mem_of_getElem? (i := 8) rfl)
  have k10 := hts (.code Lib.Math.max.name Lib.Math.max.code 2 (some .int)) (List.mem_of_getElem? (i := 9) rfl)
  refine lv_iload_n hx hb dX5_oddsOf_0 rfl (lv_at hl 2 rfl) ?_
  refine lv_iconst (v := 5) hx hb dX5_oddsOf_1 (by decide) ?_
  refine lv_aload_n hx hb dX5_oddsOf_2 rfl (lv_at hl 0 rfl) ?_
  refine xg_get (C := RX5) (T := TX5) (N := 13) S hK hG (fun w h => List.mem_cons_of_mem _ (List.mem_append_right _ (h))) b hT.1 rfl 0 (by decide) k0 (fun _ h9 => h9) rfl dX5_oddsOf_3 ?_
  refine lv_iconst (v := 5) hx hb dX5_oddsOf_6 (by decide) ?_
  refine xg_ri (va_runSN (As := [.ref (ad (b + 1)), .int 5]) (rest := [.int 5, .int y]) S (mX7_at l D cI cZ bs ad ws (b + 1) 7 (T 0) (show ws[b + 1]? = some (ad (b + 1), .inl (cI, 7, .inl (T 0))) from hT.2 0 (by decide)) 5 (by decide)) ⟨(va_cnB 2 hts gX5_oddsOf_X7_at_n59 rfl rfl rfl (hK.2.1 _ xg_nest_10) k1 (by decide +kernel) ⟨Nat.le_of_ble_eq_true rfl, Nat.le_of_ble_eq_true rfl⟩), k2, trivial⟩ (xg_preS hK hG) rfl rfl hl.1 rfl (lv_room (Nat.le_of_ble_eq_true rfl)) dX5_oddsOf_7 ⟨Nat.zero_le _, Nat.zero_le _⟩) (fun r1 hr1 => ?_)
  replace hr1 := hr1.symm; subst hr1
  refine lv_imul hx hb dX5_oddsOf_10 ?_
  refine lv_iadd hx hb dX5_oddsOf_11 ?_
  refine lv_aload_n hx hb dX5_oddsOf_12 rfl (lv_at hl 0 rfl) ?_
  refine xg_get (C := RX5) (T := TX5) (N := 13) S hK hG (fun w h => List.mem_cons_of_mem _ (List.mem_append_right _ (h))) b hT.1 rfl 2 (by decide) k3 (fun _ h9 => h9) rfl dX5_oddsOf_13 ?_
  refine lv_iload_n hx hb dX5_oddsOf_16 rfl (lv_at hl 1 rfl) ?_
  refine xg_ri (va_runSN (As := [.ref (ad (b + 3)), .int p]) (rest := [.int (y + (5 * (xb_at 7 (T 0) 5)))]) S (mX7_at l D cI cZ bs ad ws (b + 3) 6 (T 2) (show ws[b + 3]? = some (ad (b + 3), .inl (cI, 6, .inl (T 2))) from hT.2 2 (by decide)) p (by decide)) ⟨(va_cnB 2 hts gX5_oddsOf_X7_at_n59 rfl rfl rfl (hK.2.1 _ xg_nest_10) k1 (by decide +kernel) ⟨Nat.le_of_ble_eq_true rfl, Nat.le_of_ble_eq_true rfl⟩), k2, trivial⟩ (xg_preS hK hG) rfl rfl hl.1 rfl (lv_room (Nat.le_of_ble_eq_true rfl)) dX5_oddsOf_17 ⟨Nat.zero_le _, Nat.zero_le _⟩) (fun r2 hr2 => ?_)
  replace hr2 := hr2.symm; subst hr2
  refine lv_isub hx hb dX5_oddsOf_20 ?_
  refine lv_topi (fun x3 ex3 => ?_)
  replace ex3 := ex3.symm
  refine lv_istore_n (lv' := [(3, .int x3), (0, .ref (ad b)), (1, .int p), (2, .int y)]) hx hb dX5_oddsOf_21 rfl hl (by decide) rfl (fun ls hl => ?_)
  refine lv_iconst (v := 0) hx hb dX5_oddsOf_22 (by decide) ?_
  refine lv_bipush (v := 10) hx hb dX5_oddsOf_23 (by decide) ?_
  refine lv_iload_n hx hb dX5_oddsOf_25 rfl (lv_at hl 0 rfl) ?_
  refine lv_iconst (v := 2) hx hb dX5_oddsOf_26 (by decide) ?_
  refine lv_idiv hx hb dX5_oddsOf_27 (by decide) ?_
  refine va_mmin hx hb (hml.trans hl.1.symm) hown k4 k5 k6 k7 (Nat.le_of_ble_eq_true rfl) (Nat.le_of_ble_eq_true rfl) (Nat.zero_le _) (Nat.zero_le _) dX5_oddsOf_28 ?_
  refine va_mmax hx hb (hml.trans hl.1.symm) hown k8 k9 k6 k10 (Nat.le_of_ble_eq_true rfl) (Nat.le_of_ble_eq_true rfl) (Nat.zero_le _) (Nat.zero_le _) dX5_oddsOf_31 ?_
  rw [hQ]
  exact xg_eri S hr hlk (by subst ex3; rfl) dX5_oddsOf_34
