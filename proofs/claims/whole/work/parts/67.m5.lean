set_option maxHeartbeats 4000000 in
set_option maxRecDepth 100000 in
theorem mX8_doneBy (l : Launch) (D : va_G) (cI cZ : ClassId) (bs : Nat) (ad : Nat → Nat) (ws : va_W) (b : Nat) (A : Nat → Nat → Int32) (I : Nat → Int32) (L : Int64) (hM : xv_M cI cZ ad ws b A I L) (p : Int32) (q : Int32) (y : Int32) (hp : vp_in p 6) : Met l yX8_doneBy wsX8_doneBy ({ frames := 1, cells := 0, slots := 0, locals := 23 } : Room) (va_Pc [.ref (ad b), .int p, .int q, .int y] (fun U => xg_W D cI cZ bs ws U)) (xg_Ri (fun r : Int32 => r = em_dnb A I p q y)) 0 0 xg_F := by
  refine xg_met cX8_doneBy 4 (some .int) RX8 (by decide) rfl rfl (Nat.le_of_ble_eq_true rfl) ?_
  intro pg en s m below meth c ls S hr hlk hnm hB hl
  have hK := hB.1
  have hG := xg_start hB
  obtain ⟨hx, hb, hml, hown, hts⟩ := id S
  have hl : lv_has ls 4 [(0, .ref (ad b)), (1, .int p), (2, .int q), (3, .int y)] := hl
  obtain ⟨Q, hQ⟩ : ∃ Q, Q = MQ below (xg_Ri (fun r : Int32 => r = em_dnb A I p q y)) ([.ref (ad b), .int p, .int q, .int y] : List Value).toArray s 0 0 xg_F := ⟨_, rfl⟩
  rw [← hQ]
  have k0 := hts (.fieldLink RX8 87 "DareBridgeModel" "cost" "I") (List.mem_of_getElem? (i := 1) rfl)
  have k1 := hts (.fieldLink RX8 13 "DareBridgeModel" "fear" "[I") (List.mem_of_getElem? (i := 2) rfl)
  refine lv_bipush (v := 10) hx hb dX8_doneBy_0 (by decide) ?_
  refine lv_iload_n hx hb dX8_doneBy_2 rfl (lv_at hl 2 rfl) ?_
  refine lv_imul hx hb dX8_doneBy_3 ?_
  refine lv_iload_n hx hb dX8_doneBy_4 rfl (lv_at hl 3 rfl) ?_
  refine lv_imul hx hb dX8_doneBy_5 ?_
  refine lv_aload_n hx hb dX8_doneBy_6 rfl (lv_at hl 0 rfl) ?_
  refine lv_iload_n hx hb dX8_doneBy_7 rfl (lv_at hl 1 rfl) ?_
  refine lv_iload_n hx hb dX8_doneBy_8 rfl (lv_at hl 3 rfl) ?_
  refine xg_ri (va_runV (As := [.int p, .int y]) (rest := [.int ((10 * q) * y)]) S (mX8_oddsOf l D cI cZ bs ad ws b A I L hM p y (by first | assumption | omega)) (cwV 2 hts gX8_doneBy_X8_oddsOf rfl rfl rfl (by decide +kernel) ⟨Nat.le_of_ble_eq_true rfl, Nat.le_of_ble_eq_true rfl⟩) (xg_preV hK hG b hM.1 rfl rfl) rfl rfl hl.1 rfl (lv_room (Nat.le_of_ble_eq_true rfl)) dX8_doneBy_9 ⟨Nat.zero_le _, Nat.zero_le _⟩) (fun r1 hr1 => ?_)
  replace hr1 := hr1.symm; subst hr1
  refine lv_aload_n hx hb dX8_doneBy_12 rfl (lv_at hl 0 rfl) ?_
  refine xg_get (C := RX8) (T := TX8) (N := 46) S hK hG (fun w h => List.mem_cons_of_mem _ (List.mem_append_right _ (h))) b hM.1 rfl 10 (by decide) k0 (fun _ h9 => h9) rfl dX8_doneBy_13 ?_
  refine lv_aload_n hx hb dX8_doneBy_16 rfl (lv_at hl 0 rfl) ?_
  refine xg_get (C := RX8) (T := TX8) (N := 46) S hK hG (fun w h => List.mem_cons_of_mem _ (List.mem_append_right _ (h))) b hM.1 rfl 2 (by decide) k1 (fun _ h9 => h9) rfl dX8_doneBy_17 ?_
  refine lv_iload_n hx hb dX8_doneBy_20 rfl (lv_at hl 1 rfl) ?_
  refine xg_ald S hK hG (b + 2) (show ws[b + 2]? = some (ad (b + 2), .inl (cI, 6, .inl (A 1))) from hM.2.1 1 (by decide)) (i := p) (by first | assumption | exact vp_in_nI (by omega) (by decide)) dX8_doneBy_21 ?_
  refine lv_iload_n hx hb dX8_doneBy_22 rfl (lv_at hl 3 rfl) ?_
  refine lv_imul hx hb dX8_doneBy_23 ?_
  refine lv_iadd hx hb dX8_doneBy_24 ?_
  refine lv_imul hx hb dX8_doneBy_25 ?_
  refine lv_isub hx hb dX8_doneBy_26 ?_
  rw [hQ]
  exact xg_eri S hr hlk (by skip; rfl) dX8_doneBy_27
set_option maxHeartbeats 4000000 in
set_option maxRecDepth 100000 in
theorem mX8_refusedBy (l : Launch) (D : va_G) (cI cZ : ClassId) (bs : Nat) (ad : Nat → Nat) (ws : va_W) (q : Int32) (y : Int32) : Met l yX8_refusedBy wsX8_refusedBy ({ frames := 0, cells := 0, slots := 0, locals := 0 } : Room) (va_Pc [.int q, .int y] (fun U => xg_W D cI cZ bs ws U)) (xg_Ri (fun r : Int32 => r = dt_wrf y q)) 0 0 xg_F := by
  refine xg_met cX8_refusedBy 2 (some .int) RX8 (by decide) rfl rfl (Nat.le_of_ble_eq_true rfl) ?_
  intro pg en s m below meth c ls S hr hlk hnm hB hl
  have hK := hB.1
  have hG := xg_start hB
  obtain ⟨hx, hb, hml, hown, hts⟩ := id S
  have hl : lv_has ls 2 [(0, .int q), (1, .int y)] := hl
  obtain ⟨Q, hQ⟩ : ∃ Q, Q = MQ below (xg_Ri (fun r : Int32 => r = dt_wrf y q)) ([.int q, .int y] : List Value).toArray s 0 0 xg_F := ⟨_, rfl⟩
  rw [← hQ]
  refine lv_bipush (v := (-10)) hx hb dX8_refusedBy_0 (by decide) ?_
  refine lv_iload_n hx hb dX8_refusedBy_2 rfl (lv_at hl 0 rfl) ?_
  refine lv_imul hx hb dX8_refusedBy_3 ?_
  refine lv_iload_n hx hb dX8_refusedBy_4 rfl (lv_at hl 1 rfl) ?_
  refine lv_iconst (v := 2) hx hb dX8_refusedBy_5 (by decide) ?_
  refine lv_idiv hx hb dX8_refusedBy_6 (by decide) ?_
  refine lv_imul hx hb dX8_refusedBy_7 ?_
  rw [hQ]
  exact xg_eri S hr hlk (by skip; rfl) dX8_refusedBy_8
set_option maxHeartbeats 4000000 in
set_option maxRecDepth 100000 in
theorem mX8_worthDone (l : Launch) (D : va_G) (cI cZ : ClassId) (bs : Nat) (ad : Nat → Nat) (ws : va_W) (b : Nat) (A : Nat → Nat → Int32) (I : Nat → Int32) (L : Int64) (hM : xv_M cI cZ ad ws b A I L) (p : Int32) (y : Int32) (hp : vp_in p 6) : Met l yX8_worthDone wsX8_worthDone ({ frames := 2, cells := 0, slots := 0, locals := 46 } : Room) (va_Pc [.ref (ad b), .int p, .int y] (fun U => xg_W D cI cZ bs ws U)) (xg_Ri (fun r : Int32 => r = em_dnb A I p (A 2 p.toNatClampNeg) y)) 0 0 xg_F := by
  refine xg_met cX8_worthDone 3 (some .int) RX8 (by decide) rfl rfl (Nat.le_of_ble_eq_true rfl) ?_
  intro pg en s m below meth c ls S hr hlk hnm hB hl
  have hK := hB.1
  have hG := xg_start hB
  obtain ⟨hx, hb, hml, hown, hts⟩ := id S
  have hl : lv_has ls 3 [(0, .ref (ad b)), (1, .int p), (2, .int y)] := hl
  obtain ⟨Q, hQ⟩ : ∃ Q, Q = MQ below (xg_Ri (fun r : Int32 => r = em_dnb A I p (A 2 p.toNatClampNeg) y)) ([.ref (ad b), .int p, .int y] : List Value).toArray s 0 0 xg_F := ⟨_, rfl⟩
  rw [← hQ]
  have k0 := hts (.fieldLink RX8 16 "DareBridgeModel" "pride" "[I") (List.mem_of_getElem? (i := 1) rfl)
  refine lv_aload_n hx hb dX8_worthDone_0 rfl (lv_at hl 0 rfl) ?_
  refine lv_iload_n hx hb dX8_worthDone_1 rfl (lv_at hl 1 rfl) ?_
  refine lv_aload_n hx hb dX8_worthDone_2 rfl (lv_at hl 0 rfl) ?_
  refine xg_get (C := RX8) (T := TX8) (N := 46) S hK hG (fun w h => List.mem_cons_of_mem _ (List.mem_append_right _ (h))) b hM.1 rfl 3 (by decide) k0 (fun _ h9 => h9) rfl dX8_worthDone_3 ?_
  refine lv_iload_n hx hb dX8_worthDone_6 rfl (lv_at hl 1 rfl) ?_
  refine xg_ald S hK hG (b + 3) (show ws[b + 3]? = some (ad (b + 3), .inl (cI, 6, .inl (A 2))) from hM.2.1 2 (by decide)) (i := p) (by first | assumption | exact vp_in_nI (by omega) (by decide)) dX8_worthDone_7 ?_
  refine lv_iload_n hx hb dX8_worthDone_8 rfl (lv_at hl 2 rfl) ?_
  refine xg_ri (va_runV (As := [.int p, .int ((A 2) p.toNatClampNeg), .int y]) (rest := []) S (mX8_doneBy l D cI cZ bs ad ws b A I L hM p ((A 2) p.toNatClampNeg) y (by first | assumption | omega)) (cwV 3 hts gX8_worthDone_X8_doneBy rfl rfl rfl (by decide +kernel) ⟨Nat.le_of_ble_eq_true rfl, Nat.le_of_ble_eq_true rfl⟩) (xg_preV hK hG b hM.1 rfl rfl) rfl rfl hl.1 rfl (lv_room (Nat.le_of_ble_eq_true rfl)) dX8_worthDone_9 ⟨Nat.zero_le _, Nat.zero_le _⟩) (fun r1 hr1 => ?_)
  replace hr1 := hr1.symm; subst hr1
  rw [hQ]
  exact xg_eri S hr hlk (by skip; rfl) dX8_worthDone_12
set_option maxHeartbeats 4000000 in
set_option maxRecDepth 100000 in
theorem mX8_worthRefused (l : Launch) (D : va_G) (cI cZ : ClassId) (bs : Nat) (ad : Nat → Nat) (ws : va_W) (b : Nat) (A : Nat → Nat → Int32) (I : Nat → Int32) (L : Int64) (hM : xv_M cI cZ ad ws b A I L) (p : Int32) (y : Int32) (hp : vp_in p 6) : Met l yX8_worthRefused wsX8_worthRefused ({ frames := 1, cells := 0, slots := 0, locals := 21 } : Room) (va_Pc [.ref (ad b), .int p, .int y] (fun U => xg_W D cI cZ bs ws U)) (xg_Ri (fun r : Int32 => r = dt_wrf y (A 2 p.toNatClampNeg))) 0 0 xg_F := by
  refine xg_met cX8_worthRefused 3 (some .int) RX8 (by decide) rfl rfl (Nat.le_of_ble_eq_true rfl) ?_
  intro pg en s m below meth c ls S hr hlk hnm hB hl
  have hK := hB.1
  have hG := xg_start hB
  obtain ⟨hx, hb, hml, hown, hts⟩ := id S
  have hl : lv_has ls 3 [(0, .ref (ad b)), (1, .int p), (2, .int y)] := hl
  obtain ⟨Q, hQ⟩ : ∃ Q, Q = MQ below (xg_Ri (fun r : Int32 => r = dt_wrf y (A 2 p.toNatClampNeg))) ([.ref (ad b), .int p, .int y] : List Value).toArray s 0 0 xg_F := ⟨_, rfl⟩
  rw [← hQ]
  have k0 := hts (.fieldLink RX8 16 "DareBridgeModel" "pride" "[I") (List.mem_of_getElem? (i := 1) rfl)
  refine lv_aload_n hx hb dX8_worthRefused_0 rfl (lv_at hl 0 rfl) ?_
  refine xg_get (C := RX8) (T := TX8) (N := 46) S hK hG (fun w h => List.mem_cons_of_mem _ (List.mem_append_right _ (h))) b hM.1 rfl 3 (by decide) k0 (fun _ h9 => h9) rfl dX8_worthRefused_1 ?_
  refine lv_iload_n hx hb dX8_worthRefused_4 rfl (lv_at hl 1 rfl) ?_
  refine xg_ald S hK hG (b + 3) (show ws[b + 3]? = some (ad (b + 3), .inl (cI, 6, .inl (A 2))) from hM.2.1 2 (by decide)) (i := p) (by first | assumption | exact vp_in_nI (by omega) (by decide)) dX8_worthRefused_5 ?_
  refine lv_iload_n hx hb dX8_worthRefused_6 rfl (lv_at hl 2 rfl) ?_
  refine xg_ri (va_runS (As := [.int ((A 2) p.toNatClampNeg), .int y]) (rest := []) S (mX8_refusedBy l D cI cZ bs ad ws ((A 2) p.toNatClampNeg) y) (va_cwS 2 hts gX8_worthRefused_X8_refusedBy rfl rfl rfl (by decide +kernel) ⟨Nat.le_of_ble_eq_true rfl, Nat.le_of_ble_eq_true rfl⟩) (xg_preS hK hG) rfl rfl hl.1 rfl (lv_room (Nat.le_of_ble_eq_true rfl)) dX8_worthRefused_7 ⟨Nat.zero_le _, Nat.zero_le _⟩) (fun r1 hr1 => ?_)
  replace hr1 := hr1.symm; subst hr1
  rw [hQ]
  exact xg_eri S hr hlk (by skip; rfl) dX8_worthRefused_10
set_option maxHeartbeats 4000000 in
set_option maxRecDepth 100000 in
theorem mX8_doesBy (l : Launch) (D : va_G) (cI cZ : ClassId) (bs : Nat) (ad : Nat → Nat) (ws : va_W) (b : Nat) (A : Nat → Nat → Int32) (I : Nat → Int32) (L : Int64) (hM : xv_M cI cZ ad ws b A I L) (p : Int32) (q : Int32) (y : Int32) (hp : vp_in p 6) : Met l yX8_doesBy wsX8_doesBy ({ frames := 2, cells := 0, slots := 0, locals := 46 } : Room) (va_Pc [.ref (ad b), .int p, .int q, .int y] (fun U => xg_W D cI cZ bs ws U)) (xg_Ri (fun r : Int32 => r = xb_i (em_dsb A I p q y))) 0 0 xg_F := by
  refine xg_met cX8_doesBy 4 (some .boolean) RX8 (by decide) rfl rfl (Nat.le_of_ble_eq_true rfl) ?_
  intro pg en s m below meth c ls S hr hlk hnm hB hl
  have hK := hB.1
  have hG := xg_start hB
  obtain ⟨hx, hb, hml, hown, hts⟩ := id S
  have hl : lv_has ls 4 [(0, .ref (ad b)), (1, .int p), (2, .int q), (3, .int y)] := hl
  obtain ⟨Q, hQ⟩ : ∃ Q, Q = MQ below (xg_Ri (fun r : Int32 => r = xb_i (em_dsb A I p q y))) ([.ref (ad b), .int p, .int q, .int y] : List Value).toArray s 0 0 xg_F := ⟨_, rfl⟩
  rw [← hQ]
  refine lv_aload_n hx hb dX8_doesBy_0 rfl (lv_at hl 0 rfl) ?_
  refine lv_iload_n hx hb dX8_doesBy_1 rfl (lv_at hl 1 rfl) ?_
  refine lv_iload_n hx hb dX8_doesBy_2 rfl (lv_at hl 2 rfl) ?_
  refine lv_iload_n hx hb dX8_doesBy_3 rfl (lv_at hl 3 rfl) ?_
  refine xg_ri (va_runV (As := [.int p, .int q, .int y]) (rest := []) S (mX8_doneBy l D cI cZ bs ad ws b A I L hM p q y (by first | assumption | omega)) (cwV 3 hts gX8_doesBy_X8_doneBy rfl rfl rfl (by decide +kernel) ⟨Nat.le_of_ble_eq_true rfl, Nat.le_of_ble_eq_true rfl⟩) (xg_preV hK hG b hM.1 rfl rfl) rfl rfl hl.1 rfl (lv_room (Nat.le_of_ble_eq_true rfl)) dX8_doesBy_4 ⟨Nat.zero_le _, Nat.zero_le _⟩) (fun r1 hr1 => ?_)
  replace hr1 := hr1.symm; subst hr1
  refine lv_iload_n hx hb dX8_doesBy_7 rfl (lv_at hl 2 rfl) ?_
  refine lv_iload_n hx hb dX8_doesBy_8 rfl (lv_at hl 3 rfl) ?_
  refine xg_ri (va_runS (As := [.int q, .int y]) (rest := [.int (em_dnb A I p q y)]) S (mX8_refusedBy l D cI cZ bs ad ws q y) (va_cwS 2 hts gX8_doesBy_X8_refusedBy rfl rfl rfl (by decide +kernel) ⟨Nat.le_of_ble_eq_true rfl, Nat.le_of_ble_eq_true rfl⟩) (xg_preS hK hG) rfl rfl hl.1 rfl (lv_room (Nat.le_of_ble_eq_true rfl)) dX8_doesBy_9 ⟨Nat.zero_le _, Nat.zero_le _⟩) (fun r2 hr2 => ?_)
  replace hr2 := hr2.symm; subst hr2
  refine lv_icmp_lt (tgt := 19) hx hb dX8_doesBy_12 (by decide) (fun c12 => ?_) (fun c12 => ?_)
  · skip
    refine lv_iconst (v := 0) hx hb dX8_doesBy_19 (by decide) ?_
    rw [hQ]
    exact xg_erz S hr hlk rfl (by skip; simp [em_dsb, xb_i, c12]) dX8_doesBy_20
  · skip
    refine lv_iconst (v := 1) hx hb dX8_doesBy_15 (by decide) ?_
    refine lv_goto (tgt := 20) hx hb dX8_doesBy_16 (by decide) ?_
    rw [hQ]
    exact xg_erz S hr hlk rfl (by skip; simp [em_dsb, xb_i, c12]) dX8_doesBy_20
set_option maxHeartbeats 4000000 in
set_option maxRecDepth 100000 in
theorem mX8_doesIt (l : Launch) (D : va_G) (cI cZ : ClassId) (bs : Nat) (ad : Nat → Nat) (ws : va_W) (b : Nat) (A : Nat → Nat → Int32) (I : Nat → Int32) (L : Int64) (hM : xv_M cI cZ ad ws b A I L) (p : Int32) (y : Int32) (hp : vp_in p 6) : Met l yX8_doesIt wsX8_doesIt ({ frames := 3, cells := 0, slots := 0, locals := 69 } : Room) (va_Pc [.ref (ad b), .int p, .int y] (fun U => xg_W D cI cZ bs ws U)) (xg_Ri (fun r : Int32 => r = xb_i (em_dit A I p y))) 0 0 xg_F := by
  refine xg_met cX8_doesIt 3 (some .boolean) RX8 (by decide) rfl rfl (Nat.le_of_ble_eq_true rfl) ?_
  intro pg en s m below meth c ls S hr hlk hnm hB hl
  have hK := hB.1
  have hG := xg_start hB
  obtain ⟨hx, hb, hml, hown, hts⟩ := id S
  have hl : lv_has ls 3 [(0, .ref (ad b)), (1, .int p), (2, .int y)] := hl
  obtain ⟨Q, hQ⟩ : ∃ Q, Q = MQ below (xg_Ri (fun r : Int32 => r = xb_i (em_dit A I p y))) ([.ref (ad b), .int p, .int y] : List Value).toArray s 0 0 xg_F := ⟨_, rfl⟩
  rw [← hQ]
  have k0 := hts (.fieldLink RX8 16 "DareBridgeModel" "pride" "[I") (List.mem_of_getElem? (i := 1) rfl)
  refine lv_aload_n hx hb dX8_doesIt_0 rfl (lv_at hl 0 rfl) ?_
  refine lv_iload_n hx hb dX8_doesIt_1 rfl (lv_at hl 1 rfl) ?_
  refine lv_aload_n hx hb dX8_doesIt_2 rfl (lv_at hl 0 rfl) ?_
  refine xg_get (C := RX8) (T := TX8) (N := 46) S hK hG (fun w h => List.mem_cons_of_mem _ (List.mem_append_right _ (h))) b hM.1 rfl 3 (by decide) k0 (fun _ h9 => h9) rfl dX8_doesIt_3 ?_
  refine lv_iload_n hx hb dX8_doesIt_6 rfl (lv_at hl 1 rfl) ?_
  refine xg_ald S hK hG (b + 3) (show ws[b + 3]? = some (ad (b + 3), .inl (cI, 6, .inl (A 2))) from hM.2.1 2 (by decide)) (i := p) (by first | assumption | exact vp_in_nI (by omega) (by decide)) dX8_doesIt_7 ?_
  refine lv_iload_n hx hb dX8_doesIt_8 rfl (lv_at hl 2 rfl) ?_
  refine xg_ri (va_runV (As := [.int p, .int ((A 2) p.toNatClampNeg), .int y]) (rest := []) S (mX8_doesBy l D cI cZ bs ad ws b A I L hM p ((A 2) p.toNatClampNeg) y (by first | assumption | omega)) (cwV 3 hts gX8_doesIt_X8_doesBy rfl rfl rfl (by decide +kernel) ⟨Nat.le_of_ble_eq_true rfl, Nat.le_of_ble_eq_true rfl⟩) (xg_preV hK hG b hM.1 rfl rfl) rfl rfl hl.1 rfl (lv_room (Nat.le_of_ble_eq_true rfl)) dX8_doesIt_9 ⟨Nat.zero_le _, Nat.zero_le _⟩) (fun r1 hr1 => ?_)
  replace hr1 := hr1.symm; subst hr1
  rw [hQ]
  exact xg_erz S hr hlk (by cases (em_dsb A I p ((A 2) p.toNatClampNeg) y) <;> rfl) (by skip; rfl) dX8_doesIt_12
set_option maxHeartbeats 4000000 in
set_option maxRecDepth 100000 in
theorem mX8_odds (l : Launch) (D : va_G) (cI cZ : ClassId) (bs : Nat) (ad : Nat → Nat) (ws : va_W) (b : Nat) (A : Nat → Nat → Int32) (I : Nat → Int32) (L : Int64) (hM : xv_M cI cZ ad ws b A I L) (p : Int32) (y : Int32) : Met l yX8_odds wsX8_odds ({ frames := 3, cells := 0, slots := 0, locals := 66 } : Room) (va_Pc [.ref (ad b), .int p, .int y] (fun U => xg_W D cI cZ bs ws U)) (xg_Ri (fun r : Int32 => r = em_odr A I p y)) 0 0 xg_F := by
  refine xg_met cX8_odds 3 (some .int) RX8 (by decide) rfl rfl (Nat.le_of_ble_eq_true rfl) ?_
  intro pg en s m below meth c ls S hr hlk hnm hB hl
  have hK := hB.1
  have hG := xg_start hB
  obtain ⟨hx, hb, hml, hown, hts⟩ := id S
  have hl : lv_has ls 3 [(0, .ref (ad b)), (1, .int p), (2, .int y)] := hl
  obtain ⟨Q, hQ⟩ : ∃ Q, Q = MQ below (xg_Ri (fun r : Int32 => r = em_odr A I p y)) ([.ref (ad b), .int p, .int y] : List Value).toArray s 0 0 xg_F := ⟨_, rfl⟩
  rw [← hQ]
  refine lv_aload_n hx hb dX8_odds_0 rfl (lv_at hl 0 rfl) ?_
  refine lv_iload_n hx hb dX8_odds_1 rfl (lv_at hl 1 rfl) ?_
  refine xg_ri (va_runV (As := [.int p]) (rest := []) S (mX8_isThere l D cI cZ bs ad ws b A I L hM p) (cwV 1 hts gX8_odds_X8_isThere rfl rfl rfl (by decide +kernel) ⟨Nat.le_of_ble_eq_true rfl, Nat.le_of_ble_eq_true rfl⟩) (xg_preV hK hG b hM.1 rfl rfl) rfl rfl hl.1 rfl (lv_room (Nat.le_of_ble_eq_true rfl)) dX8_odds_2 ⟨Nat.zero_le _, Nat.zero_le _⟩) (fun r1 hr1 => ?_)
  replace hr1 := hr1.symm; subst hr1
  refine xb_ifne (tgt := 10) S dX8_odds_5 (by decide) (fun c5 => ?_) (fun c5 => ?_)
  · skip
    have hp := em_isT_in c5
    refine lv_iload_n hx hb dX8_odds_10 rfl (lv_at hl 2 rfl) ?_
    refine xg_ri (va_runS (As := [.int y]) (rest := []) S (mX8_isHeight l D cI cZ bs ad ws y) (va_cwS 1 hts gX8_odds_X8_isHeight rfl rfl rfl (by decide +kernel) ⟨Nat.le_of_ble_eq_true rfl, Nat.le_of_ble_eq_true rfl⟩) (xg_preS hK hG) rfl rfl hl.1 rfl (lv_room (Nat.le_of_ble_eq_true rfl)) dX8_odds_11 ⟨Nat.zero_le _, Nat.zero_le _⟩) (fun r2 hr2 => ?_)
    replace hr2 := hr2.symm; subst hr2
    refine xb_ifeq (tgt := 26) S dX8_odds_14 (by decide) (fun c14 => ?_) (fun c14 => ?_)
    · skip
      refine lv_bipush (v := (-2)) hx hb dX8_odds_26 (by decide) ?_
      rw [hQ]
      exact xg_eri S hr hlk (by skip; simp only [em_odr, c5, c14, if_true, if_false, Bool.false_eq_true]) dX8_odds_28
    · skip
      refine lv_aload_n hx hb dX8_odds_17 rfl (lv_at hl 0 rfl) ?_
      refine lv_iload_n hx hb dX8_odds_18 rfl (lv_at hl 1 rfl) ?_
      refine lv_iload_n hx hb dX8_odds_19 rfl (lv_at hl 2 rfl) ?_
      refine xg_ri (va_runV (As := [.int p, .int y]) (rest := []) S (mX8_oddsOf l D cI cZ bs ad ws b A I L hM p y (by first | assumption | omega)) (cwV 2 hts gX8_odds_X8_oddsOf rfl rfl rfl (by decide +kernel) ⟨Nat.le_of_ble_eq_true rfl, Nat.le_of_ble_eq_true rfl⟩) (xg_preV hK hG b hM.1 rfl rfl) rfl rfl hl.1 rfl (lv_room (Nat.le_of_ble_eq_true rfl)) dX8_odds_20 ⟨Nat.zero_le _, Nat.zero_le _⟩) (fun r3 hr3 => ?_)
      replace hr3 := hr3.symm; subst hr3
      refine lv_goto (tgt := 28) hx hb dX8_odds_23 (by decide) ?_
      rw [hQ]
      exact xg_eri S hr hlk (by skip; simp only [em_odr, c5, c14, if_true, if_false, Bool.false_eq_true]) dX8_odds_28
  · skip
    refine lv_iconst (v := (-1)) hx hb dX8_odds_8 (by decide) ?_
    rw [hQ]
    exact xg_eri S hr hlk (by skip; simp only [em_odr, c5, if_true, if_false, Bool.false_eq_true]) dX8_odds_9
set_option maxHeartbeats 4000000 in
set_option maxRecDepth 100000 in
theorem mX8_worth (l : Launch) (D : va_G) (cI cZ : ClassId) (bs : Nat) (ad : Nat → Nat) (ws : va_W) (b : Nat) (A : Nat → Nat → Int32) (I : Nat → Int32) (L : Int64) (hM : xv_M cI cZ ad ws b A I L) (p : Int32) (y : Int32) (w9 : Int32) : Met l yX8_worth wsX8_worth ({ frames := 3, cells := 0, slots := 0, locals := 68 } : Room) (va_Pc [.ref (ad b), .int p, .int y, .int w9] (fun U => xg_W D cI cZ bs ws U)) (xg_Ri (fun r : Int32 => r = em_wor A I p y w9)) 0 0 xg_F := by
  refine xg_met cX8_worth 4 (some .int) RX8 (by decide) rfl rfl (Nat.le_of_ble_eq_true rfl) ?_
  intro pg en s m below meth c ls S hr hlk hnm hB hl
  have hK := hB.1
  have hG := xg_start hB
  obtain ⟨hx, hb, hml, hown, hts⟩ := id S
  have hl : lv_has ls 4 [(0, .ref (ad b)), (1, .int p), (2, .int y), (3, .int w9)] := hl
  obtain ⟨Q, hQ⟩ : ∃ Q, Q = MQ below (xg_Ri (fun r : Int32 => r = em_wor A I p y w9)) ([.ref (ad b), .int p, .int y, .int w9] : List Value).toArray s 0 0 xg_F := ⟨_, rfl⟩
  rw [← hQ]
  have k0 := hts (.constant RX8 268 (1000000)) (List.mem_of_getElem? (i := 1) rfl)
  refine lv_aload_n hx hb dX8_worth_0 rfl (lv_at hl 0 rfl) ?_
  refine lv_iload_n hx hb dX8_worth_1 rfl (lv_at hl 1 rfl) ?_
  refine xg_ri (va_runV (As := [.int p]) (rest := []) S (mX8_isThere l D cI cZ bs ad ws b A I L hM p) (cwV 1 hts gX8_worth_X8_isThere rfl rfl rfl (by decide +kernel) ⟨Nat.le_of_ble_eq_true rfl, Nat.le_of_ble_eq_true rfl⟩) (xg_preV hK hG b hM.1 rfl rfl) rfl rfl hl.1 rfl (lv_room (Nat.le_of_ble_eq_true rfl)) dX8_worth_2 ⟨Nat.zero_le _, Nat.zero_le _⟩) (fun r1 hr1 => ?_)
  replace hr1 := hr1.symm; subst hr1
  refine xb_ifne (tgt := 10) S dX8_worth_5 (by decide) (fun c5 => ?_) (fun c5 => ?_)
  · skip
    have hp := em_isT_in c5
    refine lv_iload_n hx hb dX8_worth_10 rfl (lv_at hl 2 rfl) ?_
    refine xg_ri (va_runS (As := [.int y]) (rest := []) S (mX8_isHeight l D cI cZ bs ad ws y) (va_cwS 1 hts gX8_worth_X8_isHeight rfl rfl rfl (by decide +kernel) ⟨Nat.le_of_ble_eq_true rfl, Nat.le_of_ble_eq_true rfl⟩) (xg_preS hK hG) rfl rfl hl.1 rfl (lv_room (Nat.le_of_ble_eq_true rfl)) dX8_worth_11 ⟨Nat.zero_le _, Nat.zero_le _⟩) (fun r2 hr2 => ?_)
    replace hr2 := hr2.symm; subst hr2
    refine xb_ifeq (tgt := 27) S dX8_worth_14 (by decide) (fun c14 => ?_) (fun c14 => ?_)
    · skip
      refine lv_bipush (v := (-2)) hx hb dX8_worth_27 (by decide) ?_
      rw [hQ]
      exact xg_eri S hr hlk (by skip; first | (simp only [em_wor, c5, c14, if_true, if_false, Bool.false_eq_true]; done) | (unfold em_wor; rw [if_pos c5, if_pos c14, if_pos c24]; simp only [c5, c14, if_true, if_false])) dX8_worth_29
    · skip
      refine lv_iload_n hx hb dX8_worth_17 rfl (lv_at hl 3 rfl) ?_
      refine lv_i2l (v := w9.toInt64) hx hb dX8_worth_18 rfl ?_
      refine lv_lconst (v := 0) hx hb dX8_worth_19 (by decide) ?_
      refine lv_lconst (v := 1) hx hb dX8_worth_20 (by decide) ?_
      refine xg_ri (va_runS (As := [.long w9.toInt64, .long 0, .long 1]) (rest := []) S (mX8_in l D cI cZ bs ad ws w9.toInt64 0 1) (va_cwS 3 hts gX8_worth_X8_in rfl rfl rfl (by decide +kernel) ⟨Nat.le_of_ble_eq_true rfl, Nat.le_of_ble_eq_true rfl⟩) (xg_preS hK hG) rfl rfl hl.1 rfl (lv_room (Nat.le_of_ble_eq_true rfl)) dX8_worth_21 ⟨Nat.zero_le _, Nat.zero_le _⟩) (fun r3 hr3 => ?_)
      replace hr3 := hr3.symm; subst hr3
      rw [xw_inL_lit w9 0 1 0 1 (by decide) (by decide)]
      refine xb_ifne (tgt := 30) S dX8_worth_24 (by decide) (fun c24 => ?_) (fun c24 => ?_)
      · skip
        refine lv_ldcw (v := 1000000) hx hb hown k0 dX8_worth_30 ?_
        refine lv_iload_n hx hb dX8_worth_33 rfl (lv_at hl 3 rfl) ?_
        refine lv_if_ne (tgt := 46) hx hb dX8_worth_34 (by decide) (fun c34 => ?_) (fun c34 => ?_)
        · skip
          refine lv_aload_n hx hb dX8_worth_46 rfl (lv_at hl 0 rfl) ?_
          refine lv_iload_n hx hb dX8_worth_47 rfl (lv_at hl 1 rfl) ?_
          refine lv_iload_n hx hb dX8_worth_48 rfl (lv_at hl 2 rfl) ?_
          refine xg_ri (va_runV (As := [.int p, .int y]) (rest := [.int 1000000]) S (mX8_worthRefused l D cI cZ bs ad ws b A I L hM p y (by first | assumption | omega)) (cwV 2 hts gX8_worth_X8_worthRefused rfl rfl rfl (by decide +kernel) ⟨Nat.le_of_ble_eq_true rfl, Nat.le_of_ble_eq_true rfl⟩) (xg_preV hK hG b hM.1 rfl rfl) rfl rfl hl.1 rfl (lv_room (Nat.le_of_ble_eq_true rfl)) dX8_worth_49 ⟨Nat.zero_le _, Nat.zero_le _⟩) (fun r4 hr4 => ?_)
          replace hr4 := hr4.symm; subst hr4
          refine lv_iadd hx hb dX8_worth_52 ?_
          rw [hQ]
          exact xg_eri S hr hlk (by skip; first | (simp only [em_wor, c5, c14, c24, c34, if_true, if_false, Bool.false_eq_true]; done) | (unfold em_wor; rw [if_pos c5, if_pos c14, if_pos c24]; simp only [c5, c14, c24, c34, if_true, if_false])) dX8_worth_53
        · skip
          refine lv_aload_n hx hb dX8_worth_37 rfl (lv_at hl 0 rfl) ?_
          refine lv_iload_n hx hb dX8_worth_38 rfl (lv_at hl 1 rfl) ?_
          refine lv_iload_n hx hb dX8_worth_39 rfl (lv_at hl 2 rfl) ?_
          refine xg_ri (va_runV (As := [.int p, .int y]) (rest := [.int 1000000]) S (mX8_worthDone l D cI cZ bs ad ws b A I L hM p y (by first | assumption | omega)) (cwV 2 hts gX8_worth_X8_worthDone rfl rfl rfl (by decide +kernel) ⟨Nat.le_of_ble_eq_true rfl, Nat.le_of_ble_eq_true rfl⟩) (xg_preV hK hG b hM.1 rfl rfl) rfl rfl hl.1 rfl (lv_room (Nat.le_of_ble_eq_true rfl)) dX8_worth_40 ⟨Nat.zero_le _, Nat.zero_le _⟩) (fun r5 hr5 => ?_)
          replace hr5 := hr5.symm; subst hr5
          refine lv_goto (tgt := 52) hx hb dX8_worth_43 (by decide) ?_
          refine lv_iadd hx hb dX8_worth_52 ?_
          rw [hQ]
          exact xg_eri S hr hlk (by skip; first | (simp only [em_wor, c5, c14, c24, c34, if_true, if_false, Bool.false_eq_true]; done) | (unfold em_wor; rw [if_pos c5, if_pos c14, if_pos c24]; simp only [c5, c14, c24, c34, if_true, if_false])) dX8_worth_53
      · skip
        refine lv_bipush (v := (-2)) hx hb dX8_worth_27 (by decide) ?_
        rw [hQ]
        exact xg_eri S hr hlk (by skip; first | (simp only [em_wor, c5, c14, c24, if_true, if_false, Bool.false_eq_true]; done) | (unfold em_wor; rw [if_pos c5, if_pos c14, if_pos c24]; simp only [c5, c14, c24, if_true, if_false])) dX8_worth_29
  · skip
    refine lv_iconst (v := (-1)) hx hb dX8_worth_8 (by decide) ?_
    rw [hQ]
    exact xg_eri S hr hlk (by skip; first | (simp only [em_wor, c5, if_true, if_false, Bool.false_eq_true]; done) | (unfold em_wor; rw [if_pos c5, if_pos c14, if_pos c24]; simp only [c5, if_true, if_false])) dX8_worth_9
set_option maxHeartbeats 4000000 in
set_option maxRecDepth 100000 in
theorem mX8_does (l : Launch) (D : va_G) (cI cZ : ClassId) (bs : Nat) (ad : Nat → Nat) (ws : va_W) (b : Nat) (A : Nat → Nat → Int32) (I : Nat → Int32) (L : Int64) (hM : xv_M cI cZ ad ws b A I L) (p : Int32) (y : Int32) : Met l yX8_does wsX8_does ({ frames := 4, cells := 0, slots := 0, locals := 91 } : Room) (va_Pc [.ref (ad b), .int p, .int y] (fun U => xg_W D cI cZ bs ws U)) (xg_Ri (fun r : Int32 => r = em_doe A I p y)) 0 0 xg_F := by
  refine xg_met cX8_does 3 (some .int) RX8 (by decide) rfl rfl (Nat.le_of_ble_eq_true rfl) ?_
  intro pg en s m below meth c ls S hr hlk hnm hB hl
  have hK := hB.1
  have hG := xg_start hB
  obtain ⟨hx, hb, hml, hown, hts⟩ := id S
  have hl : lv_has ls 3 [(0, .ref (ad b)), (1, .int p), (2, .int y)] := hl
  obtain ⟨Q, hQ⟩ : ∃ Q, Q = MQ below (xg_Ri (fun r : Int32 => r = em_doe A I p y)) ([.ref (ad b), .int p, .int y] : List Value).toArray s 0 0 xg_F := ⟨_, rfl⟩
  rw [← hQ]
  refine lv_aload_n hx hb dX8_does_0 rfl (lv_at hl 0 rfl) ?_
  refine lv_iload_n hx hb dX8_does_1 rfl (lv_at hl 1 rfl) ?_
  refine xg_ri (va_runV (As := [.int p]) (rest := []) S (mX8_isThere l D cI cZ bs ad ws b A I L hM p) (cwV 1 hts gX8_does_X8_isThere rfl rfl rfl (by decide +kernel) ⟨Nat.le_of_ble_eq_true rfl, Nat.le_of_ble_eq_true rfl⟩) (xg_preV hK hG b hM.1 rfl rfl) rfl rfl hl.1 rfl (lv_room (Nat.le_of_ble_eq_true rfl)) dX8_does_2 ⟨Nat.zero_le _, Nat.zero_le _⟩) (fun r1 hr1 => ?_)
  replace hr1 := hr1.symm; subst hr1
  refine xb_ifne (tgt := 10) S dX8_does_5 (by decide) (fun c5 => ?_) (fun c5 => ?_)
  · skip
    have hp := em_isT_in c5
    refine lv_iload_n hx hb dX8_does_10 rfl (lv_at hl 2 rfl) ?_
    refine xg_ri (va_runS (As := [.int y]) (rest := []) S (mX8_isHeight l D cI cZ bs ad ws y) (va_cwS 1 hts gX8_does_X8_isHeight rfl rfl rfl (by decide +kernel) ⟨Nat.le_of_ble_eq_true rfl, Nat.le_of_ble_eq_true rfl⟩) (xg_preS hK hG) rfl rfl hl.1 rfl (lv_room (Nat.le_of_ble_eq_true rfl)) dX8_does_11 ⟨Nat.zero_le _, Nat.zero_le _⟩) (fun r2 hr2 => ?_)
    replace hr2 := hr2.symm; subst hr2
    refine xb_ifne (tgt := 22) S dX8_does_14 (by decide) (fun c14 => ?_) (fun c14 => ?_)
    · skip
      refine lv_aload_n hx hb dX8_does_22 rfl (lv_at hl 0 rfl) ?_
      refine lv_iload_n hx hb dX8_does_23 rfl (lv_at hl 1 rfl) ?_
      refine lv_iload_n hx hb dX8_does_24 rfl (lv_at hl 2 rfl) ?_
      refine xg_ri (va_runV (As := [.int p, .int y]) (rest := []) S (mX8_doesIt l D cI cZ bs ad ws b A I L hM p y (by first | assumption | omega)) (cwV 2 hts gX8_does_X8_doesIt rfl rfl rfl (by decide +kernel) ⟨Nat.le_of_ble_eq_true rfl, Nat.le_of_ble_eq_true rfl⟩) (xg_preV hK hG b hM.1 rfl rfl) rfl rfl hl.1 rfl (lv_room (Nat.le_of_ble_eq_true rfl)) dX8_does_25 ⟨Nat.zero_le _, Nat.zero_le _⟩) (fun r3 hr3 => ?_)
      replace hr3 := hr3.symm; subst hr3
      refine xb_ifeq (tgt := 35) S dX8_does_28 (by decide) (fun c28 => ?_) (fun c28 => ?_)
      · skip
        refine lv_iconst (v := 0) hx hb dX8_does_35 (by decide) ?_
        rw [hQ]
        exact xg_eri S hr hlk (by skip; simp only [em_doe, c5, c14, c28, if_true, if_false, Bool.false_eq_true]) dX8_does_36
      · skip
        refine lv_iconst (v := 1) hx hb dX8_does_31 (by decide) ?_
        refine lv_goto (tgt := 36) hx hb dX8_does_32 (by decide) ?_
        rw [hQ]
        exact xg_eri S hr hlk (by skip; simp only [em_doe, c5, c14, c28, if_true, if_false, Bool.false_eq_true]) dX8_does_36
    · skip
      refine lv_bipush (v := (-2)) hx hb dX8_does_17 (by decide) ?_
      refine lv_goto (tgt := 36) hx hb dX8_does_19 (by decide) ?_
      rw [hQ]
      exact xg_eri S hr hlk (by skip; simp only [em_doe, c5, c14, if_true, if_false, Bool.false_eq_true]) dX8_does_36
  · skip
    refine lv_iconst (v := (-1)) hx hb dX8_does_8 (by decide) ?_
    rw [hQ]
    exact xg_eri S hr hlk (by skip; simp only [em_doe, c5, if_true, if_false, Bool.false_eq_true]) dX8_does_9
set_option maxHeartbeats 4000000 in
set_option maxRecDepth 100000 in
theorem mX8_nerve (l : Launch) (D : va_G) (cI cZ : ClassId) (bs : Nat) (ad : Nat → Nat) (ws : va_W) (b : Nat) (A : Nat → Nat → Int32) (I : Nat → Int32) (L : Int64) (hM : xv_M cI cZ ad ws b A I L) (p : Int32) (w9 : Int32) : Met l yX8_nerve wsX8_nerve ({ frames := 4, cells := 0, slots := 0, locals := 91 } : Room) (va_Pc [.ref (ad b), .int p, .int w9] (fun U => xg_W D cI cZ bs ws U)) (xg_Ri (fun r : Int32 => r = em_ner A I p w9)) 0 0 xg_F := by
  refine xg_met cX8_nerve 6 (some .int) RX8 (by decide) rfl rfl (Nat.le_of_ble_eq_true rfl) ?_
  intro pg en s m below meth c ls S hr hlk hnm hB hl
  have hK := hB.1
  have hG := xg_start hB
  obtain ⟨hx, hb, hml, hown, hts⟩ := id S
  have hl : lv_has ls 6 [(0, .ref (ad b)), (1, .int p), (2, .int w9)] := hl
  obtain ⟨Q, hQ⟩ : ∃ Q, Q = MQ below (xg_Ri (fun r : Int32 => r = em_ner A I p w9)) ([.ref (ad b), .int p, .int w9] : List Value).toArray s 0 0 xg_F := ⟨_, rfl⟩
  rw [← hQ]
  have k0 := hts (.constantLong RX8 231 (2)) (List.mem_of_getElem? (i := 1) rfl)
  refine lv_aload_n hx hb dX8_nerve_0 rfl (lv_at hl 0 rfl) ?_
  refine lv_iload_n hx hb dX8_nerve_1 rfl (lv_at hl 1 rfl) ?_
  refine xg_ri (va_runV (As := [.int p]) (rest := []) S (mX8_isThere l D cI cZ bs ad ws b A I L hM p) (cwV 1 hts gX8_nerve_X8_isThere rfl rfl rfl (by decide +kernel) ⟨Nat.le_of_ble_eq_true rfl, Nat.le_of_ble_eq_true rfl⟩) (xg_preV hK hG b hM.1 rfl rfl) rfl rfl hl.1 rfl (lv_room (Nat.le_of_ble_eq_true rfl)) dX8_nerve_2 ⟨Nat.zero_le _, Nat.zero_le _⟩) (fun r1 hr1 => ?_)
  replace hr1 := hr1.symm; subst hr1
  refine xb_ifne (tgt := 10) S dX8_nerve_5 (by decide) (fun c5 => ?_) (fun c5 => ?_)
  · skip
    have hp := em_isT_in c5
    refine lv_iload_n hx hb dX8_nerve_10 rfl (lv_at hl 2 rfl) ?_
    refine lv_i2l (v := w9.toInt64) hx hb dX8_nerve_11 rfl ?_
    refine lv_lconst (v := 0) hx hb dX8_nerve_12 (by decide) ?_
    refine lv_ldc2 (v := 2) hx hb hown k0 dX8_nerve_13 ?_
    refine xg_ri (va_runS (As := [.long w9.toInt64, .long 0, .long 2]) (rest := []) S (mX8_in l D cI cZ bs ad ws w9.toInt64 0 2) (va_cwS 3 hts gX8_nerve_X8_in rfl rfl rfl (by decide +kernel) ⟨Nat.le_of_ble_eq_true rfl, Nat.le_of_ble_eq_true rfl⟩) (xg_preS hK hG) rfl rfl hl.1 rfl (lv_room (Nat.le_of_ble_eq_true rfl)) dX8_nerve_16 ⟨Nat.zero_le _, Nat.zero_le _⟩) (fun r2 hr2 => ?_)
    replace hr2 := hr2.symm; subst hr2
    rw [xw_inL_lit w9 0 2 0 2 (by decide) (by decide)]
    refine xb_ifne (tgt := 25) S dX8_nerve_19 (by decide) (fun c19 => ?_) (fun c19 => ?_)
    · skip
      refine lv_bipush (v := (-6)) hx hb dX8_nerve_25 (by decide) ?_
      refine lv_istore_n (lv' := [(3, .int (-6)), (0, .ref (ad b)), (1, .int p), (2, .int w9)]) hx hb dX8_nerve_27 rfl hl (by decide) rfl (fun ls hl => ?_)
      refine lv_iconst (v := 0) hx hb dX8_nerve_28 (by decide) ?_
      refine lv_istore (lv' := [(4, .int 0), (3, .int (-6)), (0, .ref (ad b)), (1, .int p), (2, .int w9)]) hx hb dX8_nerve_29 hl (by decide) rfl (fun ls hl => ?_)
      refine lv_bipush (v := 15) hx hb dX8_nerve_31 (by decide) ?_
      refine lv_istore (lv' := [(5, .int 15), (4, .int 0), (3, .int (-6)), (0, .ref (ad b)), (1, .int p), (2, .int w9)]) hx hb dX8_nerve_33 hl (by decide) rfl (fun ls hl => ?_)
      -- the loop at 35
      have lp35 : ∀ (fu : Nat) (k : Nat) (f1 : Int32) (s1 : Int32), (k ≤ 15) → (k < fu) → (em_nrk A I p 15 (-6) 0 = em_nrk A I p k f1 s1) → ∀ y35_5 : Int32, y35_5 = nI k → ∀ (ls : Array Slot), lv_has ls 6 [(0, .ref (ad b)), (1, .int p), (2, .int w9), (3, .int f1), (4, .int s1), (5, .int y35_5)] → W pg l en ({ frames := 4, cells := 0, slots := 0, locals := 91 } : Room) s m ([.ref (ad b), .int p, .int w9] : List Value).toArray below meth c s.heap [] 0 0 Q (F0 m 35 ls []) := by
        intro fu
        induction fu with
        | zero =>
          intro k f1 s1 hk hf hr2
          exact absurd hf (by omega)
        | succ fu ih =>
          intro k f1 s1 hk hf hr2 y35_5 ey35_5
          intro ls hl
          replace ey35_5 := ey35_5.symm; subst ey35_5
          refine lv_iload hx hb dX8_nerve_35 (lv_at hl 5 rfl) ?_
          refine lv_if_le (tgt := 87) hx hb dX8_nerve_37 (by decide) (fun c37 => ?_) (fun c37 => ?_)
          · skip
            have hk9 : k = 0 := by have := (nI_leI (a := k) (b := 0) (by omega) (by decide)).mp c37; omega
            have hfin : em_nrk A I p 15 (-6) 0 = (f1, s1) := by rw [hr2, hk9]; rfl
            refine lv_iload_n hx hb dX8_nerve_87 rfl (lv_at hl 2 rfl) ?_
            refine lv_if_ne (tgt := 106) hx hb dX8_nerve_88 (by decide) (fun c88 => ?_) (fun c88 => ?_)
            · skip
              refine lv_iload_n hx hb dX8_nerve_106 rfl (lv_at hl 2 rfl) ?_
              refine lv_iconst (v := 1) hx hb dX8_nerve_107 (by decide) ?_
              refine lv_icmp_ne (tgt := 115) hx hb dX8_nerve_108 (by decide) (fun c108 => ?_) (fun c108 => ?_)
              · skip
                refine lv_iload hx hb dX8_nerve_115 (lv_at hl 4 rfl) ?_
                rw [hQ]
                exact xg_eri S hr hlk (by skip; unfold em_ner; rw [if_pos c5, if_pos c19, hfin]; simp only [c5, c19, c37, c88, c108, xs_10, if_true, if_false]) dX8_nerve_117
              · skip
                refine lv_iload_n hx hb dX8_nerve_111 rfl (lv_at hl 3 rfl) ?_
                refine lv_goto (tgt := 117) hx hb dX8_nerve_112 (by decide) ?_
                rw [hQ]
                exact xg_eri S hr hlk (by skip; unfold em_ner; rw [if_pos c5, if_pos c19, hfin]; simp only [c5, c19, c37, c88, c108, xs_10, if_true, if_false]) dX8_nerve_117
            · skip
              refine lv_iload_n hx hb dX8_nerve_91 rfl (lv_at hl 3 rfl) ?_
              refine lv_if_ge (tgt := 100) hx hb dX8_nerve_92 (by decide) (fun c92 => ?_) (fun c92 => ?_)
              · skip
                refine lv_iload_n hx hb dX8_nerve_100 rfl (lv_at hl 3 rfl) ?_
                refine lv_iconst (v := 1) hx hb dX8_nerve_101 (by decide) ?_
                refine lv_isub hx hb dX8_nerve_102 ?_
                refine lv_goto (tgt := 117) hx hb dX8_nerve_103 (by decide) ?_
                rw [hQ]
                exact xg_eri S hr hlk (by skip; unfold em_ner; rw [if_pos c5, if_pos c19, hfin]; simp only [c5, c19, c37, c88, c92, xs_10, if_true, if_false]) dX8_nerve_117
              · skip
                refine lv_bipush (v := 15) hx hb dX8_nerve_95 (by decide) ?_
                refine lv_goto (tgt := 117) hx hb dX8_nerve_97 (by decide) ?_
                rw [hQ]
                exact xg_eri S hr hlk (by skip; unfold em_ner; rw [if_pos c5, if_pos c19, hfin]; simp only [c5, c19, c37, c88, c92, xs_10, if_true, if_false]) dX8_nerve_117
          · skip
            have hk9 : 0 < k := by rcases Nat.eq_zero_or_pos k with q | q; exact absurd (by rw [q]; decide) c37; exact q
            refine lv_aload_n hx hb dX8_nerve_40 rfl (lv_at hl 0 rfl) ?_
            refine lv_iload_n hx hb dX8_nerve_41 rfl (lv_at hl 1 rfl) ?_
            refine lv_iload hx hb dX8_nerve_42 (lv_at hl 5 rfl) ?_
            refine xg_ri (va_runV (As := [.int p, .int (nI k)]) (rest := []) S (mX8_doesIt l D cI cZ bs ad ws b A I L hM p (nI k) (by first | assumption | omega)) (cwV 2 hts gX8_nerve_X8_doesIt rfl rfl rfl (by decide +kernel) ⟨Nat.le_of_ble_eq_true rfl, Nat.le_of_ble_eq_true rfl⟩) (xg_preV hK hG b hM.1 rfl rfl) rfl rfl hl.1 rfl (lv_room (Nat.le_of_ble_eq_true rfl)) dX8_nerve_44 ⟨Nat.zero_le _, Nat.zero_le _⟩) (fun r3 hr3 => ?_)
            replace hr3 := hr3.symm; subst hr3
            have jn56_4 : ∀ v4 : Int32, v4 = (if em_dit A I p (nI k) = true then f1 else nI k) → W pg l en ({ frames := 4, cells := 0, slots := 0, locals := 91 } : Room) s m ([.ref (ad b), .int p, .int w9] : List Value).toArray below meth c s.heap [] 0 0 Q (F0 m 56 ls [.int v4]) := by
              intro v4 ev4
              replace ev4 := ev4.symm
              refine lv_istore_n (lv' := [(3, .int v4), (0, .ref (ad b)), (1, .int p), (2, .int w9), (4, .int s1), (5, .int (nI k))]) hx hb dX8_nerve_56 rfl hl (by decide) rfl (fun ls hl => ?_)
              refine lv_iload hx hb dX8_nerve_57 (lv_at hl 4 rfl) ?_
              refine lv_if_ne (tgt := 77) hx hb dX8_nerve_59 (by decide) (fun c59 => ?_) (fun c59 => ?_)
              · skip
                refine lv_iload hx hb dX8_nerve_77 (lv_at hl 4 rfl) ?_
                refine lv_istore (lv' := [(4, .int s1), (3, .int v4), (0, .ref (ad b)), (1, .int p), (2, .int w9), (5, .int (nI k))]) hx hb dX8_nerve_79 hl (by decide) rfl (fun ls hl => ?_)
                obtain ⟨x5, ex5⟩ : ∃ zz : Int32, ((nI k) + (-1)) = zz := ⟨_, rfl⟩
                refine lv_iinc (v := x5) (lv' := [(5, .int x5), (4, .int s1), (3, .int v4), (0, .ref (ad b)), (1, .int p), (2, .int w9)]) hx hb dX8_nerve_81 hl (k := 5) rfl (by rw [← ex5]; rfl) (by decide) rfl (fun ls hl => ?_)
                refine lv_goto (tgt := 35) hx hb dX8_nerve_84 (by decide) ?_
                exact ih (k - 1) v4 s1 (by omega) (by omega) (by subst ev4 ex5; rw [hr2, em_nrk_S hk9]; simp only [c5, c19, c37, c59, if_true, if_false]) x5 (by subst ev4 ex5; exact xb_dec hk9) ls (lv_sub hl [3, 4, 5, 2, 1, 0] rfl)
              · skip
                refine lv_aload_n hx hb dX8_nerve_62 rfl (lv_at hl 1 rfl) ?_
                refine lv_iload_n hx hb dX8_nerve_63 rfl (lv_at hl 2 rfl) ?_
                refine lv_iload hx hb dX8_nerve_64 (lv_at hl 5 rfl) ?_
                refine xg_ri (va_runV (As := [.int p, .int (nI k)]) (rest := []) S (mX8_oddsOf l D cI cZ bs ad ws b A I L hM p (nI k) (by first | assumption | omega)) (cwV 2 hts gX8_nerve_X8_oddsOf rfl rfl rfl (by decide +kernel) ⟨Nat.le_of_ble_eq_true rfl, Nat.le_of_ble_eq_true rfl⟩) (xg_preV hK hG b hM.1 rfl rfl) rfl rfl hl.1 rfl (lv_room (Nat.le_of_ble_eq_true rfl)) dX8_nerve_66 ⟨Nat.zero_le _, Nat.zero_le _⟩) (fun r6 hr6 => ?_)
                replace hr6 := hr6.symm; subst hr6
                refine lv_if_ne (tgt := 77) hx hb dX8_nerve_69 (by decide) (fun c69 => ?_) (fun c69 => ?_)
                · skip
                  refine lv_iload hx hb dX8_nerve_77 (lv_at hl 4 rfl) ?_
                  refine lv_istore (lv' := [(4, .int s1), (3, .int v4), (0, .ref (ad b)), (1, .int p), (2, .int w9), (5, .int (nI k))]) hx hb dX8_nerve_79 hl (by decide) rfl (fun ls hl => ?_)
                  obtain ⟨x7, ex7⟩ : ∃ zz : Int32, ((nI k) + (-1)) = zz := ⟨_, rfl⟩
                  refine lv_iinc (v := x7) (lv' := [(5, .int x7), (4, .int s1), (3, .int v4), (0, .ref (ad b)), (1, .int p), (2, .int w9)]) hx hb dX8_nerve_81 hl (k := 5) rfl (by rw [← ex7]; rfl) (by decide) rfl (fun ls hl => ?_)
                  refine lv_goto (tgt := 35) hx hb dX8_nerve_84 (by decide) ?_
                  exact ih (k - 1) v4 s1 (by omega) (by omega) (by subst ev4 ex7; rw [hr2, em_nrk_S hk9]; simp only [c5, c19, c37, c59, c69, if_true, if_false]) x7 (by subst ev4 ex7; exact xb_dec hk9) ls (lv_sub hl [3, 4, 5, 2, 1, 0] rfl)
                · skip
                  refine lv_iload hx hb dX8_nerve_72 (lv_at hl 5 rfl) ?_
                  refine lv_goto (tgt := 79) hx hb dX8_nerve_74 (by decide) ?_
                  refine lv_istore (lv' := [(4, .int (nI k)), (3, .int v4), (0, .ref (ad b)), (1, .int p), (2, .int w9), (5, .int (nI k))]) hx hb dX8_nerve_79 hl (by decide) rfl (fun ls hl => ?_)
                  obtain ⟨x8, ex8⟩ : ∃ zz : Int32, ((nI k) + (-1)) = zz := ⟨_, rfl⟩
                  refine lv_iinc (v := x8) (lv' := [(5, .int x8), (4, .int (nI k)), (3, .int v4), (0, .ref (ad b)), (1, .int p), (2, .int w9)]) hx hb dX8_nerve_81 hl (k := 5) rfl (by rw [← ex8]; rfl) (by decide) rfl (fun ls hl => ?_)
                  refine lv_goto (tgt := 35) hx hb dX8_nerve_84 (by decide) ?_
                  exact ih (k - 1) v4 (nI k) (by omega) (by omega) (by subst ev4 ex8; rw [hr2, em_nrk_S hk9]; simp only [c5, c19, c37, c59, c69, if_true, if_false]) x8 (by subst ev4 ex8; exact xb_dec hk9) ls (lv_sub hl [3, 4, 5, 2, 1, 0] rfl)
            refine xb_ifeq (tgt := 54) S dX8_nerve_47 (by decide) (fun c47 => ?_) (fun c47 => ?_)
            · skip
              refine lv_iload hx hb dX8_nerve_54 (lv_at hl 5 rfl) ?_
              exact jn56_4 _ (by rw [if_neg (Bool.eq_false_iff.mp c47)])
            · skip
              refine lv_iload_n hx hb dX8_nerve_50 rfl (lv_at hl 3 rfl) ?_
              refine lv_goto (tgt := 56) hx hb dX8_nerve_51 (by decide) ?_
              exact jn56_4 _ (by rw [if_pos c47])
      exact lp35 16 15 (-6) 0 (by omega) (by omega) rfl 15 (by skip; rfl) ls (lv_sub hl [3, 4, 5, 2, 1, 0] rfl)
    · skip
      refine lv_bipush (v := (-2)) hx hb dX8_nerve_22 (by decide) ?_
      rw [hQ]
      exact xg_eri S hr hlk (by skip; simp only [em_ner, c5, c19, if_true, if_false, Bool.false_eq_true]) dX8_nerve_24
  · skip
    refine lv_iconst (v := (-1)) hx hb dX8_nerve_8 (by decide) ?_
    rw [hQ]
    exact xg_eri S hr hlk (by skip; simp only [em_ner, c5, if_true, if_false, Bool.false_eq_true]) dX8_nerve_9
set_option maxHeartbeats 4000000 in
set_option maxRecDepth 100000 in
theorem mX8_lowest (l : Launch) (D : va_G) (cI cZ : ClassId) (bs : Nat) (ad : Nat → Nat) (ws : va_W) (up : Int64) (lo : Int64) (x : Int32) (uu ll : Nat)  (hu : up = lN uu) (hl1 : lo = lN ll) (hul : uu ≤ ll) (hl0 : 0 < ll) (hl9 : ll < 2 ^ 60) : Met l yX8_lowest wsX8_lowest ({ frames := 0, cells := 0, slots := 0, locals := 0 } : Room) (va_Pc [.long up, .long lo, .int x] (fun U => xg_W D cI cZ bs ws U)) (xg_Rl (fun r : Int64 => r = em_low uu ll x)) 0 0 xg_F := by
  refine xg_met cX8_lowest 11 (some .long) RX8 (by decide) rfl rfl (Nat.le_of_ble_eq_true rfl) ?_
  intro pg en s m below meth c ls S hr hlk hnm hB hl
  have hK := hB.1
  have hG := xg_start hB
  obtain ⟨hx, hb, hml, hown, hts⟩ := id S
  have hl : lv_has ls 11 [(0, .long up), (2, .long lo), (4, .int x)] := hl
  obtain ⟨Q, hQ⟩ : ∃ Q, Q = MQ below (xg_Rl (fun r : Int64 => r = em_low uu ll x)) ([.long up, .long lo, .int x] : List Value).toArray s 0 0 xg_F := ⟨_, rfl⟩
  rw [← hQ]
  refine lv_lload_n hx hb dX8_lowest_0 rfl (lv_at hl 1 rfl) ?_
  refine lv_lstore (lv' := [(5, .long lo), (0, .long up), (2, .long lo), (4, .int x)]) hx hb dX8_lowest_1 hl (by decide) rfl (fun ls hl => ?_)
  refine lv_lload_n hx hb dX8_lowest_3 rfl (lv_at hl 1 rfl) ?_
  refine lv_lstore (lv' := [(7, .long up), (5, .long lo), (0, .long up), (2, .long lo), (4, .int x)]) hx hb dX8_lowest_4 hl (by decide) rfl (fun ls hl => ?_)
  -- the loop at 6
  have lp6 : ∀ (fu : Nat) (gx : Nat) (gy : Nat), (gy < fu) → (gx < 2 ^ 60 ∧ gy < 2 ^ 60) → (Nat.gcd gx gy = Nat.gcd ll uu) → ∀ y6_5 : Int64, y6_5 = lN gx → ∀ y6_7 : Int64, y6_7 = lN gy → ∀ (ls : Array Slot), lv_has ls 11 [(0, .long up), (2, .long lo), (4, .int x), (5, .long y6_5), (7, .long y6_7)] → W pg l en ({ frames := 0, cells := 0, slots := 0, locals := 0 } : Room) s m ([.long up, .long lo, .int x] : List Value).toArray below meth c s.heap [] 0 0 Q (F0 m 6 ls []) := by
    intro fu
    induction fu with
    | zero =>
      intro gx gy hf hxy hg
      exact absurd hf (by omega)
    | succ fu ih =>
      intro gx gy hf hxy hg y6_5 ey6_5 y6_7 ey6_7
      intro ls hl
      replace ey6_5 := ey6_5.symm; subst ey6_5
      replace ey6_7 := ey6_7.symm; subst ey6_7
      refine lv_lload hx hb dX8_lowest_6 (lv_at hl 4 rfl) ?_
      refine lv_lconst (v := 0) hx hb dX8_lowest_8 (by decide) ?_
      refine xb_lcmp S dX8_lowest_9 ?_
      refine xb_leq (tgt := 31) S dX8_lowest_10 (by decide) (fun c10 => ?_) (fun c10 => ?_)
      · skip
        have hk9 : gy = 0 := by have := (pk_lEQ (a := gy) (b := 0) (by omega) (by decide)).mp c10; omega
        have hgx : gx = Nat.gcd ll uu := by rw [← hg, hk9, Nat.gcd_zero_right]
        have hgp : 0 < Nat.gcd ll uu := Nat.gcd_pos_of_pos_left _ hl0
        have hgl : Nat.gcd ll uu ≤ ll := Nat.gcd_le_left _ hl0
        have hx0 : ¬ lN gx = 0 := fun h => by have := (pk_lEQ (a := gx) (b := 0) (by omega) (by decide)).mp h; omega
        refine lv_iload hx hb dX8_lowest_31 (lv_at hl 2 rfl) ?_
        refine lv_if_ne (tgt := 43) hx hb dX8_lowest_33 (by decide) (fun c33 => ?_) (fun c33 => ?_)
        · skip
          refine lv_lload_n hx hb dX8_lowest_43 rfl (lv_at hl 1 rfl) ?_
          refine lv_lload hx hb dX8_lowest_44 (lv_at hl 3 rfl) ?_
          refine lv_ldiv hx hb dX8_lowest_46 hx0 ?_
          rw [hQ]
          exact xg_erl S hr hlk (by skip; unfold em_low; simp only [c10, c33, if_true, if_false]; subst hu hl1; rw [hgx]; exact pk_lDiv (by omega) hgp (by omega)) dX8_lowest_47
        · skip
          refine lv_lload_n hx hb dX8_lowest_36 rfl (lv_at hl 0 rfl) ?_
          refine lv_lload hx hb dX8_lowest_37 (lv_at hl 3 rfl) ?_
          refine lv_ldiv hx hb dX8_lowest_39 hx0 ?_
          refine lv_goto (tgt := 47) hx hb dX8_lowest_40 (by decide) ?_
          rw [hQ]
          exact xg_erl S hr hlk (by skip; unfold em_low; simp only [c10, c33, if_true, if_false]; subst hu hl1; rw [hgx]; exact pk_lDiv (by omega) hgp (by omega)) dX8_lowest_47
      · skip
        have hk9 : 0 < gy := by rcases Nat.eq_zero_or_pos gy with q | q; exact absurd (by rw [q]; rfl) c10; exact q
        refine lv_lload hx hb dX8_lowest_13 (lv_at hl 3 rfl) ?_
        refine lv_lload hx hb dX8_lowest_15 (lv_at hl 4 rfl) ?_
        refine lv_lrem hx hb dX8_lowest_17 c10 ?_
        refine lv_topl (fun x1 ex1 => ?_)
        replace ex1 := ex1.symm
        refine lv_lstore (lv' := [(9, .long x1), (0, .long up), (2, .long lo), (4, .int x), (5, .long (lN gx)), (7, .long (lN gy))]) hx hb dX8_lowest_18 hl (by decide) rfl (fun ls hl => ?_)
        refine lv_lload hx hb dX8_lowest_20 (lv_at hl 5 rfl) ?_
        refine lv_topl (fun x2 ex2 => ?_)
        replace ex2 := ex2.symm
        refine lv_lstore (lv' := [(5, .long x2), (9, .long x1), (0, .long up), (2, .long lo), (4, .int x), (7, .long (lN gy))]) hx hb dX8_lowest_22 hl (by decide) rfl (fun ls hl => ?_)
        refine lv_lload hx hb dX8_lowest_24 (lv_at hl 1 rfl) ?_
        refine lv_lstore (lv' := [(7, .long x1), (5, .long x2), (9, .long x1), (0, .long up), (2, .long lo), (4, .int x)]) hx hb dX8_lowest_26 hl (by decide) rfl (fun ls hl => ?_)
        refine lv_goto (tgt := 6) hx hb dX8_lowest_28 (by decide) ?_
        exact ih gy (gx % gy) (by have := Nat.mod_lt gx hk9; omega) (by have := Nat.mod_lt gx hk9; omega) (by rw [← hg, Nat.gcd_comm gy (gx % gy), ← Nat.gcd_rec gy gx, Nat.gcd_comm gx gy]) x2 (by subst ex1 ex2; rfl) x1 (by subst ex1 ex2; exact pk_lRem (by omega) hk9 (by omega)) ls (lv_sub hl [3, 4, 5, 1, 0] rfl)
  exact lp6 (uu + 1) ll uu (by omega) (by omega) rfl lo hl1 up hu ls (lv_sub hl [2, 3, 4, 1, 0] rfl)
set_option maxHeartbeats 4000000 in
set_option maxRecDepth 100000 in
theorem mX8_tens (l : Launch) (D : va_G) (cI cZ : ClassId) (bs : Nat) (ad : Nat → Nat) (ws : va_W) (x : Int32) (nn : Nat) (hnn : x = nI nn) (hn99 : nn ≤ 99) : Met l yX8_tens wsX8_tens ({ frames := 0, cells := 0, slots := 0, locals := 0 } : Room) (va_Pc [.int x] (fun U => xg_W D cI cZ bs ws U)) (xg_Rl (fun r : Int64 => r = em_tns nn)) 0 0 xg_F := by
  refine xg_met cX8_tens 4 (some .long) RX8 (by decide) rfl rfl (Nat.le_of_ble_eq_true rfl) ?_
  intro pg en s m below meth c ls S hr hlk hnm hB hl
  have hK := hB.1
  have hG := xg_start hB
  obtain ⟨hx, hb, hml, hown, hts⟩ := id S
  have hl : lv_has ls 4 [(0, .int x)] := hl
  obtain ⟨Q, hQ⟩ : ∃ Q, Q = MQ below (xg_Rl (fun r : Int64 => r = em_tns nn)) ([.int x] : List Value).toArray s 0 0 xg_F := ⟨_, rfl⟩
  rw [← hQ]
  have k0 := hts (.constantLong RX8 242 (10)) (List.mem_of_getElem? (i := 1) rfl)
  refine lv_lconst (v := 1) hx hb dX8_tens_0 (by decide) ?_
  refine lv_lstore_n (lv' := [(1, .long 1), (0, .int x)]) hx hb dX8_tens_1 rfl hl (by decide) rfl (fun ls hl => ?_)
  refine lv_iconst (v := 0) hx hb dX8_tens_2 (by decide) ?_
  refine lv_istore_n (lv' := [(3, .int 0), (1, .long 1), (0, .int x)]) hx hb dX8_tens_3 rfl hl (by decide) rfl (fun ls hl => ?_)
  -- the loop at 4
  have lp4 : ∀ (fu : Nat) (k : Nat), (k ≤ nn) → (nn < k + fu) → ∀ y4_1 : Int64, y4_1 = em_tns k → ∀ y4_3 : Int32, y4_3 = nI k → ∀ (ls : Array Slot), lv_has ls 4 [(0, .int x), (1, .long y4_1), (3, .int y4_3)] → W pg l en ({ frames := 0, cells := 0, slots := 0, locals := 0 } : Room) s m ([.int x] : List Value).toArray below meth c s.heap [] 0 0 Q (F0 m 4 ls []) := by
    intro fu
    induction fu with
    | zero =>
      intro k hk hf
      exact absurd hf (by omega)
    | succ fu ih =>
      intro k hk hf y4_1 ey4_1 y4_3 ey4_3
      intro ls hl
      replace ey4_1 := ey4_1.symm; subst ey4_1
      replace ey4_3 := ey4_3.symm; subst ey4_3
      refine lv_iload_n hx hb dX8_tens_4 rfl (lv_at hl 2 rfl) ?_
      refine lv_iload_n hx hb dX8_tens_5 rfl (lv_at hl 0 rfl) ?_
      refine lv_icmp_ge (tgt := 21) hx hb dX8_tens_6 (by decide) (fun c6 => ?_) (fun c6 => ?_)
      · skip
        have hk9 : k = nn := by have := xb_le (k := k) (n := nn) (by omega) (by omega) (by rw [← hnn]; exact c6); omega
        refine lv_lload_n hx hb dX8_tens_21 rfl (lv_at hl 1 rfl) ?_
        rw [hQ]
        exact xg_erl S hr hlk (by skip; rw [hk9]) dX8_tens_22
      · skip
        have hk9 : k < nn := xb_lt (by omega) (by omega) (by rw [← hnn]; exact c6)
        refine lv_lload_n hx hb dX8_tens_9 rfl (lv_at hl 1 rfl) ?_
        refine lv_ldc2 (v := 10) hx hb hown k0 dX8_tens_10 ?_
        refine lv_lmul hx hb dX8_tens_13 ?_
        refine lv_topl (fun x1 ex1 => ?_)
        replace ex1 := ex1.symm
        refine lv_lstore_n (lv' := [(1, .long x1), (0, .int x), (3, .int (nI k))]) hx hb dX8_tens_14 rfl hl (by decide) rfl (fun ls hl => ?_)
        obtain ⟨x2, ex2⟩ : ∃ zz : Int32, ((nI k) + 1) = zz := ⟨_, rfl⟩
        refine lv_iinc (v := x2) (lv' := [(3, .int x2), (1, .long x1), (0, .int x)]) hx hb dX8_tens_15 hl (k := 2) rfl (by rw [← ex2]; rfl) (by decide) rfl (fun ls hl => ?_)
        refine lv_goto (tgt := 4) hx hb dX8_tens_18 (by decide) ?_
        exact ih (k + 1) (by omega) (by omega) x1 (by subst ex1 ex2; rfl) x2 (by subst ex1 ex2; exact nI_1 k) ls (lv_sub hl [2, 1, 0] rfl)
  exact lp4 (nn + 1) 0 (by omega) (by omega) 1 (by skip; rfl) 0 (by skip; rfl) ls (lv_sub hl [2, 1, 0] rfl)
set_option maxHeartbeats 4000000 in
set_option maxRecDepth 100000 in
theorem mX8_stateOf (l : Launch) (D : va_G) (cI cZ : ClassId) (bs : Nat) (ad : Nat → Nat) (ws : va_W) (b : Nat) (A : Nat → Nat → Int32) (I : Nat → Int32) (L : Int64) (hM : xv_M cI cZ ad ws b A I L) (p : Int32) (w9 : Int32) (hp : vp_in p 6) : Met l yX8_stateOf wsX8_stateOf ({ frames := 0, cells := 0, slots := 0, locals := 0 } : Room) (va_Pc [.ref (ad b), .int p, .int w9] (fun U => xg_W D cI cZ bs ws U)) (xg_Ri (fun r : Int32 => r = em_sto A p w9)) 0 0 xg_F := by
  refine xg_met cX8_stateOf 3 (some .int) RX8 (by decide) rfl rfl (Nat.le_of_ble_eq_true rfl) ?_
  intro pg en s m below meth c ls S hr hlk hnm hB hl
  have hK := hB.1
  have hG := xg_start hB
  obtain ⟨hx, hb, hml, hown, hts⟩ := id S
  have hl : lv_has ls 3 [(0, .ref (ad b)), (1, .int p), (2, .int w9)] := hl
  obtain ⟨Q, hQ⟩ : ∃ Q, Q = MQ below (xg_Ri (fun r : Int32 => r = em_sto A p w9)) ([.ref (ad b), .int p, .int w9] : List Value).toArray s 0 0 xg_F := ⟨_, rfl⟩
  rw [← hQ]
  have k0 := hts (.fieldLink RX8 28 "DareBridgeModel" "nights" "[I") (List.mem_of_getElem? (i := 3) rfl)
  have k1 := hts (.fieldLink RX8 22 "DareBridgeModel" "high" "[I") (List.mem_of_getElem? (i := 2) rfl)
  have k2 := hts (.fieldLink RX8 25 "DareBridgeModel" "fame" "[I") (List.mem_of_getElem? (i := 1) rfl)
  refine lv_iload_n hx hb dX8_stateOf_0 rfl (lv_at hl 2 rfl) ?_
  refine lv_if_ne (tgt := 17) hx hb dX8_stateOf_1 (by decide) (fun c1 => ?_) (fun c1 => ?_)
  · skip
    refine lv_iload_n hx hb dX8_stateOf_17 rfl (lv_at hl 2 rfl) ?_
    refine lv_iconst (v := 1) hx hb dX8_stateOf_18 (by decide) ?_
    refine lv_icmp_ne (tgt := 31) hx hb dX8_stateOf_19 (by decide) (fun c19 => ?_) (fun c19 => ?_)
    · skip
      refine lv_aload_n hx hb dX8_stateOf_31 rfl (lv_at hl 0 rfl) ?_
      refine xg_get (C := RX8) (T := TX8) (N := 46) S hK hG (fun w h => List.mem_cons_of_mem _ (List.mem_append_right _ (h))) b hM.1 rfl 7 (by decide) k0 (fun _ h9 => h9) rfl dX8_stateOf_32 ?_
      refine lv_iload_n hx hb dX8_stateOf_35 rfl (lv_at hl 1 rfl) ?_
      refine xg_ald S hK hG (b + 7) (show ws[b + 7]? = some (ad (b + 7), .inl (cI, 6, .inl (A 6))) from hM.2.1 6 (by decide)) (i := p) (by first | assumption | exact vp_in_nI (by omega) (by decide)) dX8_stateOf_36 ?_
      rw [hQ]
      exact xg_eri S hr hlk (by skip; simp [em_sto, c1, c19]) dX8_stateOf_37
    · skip
      refine lv_aload_n hx hb dX8_stateOf_22 rfl (lv_at hl 0 rfl) ?_
      refine xg_get (C := RX8) (T := TX8) (N := 46) S hK hG (fun w h => List.mem_cons_of_mem _ (List.mem_append_right _ (h))) b hM.1 rfl 5 (by decide) k1 (fun _ h9 => h9) rfl dX8_stateOf_23 ?_
      refine lv_iload_n hx hb dX8_stateOf_26 rfl (lv_at hl 1 rfl) ?_
      refine xg_ald S hK hG (b + 5) (show ws[b + 5]? = some (ad (b + 5), .inl (cI, 6, .inl (A 4))) from hM.2.1 4 (by decide)) (i := p) (by first | assumption | exact vp_in_nI (by omega) (by decide)) dX8_stateOf_27 ?_
      refine lv_goto (tgt := 37) hx hb dX8_stateOf_28 (by decide) ?_
      rw [hQ]
      exact xg_eri S hr hlk (by skip; simp [em_sto, c1, c19]) dX8_stateOf_37
  · skip
    refine lv_aload_n hx hb dX8_stateOf_4 rfl (lv_at hl 0 rfl) ?_
    refine xg_get (C := RX8) (T := TX8) (N := 46) S hK hG (fun w h => List.mem_cons_of_mem _ (List.mem_append_right _ (h))) b hM.1 rfl 6 (by decide) k2 (fun _ h9 => h9) rfl dX8_stateOf_5 ?_
    refine lv_iload_n hx hb dX8_stateOf_8 rfl (lv_at hl 1 rfl) ?_
    refine xg_ald S hK hG (b + 6) (show ws[b + 6]? = some (ad (b + 6), .inl (cI, 6, .inl (A 5))) from hM.2.1 5 (by decide)) (i := p) (by first | assumption | exact vp_in_nI (by omega) (by decide)) dX8_stateOf_9 ?_
    refine lv_sipush (v := 1000) hx hb dX8_stateOf_10 (by decide) ?_
    refine lv_iadd hx hb dX8_stateOf_13 ?_
    refine lv_goto (tgt := 37) hx hb dX8_stateOf_14 (by decide) ?_
    rw [hQ]
    exact xg_eri S hr hlk (by skip; simp [em_sto, c1]) dX8_stateOf_37
set_option maxHeartbeats 4000000 in
set_option maxRecDepth 100000 in
theorem mX8_state (l : Launch) (D : va_G) (cI cZ : ClassId) (bs : Nat) (ad : Nat → Nat) (ws : va_W) (b : Nat) (A : Nat → Nat → Int32) (I : Nat → Int32) (L : Int64) (hM : xv_M cI cZ ad ws b A I L) (p : Int32) (w9 : Int32) : Met l yX8_state wsX8_state ({ frames := 3, cells := 0, slots := 0, locals := 66 } : Room) (va_Pc [.ref (ad b), .int p, .int w9] (fun U => xg_W D cI cZ bs ws U)) (xg_Ri (fun r : Int32 => r = em_stt A I p w9)) 0 0 xg_F := by
  refine xg_met cX8_state 3 (some .int) RX8 (by decide) rfl rfl (Nat.le_of_ble_eq_true rfl) ?_
  intro pg en s m below meth c ls S hr hlk hnm hB hl
  have hK := hB.1
  have hG := xg_start hB
  obtain ⟨hx, hb, hml, hown, hts⟩ := id S
  have hl : lv_has ls 3 [(0, .ref (ad b)), (1, .int p), (2, .int w9)] := hl
  obtain ⟨Q, hQ⟩ : ∃ Q, Q = MQ below (xg_Ri (fun r : Int32 => r = em_stt A I p w9)) ([.ref (ad b), .int p, .int w9] : List Value).toArray s 0 0 xg_F := ⟨_, rfl⟩
  rw [← hQ]
  have k0 := hts (.constantLong RX8 231 (2)) (List.mem_of_getElem? (i := 1) rfl)
  refine lv_aload_n hx hb dX8_state_0 rfl (lv_at hl 0 rfl) ?_
  refine lv_iload_n hx hb dX8_state_1 rfl (lv_at hl 1 rfl) ?_
  refine xg_ri (va_runV (As := [.int p]) (rest := []) S (mX8_isThere l D cI cZ bs ad ws b A I L hM p) (cwV 1 hts gX8_state_X8_isThere rfl rfl rfl (by decide +kernel) ⟨Nat.le_of_ble_eq_true rfl, Nat.le_of_ble_eq_true rfl⟩) (xg_preV hK hG b hM.1 rfl rfl) rfl rfl hl.1 rfl (lv_room (Nat.le_of_ble_eq_true rfl)) dX8_state_2 ⟨Nat.zero_le _, Nat.zero_le _⟩) (fun r1 hr1 => ?_)
  replace hr1 := hr1.symm; subst hr1
  refine xb_ifne (tgt := 10) S dX8_state_5 (by decide) (fun c5 => ?_) (fun c5 => ?_)
  · skip
    have hp := em_isT_in c5
    refine lv_iload_n hx hb dX8_state_10 rfl (lv_at hl 2 rfl) ?_
    refine lv_i2l (v := w9.toInt64) hx hb dX8_state_11 rfl ?_
    refine lv_lconst (v := 0) hx hb dX8_state_12 (by decide) ?_
    refine lv_ldc2 (v := 2) hx hb hown k0 dX8_state_13 ?_
    refine xg_ri (va_runS (As := [.long w9.toInt64, .long 0, .long 2]) (rest := []) S (mX8_in l D cI cZ bs ad ws w9.toInt64 0 2) (va_cwS 3 hts gX8_state_X8_in rfl rfl rfl (by decide +kernel) ⟨Nat.le_of_ble_eq_true rfl, Nat.le_of_ble_eq_true rfl⟩) (xg_preS hK hG) rfl rfl hl.1 rfl (lv_room (Nat.le_of_ble_eq_true rfl)) dX8_state_16 ⟨Nat.zero_le _, Nat.zero_le _⟩) (fun r2 hr2 => ?_)
    replace hr2 := hr2.symm; subst hr2
    rw [xw_inL_lit w9 0 2 0 2 (by decide) (by decide)]
    refine xb_ifeq (tgt := 31) S dX8_state_19 (by decide) (fun c19 => ?_) (fun c19 => ?_)
    · skip
      refine lv_bipush (v := (-2)) hx hb dX8_state_31 (by decide) ?_
      rw [hQ]
      exact xg_eri S hr hlk (by skip; simp only [em_stt, c5, c19, if_true, if_false, Bool.false_eq_true]) dX8_state_33
    · skip
      refine lv_aload_n hx hb dX8_state_22 rfl (lv_at hl 0 rfl) ?_
      refine lv_iload_n hx hb dX8_state_23 rfl (lv_at hl 1 rfl) ?_
      refine lv_iload_n hx hb dX8_state_24 rfl (lv_at hl 2 rfl) ?_
      refine xg_ri (va_runV (As := [.int p, .int w9]) (rest := []) S (mX8_stateOf l D cI cZ bs ad ws b A I L hM p w9 (by first | assumption | omega)) (cwV 2 hts gX8_state_X8_stateOf rfl rfl rfl (by decide +kernel) ⟨Nat.le_of_ble_eq_true rfl, Nat.le_of_ble_eq_true rfl⟩) (xg_preV hK hG b hM.1 rfl rfl) rfl rfl hl.1 rfl (lv_room (Nat.le_of_ble_eq_true rfl)) dX8_state_25 ⟨Nat.zero_le _, Nat.zero_le _⟩) (fun r3 hr3 => ?_)
      replace hr3 := hr3.symm; subst hr3
      refine lv_goto (tgt := 33) hx hb dX8_state_28 (by decide) ?_
      rw [hQ]
      exact xg_eri S hr hlk (by skip; simp only [em_stt, c5, c19, if_true, if_false, Bool.false_eq_true]) dX8_state_33
  · skip
    refine lv_iconst (v := (-1)) hx hb dX8_state_8 (by decide) ?_
    rw [hQ]
    exact xg_eri S hr hlk (by skip; simp only [em_stt, c5, if_true, if_false, Bool.false_eq_true]) dX8_state_9
set_option maxHeartbeats 4000000 in
set_option maxRecDepth 100000 in
theorem mX8_areTwo (l : Launch) (D : va_G) (cI cZ : ClassId) (bs : Nat) (ad : Nat → Nat) (ws : va_W) (b : Nat) (A : Nat → Nat → Int32) (I : Nat → Int32) (L : Int64) (hM : xv_M cI cZ ad ws b A I L) (p : Int32) (p2 : Int32) : Met l yX8_areTwo wsX8_areTwo ({ frames := 3, cells := 0, slots := 0, locals := 66 } : Room) (va_Pc [.ref (ad b), .int p, .int p2] (fun U => xg_W D cI cZ bs ws U)) (xg_Ri (fun r : Int32 => r = xb_i (em_two I p p2))) 0 0 xg_F := by
  refine xg_met cX8_areTwo 3 (some .boolean) RX8 (by decide) rfl rfl (Nat.le_of_ble_eq_true rfl) ?_
  intro pg en s m below meth c ls S hr hlk hnm hB hl
  have hK := hB.1
  have hG := xg_start hB
  obtain ⟨hx, hb, hml, hown, hts⟩ := id S
  have hl : lv_has ls 3 [(0, .ref (ad b)), (1, .int p), (2, .int p2)] := hl
  obtain ⟨Q, hQ⟩ : ∃ Q, Q = MQ below (xg_Ri (fun r : Int32 => r = xb_i (em_two I p p2))) ([.ref (ad b), .int p, .int p2] : List Value).toArray s 0 0 xg_F := ⟨_, rfl⟩
  rw [← hQ]
  refine lv_aload_n hx hb dX8_areTwo_0 rfl (lv_at hl 0 rfl) ?_
  refine lv_iload_n hx hb dX8_areTwo_1 rfl (lv_at hl 1 rfl) ?_
  refine xg_ri (va_runV (As := [.int p]) (rest := []) S (mX8_isThere l D cI cZ bs ad ws b A I L hM p) (cwV 1 hts gX8_areTwo_X8_isThere rfl rfl rfl (by decide +kernel) ⟨Nat.le_of_ble_eq_true rfl, Nat.le_of_ble_eq_true rfl⟩) (xg_preV hK hG b hM.1 rfl rfl) rfl rfl hl.1 rfl (lv_room (Nat.le_of_ble_eq_true rfl)) dX8_areTwo_2 ⟨Nat.zero_le _, Nat.zero_le _⟩) (fun r1 hr1 => ?_)
  replace hr1 := hr1.symm; subst hr1
  refine xb_ifeq (tgt := 25) S dX8_areTwo_5 (by decide) (fun c5 => ?_) (fun c5 => ?_)
  · skip
    refine lv_iconst (v := 0) hx hb dX8_areTwo_25 (by decide) ?_
    rw [hQ]
    exact xg_erz S hr hlk rfl (by skip; simp [em_two, xb_i, c5]) dX8_areTwo_26
  · skip
    refine lv_aload_n hx hb dX8_areTwo_8 rfl (lv_at hl 0 rfl) ?_
    refine lv_iload_n hx hb dX8_areTwo_9 rfl (lv_at hl 2 rfl) ?_
    refine xg_ri (va_runV (As := [.int p2]) (rest := []) S (mX8_isThere l D cI cZ bs ad ws b A I L hM p2) (cwV 1 hts gX8_areTwo_X8_isThere rfl rfl rfl (by decide +kernel) ⟨Nat.le_of_ble_eq_true rfl, Nat.le_of_ble_eq_true rfl⟩) (xg_preV hK hG b hM.1 rfl rfl) rfl rfl hl.1 rfl (lv_room (Nat.le_of_ble_eq_true rfl)) dX8_areTwo_10 ⟨Nat.zero_le _, Nat.zero_le _⟩) (fun r2 hr2 => ?_)
    replace hr2 := hr2.symm; subst hr2
    refine xb_ifeq (tgt := 25) S dX8_areTwo_13 (by decide) (fun c13 => ?_) (fun c13 => ?_)
    · skip
      refine lv_iconst (v := 0) hx hb dX8_areTwo_25 (by decide) ?_
      rw [hQ]
      exact xg_erz S hr hlk rfl (by skip; simp [em_two, xb_i, c5, c13]) dX8_areTwo_26
    · skip
      refine lv_iload_n hx hb dX8_areTwo_16 rfl (lv_at hl 1 rfl) ?_
      refine lv_iload_n hx hb dX8_areTwo_17 rfl (lv_at hl 2 rfl) ?_
      refine lv_icmp_eq (tgt := 25) hx hb dX8_areTwo_18 (by decide) (fun c18 => ?_) (fun c18 => ?_)
      · skip
        refine lv_iconst (v := 0) hx hb dX8_areTwo_25 (by decide) ?_
        rw [hQ]
        exact xg_erz S hr hlk rfl (by skip; simp [em_two, xb_i, c5, c13, c18]) dX8_areTwo_26
      · skip
        refine lv_iconst (v := 1) hx hb dX8_areTwo_21 (by decide) ?_
        refine lv_goto (tgt := 26) hx hb dX8_areTwo_22 (by decide) ?_
        rw [hQ]
        exact xg_erz S hr hlk rfl (by skip; simp [em_two, xb_i, c5, c13, c18]) dX8_areTwo_26
set_option maxHeartbeats 4000000 in
set_option maxRecDepth 100000 in
theorem mX8_isClimb (l : Launch) (D : va_G) (cI cZ : ClassId) (bs : Nat) (ad : Nat → Nat) (ws : va_W) (y : Int32) (z : Int32) : Met l yX8_isClimb wsX8_isClimb ({ frames := 2, cells := 0, slots := 0, locals := 45 } : Room) (va_Pc [.int y, .int z] (fun U => xg_W D cI cZ bs ws U)) (xg_Ri (fun r : Int32 => r = xb_i (em_isC y z))) 0 0 xg_F := by
  refine xg_met cX8_isClimb 2 (some .boolean) RX8 (by decide) rfl rfl (Nat.le_of_ble_eq_true rfl) ?_
  intro pg en s m below meth c ls S hr hlk hnm hB hl
  have hK := hB.1
  have hG := xg_start hB
  obtain ⟨hx, hb, hml, hown, hts⟩ := id S
  have hl : lv_has ls 2 [(0, .int y), (1, .int z)] := hl
  obtain ⟨Q, hQ⟩ : ∃ Q, Q = MQ below (xg_Ri (fun r : Int32 => r = xb_i (em_isC y z))) ([.int y, .int z] : List Value).toArray s 0 0 xg_F := ⟨_, rfl⟩
  rw [← hQ]
  refine lv_iload_n hx hb dX8_isClimb_0 rfl (lv_at hl 1 rfl) ?_
  refine xg_ri (va_runS (As := [.int z]) (rest := []) S (mX8_isHeight l D cI cZ bs ad ws z) (va_cwS 1 hts gX8_isClimb_X8_isHeight rfl rfl rfl (by decide +kernel) ⟨Nat.le_of_ble_eq_true rfl, Nat.le_of_ble_eq_true rfl⟩) (xg_preS hK hG) rfl rfl hl.1 rfl (lv_room (Nat.le_of_ble_eq_true rfl)) dX8_isClimb_1 ⟨Nat.zero_le _, Nat.zero_le _⟩) (fun r1 hr1 => ?_)
  replace hr1 := hr1.symm; subst hr1
  refine xb_ifeq (tgt := 22) S dX8_isClimb_4 (by decide) (fun c4 => ?_) (fun c4 => ?_)
  · skip
    refine lv_iconst (v := 0) hx hb dX8_isClimb_22 (by decide) ?_
    rw [hQ]
    exact xg_erz S hr hlk rfl (by skip; simp [em_isC, xb_i, c4]) dX8_isClimb_23
  · skip
    refine lv_iload_n hx hb dX8_isClimb_7 rfl (lv_at hl 0 rfl) ?_
    refine lv_i2l (v := y.toInt64) hx hb dX8_isClimb_8 rfl ?_
    refine lv_lconst (v := 1) hx hb dX8_isClimb_9 (by decide) ?_
    refine lv_iload_n hx hb dX8_isClimb_10 rfl (lv_at hl 1 rfl) ?_
    refine lv_i2l (v := z.toInt64) hx hb dX8_isClimb_11 rfl ?_
    refine xg_ri (va_runS (As := [.long y.toInt64, .long 1, .long z.toInt64]) (rest := []) S (mX8_in l D cI cZ bs ad ws y.toInt64 1 z.toInt64) (va_cwS 3 hts gX8_isClimb_X8_in rfl rfl rfl (by decide +kernel) ⟨Nat.le_of_ble_eq_true rfl, Nat.le_of_ble_eq_true rfl⟩) (xg_preS hK hG) rfl rfl hl.1 rfl (lv_room (Nat.le_of_ble_eq_true rfl)) dX8_isClimb_12 ⟨Nat.zero_le _, Nat.zero_le _⟩) (fun r2 hr2 => ?_)
    replace hr2 := hr2.symm; subst hr2
    rw [xw_inL_lit y 1 z 1 z.toInt64 (by decide) rfl]
    refine xb_ifeq (tgt := 22) S dX8_isClimb_15 (by decide) (fun c15 => ?_) (fun c15 => ?_)
    · skip
      refine lv_iconst (v := 0) hx hb dX8_isClimb_22 (by decide) ?_
      rw [hQ]
      exact xg_erz S hr hlk rfl (by skip; simp [em_isC, xb_i, c4, c15]) dX8_isClimb_23
    · skip
      refine lv_iconst (v := 1) hx hb dX8_isClimb_18 (by decide) ?_
      refine lv_goto (tgt := 23) hx hb dX8_isClimb_19 (by decide) ?_
      rw [hQ]
      exact xg_erz S hr hlk rfl (by skip; simp [em_isC, xb_i, c4, c15]) dX8_isClimb_23
