set_option maxHeartbeats 4000000 in
set_option maxRecDepth 100000 in
theorem mX8_image (l : Launch) (D : va_G) (cI cZ : ClassId) (bs : Nat) (ad : Nat → Nat) (ws : va_W) (b : Nat) (A : Nat → Nat → Int32) (I : Nat → Int32) (L : Int64) (hM : xv_M cI cZ ad ws b A I L) (x : Int32) : Met l yX8_image wsX8_image ({ frames := 2, cells := 0, slots := 0, locals := 43 } : Room) (va_Pc [.ref (ad b), .int x] (fun U => xg_W D cI cZ bs ws U)) (va_Qi (fun (r : Int32) (w : va_W) => r = (if xw_in x 0 1 = true then 1 else -2) ∧ xv_M cI cZ ad w b ((em_imG A I x).1) ((em_imG A I x).2) L ∧ xv_S ws w b 24) (fun w t => xg_W D cI cZ bs w t) (xg_A bs)) 0 0 (xg_A bs) := by
  refine xg_met cX8_image 2 (some .int) RX8 (by decide) rfl rfl (Nat.le_of_ble_eq_true rfl) ?_
  intro pg en s m below meth c ls S hr hlk hnm hB hl
  have hK := hB.1
  have hG := xg_start hB
  obtain ⟨hx, hb, hml, hown, hts⟩ := id S
  have hl : lv_has ls 2 [(0, .ref (ad b)), (1, .int x)] := hl
  obtain ⟨Q, hQ⟩ : ∃ Q, Q = MQ below (va_Qi (fun (r : Int32) (w : va_W) => r = (if xw_in x 0 1 = true then 1 else -2) ∧ xv_M cI cZ ad w b ((em_imG A I x).1) ((em_imG A I x).2) L ∧ xv_S ws w b 24) (fun w t => xg_W D cI cZ bs w t) (xg_A bs)) ([.ref (ad b), .int x] : List Value).toArray s 0 0 (xg_A bs) := ⟨_, rfl⟩
  rw [← hQ]
  have k0 := hts (.fieldLink RX8 332 "DareBridgeModel" "keptAt" "I") (List.mem_of_getElem? (i := 1) rfl)
  have k1 := hts (.fieldLink RX8 328 "DareBridgeModel" "isWriting" "Z") (List.mem_of_getElem? (i := 2) rfl)
  have k2 := hts (.fieldLink RX8 76 "DareBridgeModel" "isKept" "[Z") (List.mem_of_getElem? (i := 3) rfl)
  refine lv_iload_n hx hb dX8_image_0 rfl (lv_at hl 1 rfl) ?_
  refine lv_i2l (v := x.toInt64) hx hb dX8_image_1 rfl ?_
  refine lv_lconst (v := 0) hx hb dX8_image_2 (by decide) ?_
  refine lv_lconst (v := 1) hx hb dX8_image_3 (by decide) ?_
  refine xg_ri (va_runS (As := [.long x.toInt64, .long 0, .long 1]) (rest := []) S (mX8_in l D cI cZ bs ad ws x.toInt64 0 1) (va_cwS 3 hts gX8_image_X8_in rfl rfl rfl (by decide +kernel) ⟨Nat.le_of_ble_eq_true rfl, Nat.le_of_ble_eq_true rfl⟩) (xg_preS hK hG) rfl rfl hl.1 rfl (lv_room (Nat.le_of_ble_eq_true rfl)) dX8_image_4 ⟨Nat.zero_le _, Nat.zero_le _⟩) (fun r1 hr1 => ?_)
  replace hr1 := hr1.symm; subst hr1
  rw [xw_inL_lit x 0 1 0 1 (by decide) (by decide)]
  refine xb_ifne (tgt := 13) S dX8_image_7 (by decide) (fun c7 => ?_) (fun c7 => ?_)
  · skip
    obtain ⟨q0, hq1, hq2⟩ := em_100 c7
    have hx2 := em_in2 c7
    refine lv_aload_n hx hb dX8_image_13 rfl (lv_at hl 0 rfl) ?_
    refine lv_bipush (v := 100) hx hb dX8_image_14 (by decide) ?_
    refine lv_iload_n hx hb dX8_image_16 rfl (lv_at hl 1 rfl) ?_
    refine lv_imul hx hb dX8_image_17 ?_
    refine xg_put2 (C := RX8) (T := TX8) (N := 46) (v := .int (100 * x)) (ty := .int) S hK hG (fun w h => List.mem_cons_of_mem _ (List.mem_append_right _ (h))) tyX8 tyX8_ok nmX8 b hM.1 rfl 44 (by decide) k0 (fun _ h9 => h9) rfl (by decide +kernel) rfl rfl (Nat.le_of_ble_eq_true rfl) dX8_image_18 (fun w2 H locs hw2 hG => ?_)
    have hs3 : xv_S ws w2 b 1 := by rw [hw2]; exact xv_S.set (by omega) (by omega)
    obtain ⟨I4, eI4⟩ : ∃ zz : Nat → Int32, (va_up I 44 (100 * x)) = zz := ⟨_, rfl⟩
    have hM : xv_M cI cZ ad w2 b A I4 L := by rw [hw2, ← eI4]; exact hM.fld (va_up I 44 (100 * x)) L rfl
    have hSw2 : xv_S ws w2 b 24 := hs3.mono (by omega) (by omega)
    refine lv_aload_n hx hb dX8_image_21 rfl (lv_at hl 0 rfl) ?_
    refine lv_iconst (v := 1) hx hb dX8_image_22 (by decide) ?_
    refine xg_put2 (C := RX8) (T := TX8) (N := 46) (v := .int 1) (ty := .boolean) S hK hG (fun w h => List.mem_cons_of_mem _ (List.mem_append_right _ (h))) tyX8 tyX8_ok nmX8 b hM.1 rfl 45 (by decide) k1 (fun _ h9 => h9) rfl (by decide +kernel) rfl rfl (Nat.le_of_ble_eq_true rfl) dX8_image_23 (fun w5 H locs hw5 hG => ?_)
    have hs6 : xv_S w2 w5 b 1 := by rw [hw5]; exact xv_S.set (by omega) (by omega)
    obtain ⟨I7, eI7⟩ : ∃ zz : Nat → Int32, (va_up I4 45 1) = zz := ⟨_, rfl⟩
    have hM : xv_M cI cZ ad w5 b A I7 L := by rw [hw5, ← eI7]; exact hM.fld (va_up I4 45 1) L rfl
    have hSw5 : xv_S ws w5 b 24 := hSw2.trans (hs6.mono (by omega) (by omega))
    refine lv_aload_n hx hb dX8_image_26 rfl (lv_at hl 0 rfl) ?_
    refine xg_mv (va_runV (As := []) (rest := []) S (mX8_passAll l D cI cZ bs ad w5 b A I7 L hM q0 (by subst eI4 eI7; rw [va_up_ne _ _ (by decide), va_up_self]; exact hq2) hq1) (cwV 0 hts gX8_image_X8_passAll rfl rfl rfl (by decide +kernel) ⟨Nat.le_of_ble_eq_true rfl, Nat.le_of_ble_eq_true rfl⟩) (xg_preV hK hG b hM.1 rfl rfl) rfl rfl hl.1 rfl (lv_room (Nat.le_of_ble_eq_true rfl)) dX8_image_27 ⟨Nat.zero_le _, Nat.zero_le _⟩) hG (fun w9 H locs hr8 hG => ?_)
    obtain ⟨hvw9_0, hsw9⟩ := hr8
    have hM : xv_M cI cZ ad w9 b ((em_pas A I7).1) ((em_pas A I7).2) L := hvw9_0
    obtain ⟨A10, eA10⟩ : ∃ zz : Nat → Nat → Int32, ((em_pas A I7).1) = zz := ⟨_, rfl⟩
    rw [eA10] at hM
    obtain ⟨I11, eI11⟩ : ∃ zz : Nat → Int32, ((em_pas A I7).2) = zz := ⟨_, rfl⟩
    rw [eI11] at hM
    have hSw9 : xv_S ws w9 b 24 := hSw5.trans (hsw9.mono (by omega) (by omega))
    refine lv_aload_n hx hb dX8_image_30 rfl (lv_at hl 0 rfl) ?_
    refine xg_get (C := RX8) (T := TX8) (N := 46) S hK hG (fun w h => List.mem_cons_of_mem _ (List.mem_append_right _ (h))) b hM.1 rfl 43 (by decide) k2 (fun _ h9 => h9) rfl dX8_image_31 ?_
    refine lv_iload_n hx hb dX8_image_34 rfl (lv_at hl 1 rfl) ?_
    refine lv_iconst (v := 1) hx hb dX8_image_35 (by decide) ?_
    refine xg_zst2 S hK hG (b + 23) hM.2.2 (i := x) (x := 1) (by first | assumption | exact vp_in_nI (by omega) (by decide)) dX8_image_36 (fun w12 H locs hw12 hG => ?_)
    have hs13 : xv_S w9 w12 (b + 23) 1 := by rw [hw12]; exact xv_S.set (by omega) (by omega)
    obtain ⟨A14, eA14⟩ : ∃ zz : Nat → Nat → Int32, (va_up A10 22 (upd (A10 22) x.toNatClampNeg (vp_nar .boolean 1))) = zz := ⟨_, rfl⟩
    have hM : xv_M cI cZ ad w12 b A14 I11 L := by rw [hw12, ← eA14]; exact hM.rowz
    have hSw12 : xv_S ws w12 b 24 := hSw9.trans (hs13.mono (by omega) (by omega))
    refine lv_iconst (v := 1) hx hb dX8_image_37 (by decide) ?_
    rw [hQ]
    exact xg_emi S hr hlk hK hG ⟨(by subst eI4 eI7 eA10 eI11 eA14; first | exact (if_pos c7).symm | simp only [c7, if_true, if_false, Bool.false_eq_true]), (by rw [show ((em_imG A I x).1) = A14 from (by subst eI4 eI7 eA10 eI11 eA14; unfold em_imG; simp only [c7, if_true, if_false, Bool.false_eq_true]; try rfl)]; rw [show ((em_imG A I x).2) = I11 from (by subst eI4 eI7 eA10 eI11 eA14; unfold em_imG; simp only [c7, if_true, if_false, Bool.false_eq_true]; try rfl)]; exact hM), hSw12⟩ dX8_image_38
  · skip
    refine lv_bipush (v := (-2)) hx hb dX8_image_10 (by decide) ?_
    rw [hQ]
    exact xg_emi S hr hlk hK hG ⟨(by skip; first | exact (if_pos c7).symm | simp only [c7, if_true, if_false, Bool.false_eq_true]), (by rw [show ((em_imG A I x).1) = A from (by skip; unfold em_imG; simp only [c7, if_true, if_false, Bool.false_eq_true]; try rfl)]; rw [show ((em_imG A I x).2) = I from (by skip; unfold em_imG; simp only [c7, if_true, if_false, Bool.false_eq_true]; try rfl)]; exact hM), xv_S.rf⟩ dX8_image_12
set_option maxHeartbeats 4000000 in
set_option maxRecDepth 100000 in
theorem mX8_restore (l : Launch) (D : va_G) (cI cZ : ClassId) (bs : Nat) (ad : Nat → Nat) (ws : va_W) (b : Nat) (A : Nat → Nat → Int32) (I : Nat → Int32) (L : Int64) (hM : xv_M cI cZ ad ws b A I L) (x : Int32) : Met l yX8_restore wsX8_restore ({ frames := 2, cells := 0, slots := 0, locals := 43 } : Room) (va_Pc [.ref (ad b), .int x] (fun U => xg_W D cI cZ bs ws U)) (va_Qi (fun (r : Int32) (w : va_W) => r = em_rsR A x ∧ xv_M cI cZ ad w b ((em_rsG A I x).1) ((em_rsG A I x).2) L ∧ xv_S ws w b 24) (fun w t => xg_W D cI cZ bs w t) (xg_A bs)) 0 0 (xg_A bs) := by
  refine xg_met cX8_restore 2 (some .int) RX8 (by decide) rfl rfl (Nat.le_of_ble_eq_true rfl) ?_
  intro pg en s m below meth c ls S hr hlk hnm hB hl
  have hK := hB.1
  have hG := xg_start hB
  obtain ⟨hx, hb, hml, hown, hts⟩ := id S
  have hl : lv_has ls 2 [(0, .ref (ad b)), (1, .int x)] := hl
  obtain ⟨Q, hQ⟩ : ∃ Q, Q = MQ below (va_Qi (fun (r : Int32) (w : va_W) => r = em_rsR A x ∧ xv_M cI cZ ad w b ((em_rsG A I x).1) ((em_rsG A I x).2) L ∧ xv_S ws w b 24) (fun w t => xg_W D cI cZ bs w t) (xg_A bs)) ([.ref (ad b), .int x] : List Value).toArray s 0 0 (xg_A bs) := ⟨_, rfl⟩
  rw [← hQ]
  have k0 := hts (.fieldLink RX8 76 "DareBridgeModel" "isKept" "[Z") (List.mem_of_getElem? (i := 1) rfl)
  have k1 := hts (.fieldLink RX8 332 "DareBridgeModel" "keptAt" "I") (List.mem_of_getElem? (i := 2) rfl)
  have k2 := hts (.fieldLink RX8 328 "DareBridgeModel" "isWriting" "Z") (List.mem_of_getElem? (i := 3) rfl)
  refine lv_iload_n hx hb dX8_restore_0 rfl (lv_at hl 1 rfl) ?_
  refine lv_i2l (v := x.toInt64) hx hb dX8_restore_1 rfl ?_
  refine lv_lconst (v := 0) hx hb dX8_restore_2 (by decide) ?_
  refine lv_lconst (v := 1) hx hb dX8_restore_3 (by decide) ?_
  refine xg_ri (va_runS (As := [.long x.toInt64, .long 0, .long 1]) (rest := []) S (mX8_in l D cI cZ bs ad ws x.toInt64 0 1) (va_cwS 3 hts gX8_restore_X8_in rfl rfl rfl (by decide +kernel) ⟨Nat.le_of_ble_eq_true rfl, Nat.le_of_ble_eq_true rfl⟩) (xg_preS hK hG) rfl rfl hl.1 rfl (lv_room (Nat.le_of_ble_eq_true rfl)) dX8_restore_4 ⟨Nat.zero_le _, Nat.zero_le _⟩) (fun r1 hr1 => ?_)
  replace hr1 := hr1.symm; subst hr1
  rw [xw_inL_lit x 0 1 0 1 (by decide) (by decide)]
  refine xb_ifne (tgt := 13) S dX8_restore_7 (by decide) (fun c7 => ?_) (fun c7 => ?_)
  · skip
    obtain ⟨q0, hq1, hq2⟩ := em_100 c7
    have hx2 := em_in2 c7
    refine lv_aload_n hx hb dX8_restore_13 rfl (lv_at hl 0 rfl) ?_
    refine xg_get (C := RX8) (T := TX8) (N := 46) S hK hG (fun w h => List.mem_cons_of_mem _ (List.mem_append_right _ (h))) b hM.1 rfl 43 (by decide) k0 (fun _ h9 => h9) rfl dX8_restore_14 ?_
    refine lv_iload_n hx hb dX8_restore_17 rfl (lv_at hl 1 rfl) ?_
    refine xg_zld S hK hG (b + 23) hM.2.2 (i := x) (by first | assumption | exact vp_in_nI (by omega) (by decide)) dX8_restore_18 ?_
    refine lv_if_ne (tgt := 25) hx hb dX8_restore_19 (by decide) (fun c19 => ?_) (fun c19 => ?_)
    · skip
      refine lv_aload_n hx hb dX8_restore_25 rfl (lv_at hl 0 rfl) ?_
      refine lv_bipush (v := 100) hx hb dX8_restore_26 (by decide) ?_
      refine lv_iload_n hx hb dX8_restore_28 rfl (lv_at hl 1 rfl) ?_
      refine lv_imul hx hb dX8_restore_29 ?_
      refine xg_put2 (C := RX8) (T := TX8) (N := 46) (v := .int (100 * x)) (ty := .int) S hK hG (fun w h => List.mem_cons_of_mem _ (List.mem_append_right _ (h))) tyX8 tyX8_ok nmX8 b hM.1 rfl 44 (by decide) k1 (fun _ h9 => h9) rfl (by decide +kernel) rfl rfl (Nat.le_of_ble_eq_true rfl) dX8_restore_30 (fun w2 H locs hw2 hG => ?_)
      have hs3 : xv_S ws w2 b 1 := by rw [hw2]; exact xv_S.set (by omega) (by omega)
      obtain ⟨I4, eI4⟩ : ∃ zz : Nat → Int32, (va_up I 44 (100 * x)) = zz := ⟨_, rfl⟩
      have hM : xv_M cI cZ ad w2 b A I4 L := by rw [hw2, ← eI4]; exact hM.fld (va_up I 44 (100 * x)) L rfl
      have hSw2 : xv_S ws w2 b 24 := hs3.mono (by omega) (by omega)
      refine lv_aload_n hx hb dX8_restore_33 rfl (lv_at hl 0 rfl) ?_
      refine lv_iconst (v := 0) hx hb dX8_restore_34 (by decide) ?_
      refine xg_put2 (C := RX8) (T := TX8) (N := 46) (v := .int 0) (ty := .boolean) S hK hG (fun w h => List.mem_cons_of_mem _ (List.mem_append_right _ (h))) tyX8 tyX8_ok nmX8 b hM.1 rfl 45 (by decide) k2 (fun _ h9 => h9) rfl (by decide +kernel) rfl rfl (Nat.le_of_ble_eq_true rfl) dX8_restore_35 (fun w5 H locs hw5 hG => ?_)
      have hs6 : xv_S w2 w5 b 1 := by rw [hw5]; exact xv_S.set (by omega) (by omega)
      obtain ⟨I7, eI7⟩ : ∃ zz : Nat → Int32, (va_up I4 45 0) = zz := ⟨_, rfl⟩
      have hM : xv_M cI cZ ad w5 b A I7 L := by rw [hw5, ← eI7]; exact hM.fld (va_up I4 45 0) L rfl
      have hSw5 : xv_S ws w5 b 24 := hSw2.trans (hs6.mono (by omega) (by omega))
      refine lv_aload_n hx hb dX8_restore_38 rfl (lv_at hl 0 rfl) ?_
      refine xg_mv (va_runV (As := []) (rest := []) S (mX8_passAll l D cI cZ bs ad w5 b A I7 L hM q0 (by subst eI4 eI7; rw [va_up_ne _ _ (by decide), va_up_self]; exact hq2) hq1) (cwV 0 hts gX8_restore_X8_passAll rfl rfl rfl (by decide +kernel) ⟨Nat.le_of_ble_eq_true rfl, Nat.le_of_ble_eq_true rfl⟩) (xg_preV hK hG b hM.1 rfl rfl) rfl rfl hl.1 rfl (lv_room (Nat.le_of_ble_eq_true rfl)) dX8_restore_39 ⟨Nat.zero_le _, Nat.zero_le _⟩) hG (fun w9 H locs hr8 hG => ?_)
      obtain ⟨hvw9_0, hsw9⟩ := hr8
      have hM : xv_M cI cZ ad w9 b ((em_pas A I7).1) ((em_pas A I7).2) L := hvw9_0
      obtain ⟨A10, eA10⟩ : ∃ zz : Nat → Nat → Int32, ((em_pas A I7).1) = zz := ⟨_, rfl⟩
      rw [eA10] at hM
      obtain ⟨I11, eI11⟩ : ∃ zz : Nat → Int32, ((em_pas A I7).2) = zz := ⟨_, rfl⟩
      rw [eI11] at hM
      have hSw9 : xv_S ws w9 b 24 := hSw5.trans (hsw9.mono (by omega) (by omega))
      refine lv_iconst (v := 1) hx hb dX8_restore_42 (by decide) ?_
      rw [hQ]
      exact xg_emi S hr hlk hK hG ⟨(by subst eI4 eI7 eA10 eI11; unfold em_rsR; simp only [c7, c19, if_true, if_false, Bool.false_eq_true]), (by rw [show ((em_rsG A I x).1) = A10 from (by subst eI4 eI7 eA10 eI11; unfold em_rsG; simp only [c7, c19, if_true, if_false, Bool.false_eq_true]; try rfl)]; rw [show ((em_rsG A I x).2) = I11 from (by subst eI4 eI7 eA10 eI11; unfold em_rsG; simp only [c7, c19, if_true, if_false, Bool.false_eq_true]; try rfl)]; exact hM), hSw9⟩ dX8_restore_43
    · skip
      refine lv_bipush (v := (-3)) hx hb dX8_restore_22 (by decide) ?_
      rw [hQ]
      exact xg_emi S hr hlk hK hG ⟨(by skip; unfold em_rsR; simp only [c7, c19, if_true, if_false, Bool.false_eq_true]), (by rw [show ((em_rsG A I x).1) = A from (by skip; unfold em_rsG; simp only [c7, c19, if_true, if_false, Bool.false_eq_true]; try rfl)]; rw [show ((em_rsG A I x).2) = I from (by skip; unfold em_rsG; simp only [c7, c19, if_true, if_false, Bool.false_eq_true]; try rfl)]; exact hM), xv_S.rf⟩ dX8_restore_24
  · skip
    refine lv_bipush (v := (-2)) hx hb dX8_restore_10 (by decide) ?_
    rw [hQ]
    exact xg_emi S hr hlk hK hG ⟨(by skip; unfold em_rsR; simp only [c7, if_true, if_false, Bool.false_eq_true]), (by rw [show ((em_rsG A I x).1) = A from (by skip; unfold em_rsG; simp only [c7, if_true, if_false, Bool.false_eq_true]; try rfl)]; rw [show ((em_rsG A I x).2) = I from (by skip; unfold em_rsG; simp only [c7, if_true, if_false, Bool.false_eq_true]; try rfl)]; exact hM), xv_S.rf⟩ dX8_restore_12
