set_option maxHeartbeats 4000000 in
set_option maxRecDepth 100000 in
theorem mX8_refusal (l : Launch) (D : va_G) (cI cZ : ClassId) (bs : Nat) (ad : Nat → Nat) (ws : va_W) (b : Nat) (A : Nat → Nat → Int32) (I : Nat → Int32) (L : Int64) (hM : xv_M cI cZ ad ws b A I L) (n : Nat) (hn : I 20 = nI n) (hn60 : n ≤ 60) : Met l yX8_refusal wsX8_refusal ({ frames := 5, cells := 0, slots := 0, locals := 111 } : Room) (va_Pc [.ref (ad b)] (fun U => xg_W D cI cZ bs ws U)) (va_Qi (fun (r : Int32) (w : va_W) => r = em_rfR A I n ∧ xv_M cI cZ ad w b ((em_rfG A I n).1) ((em_rfG A I n).2) L ∧ xv_S ws w b 24) (fun w t => xg_W D cI cZ bs w t) (xg_A bs)) 0 0 (xg_A bs) := by
  refine xg_met cX8_refusal 1 (some .int) RX8 (by decide) rfl rfl (Nat.le_of_ble_eq_true rfl) ?_
  intro pg en s m below meth c ls S hr hlk hnm hB hl
  have hK := hB.1
  have hG := xg_start hB
  obtain ⟨hx, hb, hml, hown, hts⟩ := id S
  have hl : lv_has ls 1 [(0, .ref (ad b))] := hl
  obtain ⟨Q, hQ⟩ : ∃ Q, Q = MQ below (va_Qi (fun (r : Int32) (w : va_W) => r = em_rfR A I n ∧ xv_M cI cZ ad w b ((em_rfG A I n).1) ((em_rfG A I n).2) L ∧ xv_S ws w b 24) (fun w t => xg_W D cI cZ bs w t) (xg_A bs)) ([.ref (ad b)] : List Value).toArray s 0 0 (xg_A bs) := ⟨_, rfl⟩
  rw [← hQ]
  have k0 := hts (.fieldLink RX8 200 "DareBridgeModel" "badEvent" "I") (List.mem_of_getElem? (i := 1) rfl)
  refine lv_aload_n hx hb dX8_refusal_0 rfl (lv_at hl 0 rfl) ?_
  refine xg_mi (va_runV (As := []) (rest := []) S (mX8_fault l D cI cZ bs ad ws b A I L hM (by first | assumption | omega) (by first | assumption | omega) (by first | assumption | omega)) (cwV 0 hts gX8_refusal_X8_fault rfl rfl rfl (by decide +kernel) ⟨Nat.le_of_ble_eq_true rfl, Nat.le_of_ble_eq_true rfl⟩) (xg_preV hK hG b hM.1 rfl rfl) rfl rfl hl.1 rfl (lv_room (Nat.le_of_ble_eq_true rfl)) dX8_refusal_1 ⟨Nat.zero_le _, Nat.zero_le _⟩) hG (fun r1 w2 H locs hr1 hG => ?_)
  obtain ⟨hr1, hvw2_0, hsw2⟩ := hr1
  replace hr1 := hr1.symm; subst hr1
  have hM : xv_M cI cZ ad w2 b ((em_flt A I n).2.1) ((em_flt A I n).2.2) L := hvw2_0
  obtain ⟨A3, eA3⟩ : ∃ zz : Nat → Nat → Int32, ((em_flt A I n).2.1) = zz := ⟨_, rfl⟩
  rw [eA3] at hM
  obtain ⟨I4, eI4⟩ : ∃ zz : Nat → Int32, ((em_flt A I n).2.2) = zz := ⟨_, rfl⟩
  rw [eI4] at hM
  have hSw2 : xv_S ws w2 b 24 := hsw2.mono (by omega) (by omega)
  obtain ⟨e, hen, hee⟩ := em_flt_ev A I n
  refine lv_if_lt (tgt := 10) hx hb dX8_refusal_4 (by decide) (fun c4 => ?_) (fun c4 => ?_)
  · skip
    refine lv_aload_n hx hb dX8_refusal_10 rfl (lv_at hl 0 rfl) ?_
    refine xg_mv (va_runV (As := []) (rest := []) S (mX8_keepNow l D cI cZ bs ad w2 b A3 I4 L hM) (cwV 0 hts gX8_refusal_X8_keepNow rfl rfl rfl (by decide +kernel) ⟨Nat.le_of_ble_eq_true rfl, Nat.le_of_ble_eq_true rfl⟩) (xg_preV hK hG b hM.1 rfl rfl) rfl rfl hl.1 rfl (lv_room (Nat.le_of_ble_eq_true rfl)) dX8_refusal_11 ⟨Nat.zero_le _, Nat.zero_le _⟩) hG (fun w6 H locs hr5 hG => ?_)
    obtain ⟨hvw6_0, hsw6⟩ := hr5
    have hM : xv_M cI cZ ad w6 b (em_kpk A3 6) (va_up I4 34 (I4 14)) L := hvw6_0
    obtain ⟨A7, eA7⟩ : ∃ zz : Nat → Nat → Int32, (em_kpk A3 6) = zz := ⟨_, rfl⟩
    rw [eA7] at hM
    obtain ⟨I8, eI8⟩ : ∃ zz : Nat → Int32, (va_up I4 34 (I4 14)) = zz := ⟨_, rfl⟩
    rw [eI8] at hM
    have hSw6 : xv_S ws w6 b 24 := hSw2.trans (hsw6.mono (by omega) (by omega))
    refine lv_aload_n hx hb dX8_refusal_14 rfl (lv_at hl 0 rfl) ?_
    refine xg_mv (va_runV (As := []) (rest := []) S (mX8_goSummer l D cI cZ bs ad w6 b A7 I8 L hM e (by subst eA3 eI4 eA7 eI8; rw [va_up_ne _ _ (by decide)]; exact hee) (by omega)) (cwV 0 hts gX8_refusal_X8_goSummer rfl rfl rfl (by decide +kernel) ⟨Nat.le_of_ble_eq_true rfl, Nat.le_of_ble_eq_true rfl⟩) (xg_preV hK hG b hM.1 rfl rfl) rfl rfl hl.1 rfl (lv_room (Nat.le_of_ble_eq_true rfl)) dX8_refusal_15 ⟨Nat.zero_le _, Nat.zero_le _⟩) hG (fun w10 H locs hr9 hG => ?_)
    obtain ⟨hvw10_0, hsw10⟩ := hr9
    have hM : xv_M cI cZ ad w10 b ((em_gos A7 I8).1) ((em_gos A7 I8).2) L := hvw10_0
    obtain ⟨A11, eA11⟩ : ∃ zz : Nat → Nat → Int32, ((em_gos A7 I8).1) = zz := ⟨_, rfl⟩
    rw [eA11] at hM
    obtain ⟨I12, eI12⟩ : ∃ zz : Nat → Int32, ((em_gos A7 I8).2) = zz := ⟨_, rfl⟩
    rw [eI12] at hM
    have hSw10 : xv_S ws w10 b 24 := hSw6.trans (hsw10.mono (by omega) (by omega))
    refine lv_aload_n hx hb dX8_refusal_18 rfl (lv_at hl 0 rfl) ?_
    refine xg_mv (va_runV (As := []) (rest := []) S (mX8_putBack l D cI cZ bs ad w10 b A11 I12 L hM) (cwV 0 hts gX8_refusal_X8_putBack rfl rfl rfl (by decide +kernel) ⟨Nat.le_of_ble_eq_true rfl, Nat.le_of_ble_eq_true rfl⟩) (xg_preV hK hG b hM.1 rfl rfl) rfl rfl hl.1 rfl (lv_room (Nat.le_of_ble_eq_true rfl)) dX8_refusal_19 ⟨Nat.zero_le _, Nat.zero_le _⟩) hG (fun w14 H locs hr13 hG => ?_)
    obtain ⟨hvw14_0, hsw14⟩ := hr13
    have hM : xv_M cI cZ ad w14 b (em_pbk A11 6) (va_up I12 14 (I12 34)) L := hvw14_0
    obtain ⟨A15, eA15⟩ : ∃ zz : Nat → Nat → Int32, (em_pbk A11 6) = zz := ⟨_, rfl⟩
    rw [eA15] at hM
    obtain ⟨I16, eI16⟩ : ∃ zz : Nat → Int32, (va_up I12 14 (I12 34)) = zz := ⟨_, rfl⟩
    rw [eI16] at hM
    have hSw14 : xv_S ws w14 b 24 := hSw10.trans (hsw14.mono (by omega) (by omega))
    refine lv_aload_n hx hb dX8_refusal_22 rfl (lv_at hl 0 rfl) ?_
    refine xg_get (C := RX8) (T := TX8) (N := 46) S hK hG (fun w h => List.mem_cons_of_mem _ (List.mem_append_right _ (h))) b hM.1 rfl 26 (by decide) k0 (fun _ h9 => h9) rfl dX8_refusal_23 ?_
    refine lv_if_lt (tgt := 34) hx hb dX8_refusal_26 (by decide) (fun c26 => ?_) (fun c26 => ?_)
    · skip
      refine lv_bipush (v := (-6)) hx hb dX8_refusal_34 (by decide) ?_
      rw [hQ]
      exact xg_emi S hr hlk hK hG ⟨(by subst eA3 eI4 eA7 eI8 eA11 eI12 eA15 eI16; (try simp only [va_up_ne, ne_eq, Nat.reduceEqDiff, not_false_eq_true] at c4 c26); simp only [em_rfR, em_jsw, em_sumr, em_rfR, c4, c26, if_true, if_false, Bool.false_eq_true, va_up_ne, ne_eq, Nat.reduceEqDiff, not_false_eq_true]), (by rw [show ((em_rfG A I n).1) = A15 from (by subst eA3 eI4 eA7 eI8 eA11 eI12 eA15 eI16; first | (simp only [em_rfG, em_rfG, em_pb, em_sumr, c4, c26, if_true, if_false, Bool.false_eq_true]; done) | (simp only [em_rfG, em_rfG, em_pb, em_sumr, c4, c26, if_true, if_false, Bool.false_eq_true]; rfl))]; rw [show ((em_rfG A I n).2) = I16 from (by subst eA3 eI4 eA7 eI8 eA11 eI12 eA15 eI16; first | (simp only [em_rfG, em_rfG, em_pb, em_sumr, c4, c26, if_true, if_false, Bool.false_eq_true]; done) | (simp only [em_rfG, em_rfG, em_pb, em_sumr, c4, c26, if_true, if_false, Bool.false_eq_true]; rfl))]; exact hM), hSw14⟩ dX8_refusal_36
    · skip
      refine lv_bipush (v := (-3)) hx hb dX8_refusal_29 (by decide) ?_
      refine lv_goto (tgt := 36) hx hb dX8_refusal_31 (by decide) ?_
      rw [hQ]
      exact xg_emi S hr hlk hK hG ⟨(by subst eA3 eI4 eA7 eI8 eA11 eI12 eA15 eI16; (try simp only [va_up_ne, ne_eq, Nat.reduceEqDiff, not_false_eq_true] at c4 c26); simp only [em_rfR, em_jsw, em_sumr, em_rfR, c4, c26, if_true, if_false, Bool.false_eq_true, va_up_ne, ne_eq, Nat.reduceEqDiff, not_false_eq_true]), (by rw [show ((em_rfG A I n).1) = A15 from (by subst eA3 eI4 eA7 eI8 eA11 eI12 eA15 eI16; first | (simp only [em_rfG, em_rfG, em_pb, em_sumr, c4, c26, if_true, if_false, Bool.false_eq_true]; done) | (simp only [em_rfG, em_rfG, em_pb, em_sumr, c4, c26, if_true, if_false, Bool.false_eq_true]; rfl))]; rw [show ((em_rfG A I n).2) = I16 from (by subst eA3 eI4 eA7 eI8 eA11 eI12 eA15 eI16; first | (simp only [em_rfG, em_rfG, em_pb, em_sumr, c4, c26, if_true, if_false, Bool.false_eq_true]; done) | (simp only [em_rfG, em_rfG, em_pb, em_sumr, c4, c26, if_true, if_false, Bool.false_eq_true]; rfl))]; exact hM), hSw14⟩ dX8_refusal_36
  · skip
    refine lv_bipush (v := (-5)) hx hb dX8_refusal_7 (by decide) ?_
    rw [hQ]
    exact xg_emi S hr hlk hK hG ⟨(by subst eA3 eI4; (try simp only [va_up_ne, ne_eq, Nat.reduceEqDiff, not_false_eq_true] at c4); simp only [em_rfR, em_jsw, em_sumr, em_rfR, c4, if_true, if_false, Bool.false_eq_true, va_up_ne, ne_eq, Nat.reduceEqDiff, not_false_eq_true]), (by rw [show ((em_rfG A I n).1) = A3 from (by subst eA3 eI4; first | (simp only [em_rfG, em_rfG, em_pb, em_sumr, c4, if_true, if_false, Bool.false_eq_true]; done) | (simp only [em_rfG, em_rfG, em_pb, em_sumr, c4, if_true, if_false, Bool.false_eq_true]; rfl))]; rw [show ((em_rfG A I n).2) = I4 from (by subst eA3 eI4; first | (simp only [em_rfG, em_rfG, em_pb, em_sumr, c4, if_true, if_false, Bool.false_eq_true]; done) | (simp only [em_rfG, em_rfG, em_pb, em_sumr, c4, if_true, if_false, Bool.false_eq_true]; rfl))]; exact hM), hSw2⟩ dX8_refusal_9
set_option maxHeartbeats 4000000 in
set_option maxRecDepth 100000 in
theorem mX8_judge (l : Launch) (D : va_G) (cI cZ : ClassId) (bs : Nat) (ad : Nat → Nat) (ws : va_W) (b : Nat) (A : Nat → Nat → Int32) (I : Nat → Int32) (L : Int64) (hM : xv_M cI cZ ad ws b A I L) (w9 : Int32) (n : Nat) (hn : I 20 = nI n) (hn60 : n ≤ 60) : Met l yX8_judge wsX8_judge ({ frames := 5, cells := 0, slots := 0, locals := 111 } : Room) (va_Pc [.ref (ad b), .int w9] (fun U => xg_W D cI cZ bs ws U)) (va_Qi (fun (r : Int32) (w : va_W) => r = em_jud A I n w9 ∧ xv_M cI cZ ad w b ((em_juG A I n w9).1) ((em_juG A I n w9).2) L ∧ xv_S ws w b 24) (fun w t => xg_W D cI cZ bs w t) (xg_A bs)) 0 0 (xg_A bs) := by
  refine xg_met cX8_judge 2 (some .int) RX8 (by decide) rfl rfl (Nat.le_of_ble_eq_true rfl) ?_
  intro pg en s m below meth c ls S hr hlk hnm hB hl
  have hK := hB.1
  have hG := xg_start hB
  obtain ⟨hx, hb, hml, hown, hts⟩ := id S
  have hl : lv_has ls 2 [(0, .ref (ad b)), (1, .int w9)] := hl
  obtain ⟨Q, hQ⟩ : ∃ Q, Q = MQ below (va_Qi (fun (r : Int32) (w : va_W) => r = em_jud A I n w9 ∧ xv_M cI cZ ad w b ((em_juG A I n w9).1) ((em_juG A I n w9).2) L ∧ xv_S ws w b 24) (fun w t => xg_W D cI cZ bs w t) (xg_A bs)) ([.ref (ad b), .int w9] : List Value).toArray s 0 0 (xg_A bs) := ⟨_, rfl⟩
  rw [← hQ]
  have k0 := hts (.constantLong RX8 217 (4)) (List.mem_of_getElem? (i := 1) rfl)
  have k1 := hts (.fieldLink RX8 194 "DareBridgeModel" "doubled" "I") (List.mem_of_getElem? (i := 6) rfl)
  have k2 := hts (.fieldLink RX8 191 "DareBridgeModel" "refused" "I") (List.mem_of_getElem? (i := 5) rfl)
  have k3 := hts (.fieldLink RX8 188 "DareBridgeModel" "did" "I") (List.mem_of_getElem? (i := 4) rfl)
  have k4 := hts (.fieldLink RX8 203 "DareBridgeModel" "badWhy" "I") (List.mem_of_getElem? (i := 3) rfl)
  have k5 := hts (.fieldLink RX8 200 "DareBridgeModel" "badEvent" "I") (List.mem_of_getElem? (i := 2) rfl)
  refine lv_iload_n hx hb dX8_judge_0 rfl (lv_at hl 1 rfl) ?_
  refine lv_i2l (v := w9.toInt64) hx hb dX8_judge_1 rfl ?_
  refine lv_lconst (v := 0) hx hb dX8_judge_2 (by decide) ?_
  refine lv_ldc2 (v := 4) hx hb hown k0 dX8_judge_3 ?_
  refine xg_ri (va_runS (As := [.long w9.toInt64, .long 0, .long 4]) (rest := []) S (mX8_in l D cI cZ bs ad ws w9.toInt64 0 4) (va_cwS 3 hts gX8_judge_X8_in rfl rfl rfl (by decide +kernel) ⟨Nat.le_of_ble_eq_true rfl, Nat.le_of_ble_eq_true rfl⟩) (xg_preS hK hG) rfl rfl hl.1 rfl (lv_room (Nat.le_of_ble_eq_true rfl)) dX8_judge_6 ⟨Nat.zero_le _, Nat.zero_le _⟩) (fun r1 hr1 => ?_)
  replace hr1 := hr1.symm; subst hr1
  rw [xw_inL_lit w9 0 4 0 4 (by decide) (by decide)]
  refine xb_ifne (tgt := 15) S dX8_judge_9 (by decide) (fun c9 => ?_) (fun c9 => ?_)
  · skip
    refine lv_aload_n hx hb dX8_judge_15 rfl (lv_at hl 0 rfl) ?_
    refine xg_mi (va_runV (As := []) (rest := []) S (mX8_fault l D cI cZ bs ad ws b A I L hM (by first | assumption | omega) (by first | assumption | omega) (by first | assumption | omega)) (cwV 0 hts gX8_judge_X8_fault rfl rfl rfl (by decide +kernel) ⟨Nat.le_of_ble_eq_true rfl, Nat.le_of_ble_eq_true rfl⟩) (xg_preV hK hG b hM.1 rfl rfl) rfl rfl hl.1 rfl (lv_room (Nat.le_of_ble_eq_true rfl)) dX8_judge_16 ⟨Nat.zero_le _, Nat.zero_le _⟩) hG (fun r2 w3 H locs hr2 hG => ?_)
    obtain ⟨hr2, hvw3_0, hsw3⟩ := hr2
    replace hr2 := hr2.symm; subst hr2
    have hM : xv_M cI cZ ad w3 b ((em_flt A I n).2.1) ((em_flt A I n).2.2) L := hvw3_0
    obtain ⟨A4, eA4⟩ : ∃ zz : Nat → Nat → Int32, ((em_flt A I n).2.1) = zz := ⟨_, rfl⟩
    rw [eA4] at hM
    obtain ⟨I5, eI5⟩ : ∃ zz : Nat → Int32, ((em_flt A I n).2.2) = zz := ⟨_, rfl⟩
    rw [eI5] at hM
    have hSw3 : xv_S ws w3 b 24 := hsw3.mono (by omega) (by omega)
    obtain ⟨e, hen, hee⟩ := em_flt_ev A I n
    refine lv_if_lt (tgt := 25) hx hb dX8_judge_19 (by decide) (fun c19 => ?_) (fun c19 => ?_)
    · skip
      refine lv_aload_n hx hb dX8_judge_25 rfl (lv_at hl 0 rfl) ?_
      refine xg_mv (va_runV (As := []) (rest := []) S (mX8_keepNow l D cI cZ bs ad w3 b A4 I5 L hM) (cwV 0 hts gX8_judge_X8_keepNow rfl rfl rfl (by decide +kernel) ⟨Nat.le_of_ble_eq_true rfl, Nat.le_of_ble_eq_true rfl⟩) (xg_preV hK hG b hM.1 rfl rfl) rfl rfl hl.1 rfl (lv_room (Nat.le_of_ble_eq_true rfl)) dX8_judge_26 ⟨Nat.zero_le _, Nat.zero_le _⟩) hG (fun w7 H locs hr6 hG => ?_)
      obtain ⟨hvw7_0, hsw7⟩ := hr6
      have hM : xv_M cI cZ ad w7 b (em_kpk A4 6) (va_up I5 34 (I5 14)) L := hvw7_0
      obtain ⟨A8, eA8⟩ : ∃ zz : Nat → Nat → Int32, (em_kpk A4 6) = zz := ⟨_, rfl⟩
      rw [eA8] at hM
      obtain ⟨I9, eI9⟩ : ∃ zz : Nat → Int32, (va_up I5 34 (I5 14)) = zz := ⟨_, rfl⟩
      rw [eI9] at hM
      have hSw7 : xv_S ws w7 b 24 := hSw3.trans (hsw7.mono (by omega) (by omega))
      refine lv_aload_n hx hb dX8_judge_29 rfl (lv_at hl 0 rfl) ?_
      refine xg_mv (va_runV (As := []) (rest := []) S (mX8_goSummer l D cI cZ bs ad w7 b A8 I9 L hM e (by subst eA4 eI5 eA8 eI9; rw [va_up_ne _ _ (by decide)]; exact hee) (by omega)) (cwV 0 hts gX8_judge_X8_goSummer rfl rfl rfl (by decide +kernel) ⟨Nat.le_of_ble_eq_true rfl, Nat.le_of_ble_eq_true rfl⟩) (xg_preV hK hG b hM.1 rfl rfl) rfl rfl hl.1 rfl (lv_room (Nat.le_of_ble_eq_true rfl)) dX8_judge_30 ⟨Nat.zero_le _, Nat.zero_le _⟩) hG (fun w11 H locs hr10 hG => ?_)
      obtain ⟨hvw11_0, hsw11⟩ := hr10
      have hM : xv_M cI cZ ad w11 b ((em_gos A8 I9).1) ((em_gos A8 I9).2) L := hvw11_0
      obtain ⟨A12, eA12⟩ : ∃ zz : Nat → Nat → Int32, ((em_gos A8 I9).1) = zz := ⟨_, rfl⟩
      rw [eA12] at hM
      obtain ⟨I13, eI13⟩ : ∃ zz : Nat → Int32, ((em_gos A8 I9).2) = zz := ⟨_, rfl⟩
      rw [eI13] at hM
      have hSw11 : xv_S ws w11 b 24 := hSw7.trans (hsw11.mono (by omega) (by omega))
      refine lv_aload_n hx hb dX8_judge_33 rfl (lv_at hl 0 rfl) ?_
      refine xg_mv (va_runV (As := []) (rest := []) S (mX8_putBack l D cI cZ bs ad w11 b A12 I13 L hM) (cwV 0 hts gX8_judge_X8_putBack rfl rfl rfl (by decide +kernel) ⟨Nat.le_of_ble_eq_true rfl, Nat.le_of_ble_eq_true rfl⟩) (xg_preV hK hG b hM.1 rfl rfl) rfl rfl hl.1 rfl (lv_room (Nat.le_of_ble_eq_true rfl)) dX8_judge_34 ⟨Nat.zero_le _, Nat.zero_le _⟩) hG (fun w15 H locs hr14 hG => ?_)
      obtain ⟨hvw15_0, hsw15⟩ := hr14
      have hM : xv_M cI cZ ad w15 b (em_pbk A12 6) (va_up I13 14 (I13 34)) L := hvw15_0
      obtain ⟨A16, eA16⟩ : ∃ zz : Nat → Nat → Int32, (em_pbk A12 6) = zz := ⟨_, rfl⟩
      rw [eA16] at hM
      obtain ⟨I17, eI17⟩ : ∃ zz : Nat → Int32, (va_up I13 14 (I13 34)) = zz := ⟨_, rfl⟩
      rw [eI17] at hM
      have hSw15 : xv_S ws w15 b 24 := hSw11.trans (hsw15.mono (by omega) (by omega))
      refine lv_iload_n hx hb dX8_judge_37 rfl (lv_at hl 1 rfl) ?_
      refine lv_iconst (v := 1) hx hb dX8_judge_38 (by decide) ?_
      refine lv_icmp_le (tgt := 52) hx hb dX8_judge_39 (by decide) (fun c39 => ?_) (fun c39 => ?_)
      · skip
        refine lv_iload_n hx hb dX8_judge_52 rfl (lv_at hl 1 rfl) ?_
        refine lv_if_ne (tgt := 63) hx hb dX8_judge_53 (by decide) (fun c53 => ?_) (fun c53 => ?_)
        · skip
          refine lv_iload_n hx hb dX8_judge_63 rfl (lv_at hl 1 rfl) ?_
          refine lv_iconst (v := 1) hx hb dX8_judge_64 (by decide) ?_
          refine lv_icmp_ne (tgt := 75) hx hb dX8_judge_65 (by decide) (fun c65 => ?_) (fun c65 => ?_)
          · skip
            refine lv_iload_n hx hb dX8_judge_75 rfl (lv_at hl 1 rfl) ?_
            refine lv_iconst (v := 2) hx hb dX8_judge_76 (by decide) ?_
            refine lv_icmp_ne (tgt := 87) hx hb dX8_judge_77 (by decide) (fun c77 => ?_) (fun c77 => ?_)
            · skip
              refine lv_iload_n hx hb dX8_judge_87 rfl (lv_at hl 1 rfl) ?_
              refine lv_iconst (v := 3) hx hb dX8_judge_88 (by decide) ?_
              refine lv_icmp_ne (tgt := 99) hx hb dX8_judge_89 (by decide) (fun c89 => ?_) (fun c89 => ?_)
              · skip
                refine lv_aload_n hx hb dX8_judge_99 rfl (lv_at hl 0 rfl) ?_
                refine xg_get (C := RX8) (T := TX8) (N := 46) S hK hG (fun w h => List.mem_cons_of_mem _ (List.mem_append_right _ (h))) b hM.1 rfl 30 (by decide) k1 (fun _ h9 => h9) rfl dX8_judge_100 ?_
                rw [hQ]
                exact xg_emi S hr hlk hK hG ⟨(by subst eA4 eI5 eA8 eI9 eA12 eI13 eA16 eI17; (try simp only [va_up_ne, ne_eq, Nat.reduceEqDiff, not_false_eq_true] at c9 c19 c39 c53 c65 c77 c89); unfold em_jud em_jsw em_sumr; rw [if_pos c9, if_pos c19]; (first | rw [if_pos c39] | rw [if_neg c39, if_pos c46]); simp only [c9, c19, c39, c53, c65, c77, c89, xs_10, xs_20, xs_21, xs_30, xs_31, xs_32, if_true, if_false, va_up_ne, ne_eq, Nat.reduceEqDiff, not_false_eq_true]), (by rw [show ((em_juG A I n w9).1) = A16 from (by subst eA4 eI5 eA8 eI9 eA12 eI13 eA16 eI17; first | (simp only [em_juG, em_rfG, em_pb, em_sumr, c9, c19, c39, c53, c65, c77, c89, if_true, if_false, Bool.false_eq_true]; done) | (simp only [em_juG, em_rfG, em_pb, em_sumr, c9, c19, c39, c53, c65, c77, c89, if_true, if_false, Bool.false_eq_true]; rfl))]; rw [show ((em_juG A I n w9).2) = I17 from (by subst eA4 eI5 eA8 eI9 eA12 eI13 eA16 eI17; first | (simp only [em_juG, em_rfG, em_pb, em_sumr, c9, c19, c39, c53, c65, c77, c89, if_true, if_false, Bool.false_eq_true]; done) | (simp only [em_juG, em_rfG, em_pb, em_sumr, c9, c19, c39, c53, c65, c77, c89, if_true, if_false, Bool.false_eq_true]; rfl))]; exact hM), hSw15⟩ dX8_judge_103
              · skip
                refine lv_aload_n hx hb dX8_judge_92 rfl (lv_at hl 0 rfl) ?_
                refine xg_get (C := RX8) (T := TX8) (N := 46) S hK hG (fun w h => List.mem_cons_of_mem _ (List.mem_append_right _ (h))) b hM.1 rfl 29 (by decide) k2 (fun _ h9 => h9) rfl dX8_judge_93 ?_
                refine lv_goto (tgt := 103) hx hb dX8_judge_96 (by decide) ?_
                rw [hQ]
                exact xg_emi S hr hlk hK hG ⟨(by subst eA4 eI5 eA8 eI9 eA12 eI13 eA16 eI17; (try simp only [va_up_ne, ne_eq, Nat.reduceEqDiff, not_false_eq_true] at c9 c19 c39 c53 c65 c77 c89); unfold em_jud em_jsw em_sumr; rw [if_pos c9, if_pos c19]; (first | rw [if_pos c39] | rw [if_neg c39, if_pos c46]); simp only [c9, c19, c39, c53, c65, c77, c89, xs_10, xs_20, xs_21, xs_30, xs_31, xs_32, if_true, if_false, va_up_ne, ne_eq, Nat.reduceEqDiff, not_false_eq_true]), (by rw [show ((em_juG A I n w9).1) = A16 from (by subst eA4 eI5 eA8 eI9 eA12 eI13 eA16 eI17; first | (simp only [em_juG, em_rfG, em_pb, em_sumr, c9, c19, c39, c53, c65, c77, c89, if_true, if_false, Bool.false_eq_true]; done) | (simp only [em_juG, em_rfG, em_pb, em_sumr, c9, c19, c39, c53, c65, c77, c89, if_true, if_false, Bool.false_eq_true]; rfl))]; rw [show ((em_juG A I n w9).2) = I17 from (by subst eA4 eI5 eA8 eI9 eA12 eI13 eA16 eI17; first | (simp only [em_juG, em_rfG, em_pb, em_sumr, c9, c19, c39, c53, c65, c77, c89, if_true, if_false, Bool.false_eq_true]; done) | (simp only [em_juG, em_rfG, em_pb, em_sumr, c9, c19, c39, c53, c65, c77, c89, if_true, if_false, Bool.false_eq_true]; rfl))]; exact hM), hSw15⟩ dX8_judge_103
            · skip
              refine lv_aload_n hx hb dX8_judge_80 rfl (lv_at hl 0 rfl) ?_
              refine xg_get (C := RX8) (T := TX8) (N := 46) S hK hG (fun w h => List.mem_cons_of_mem _ (List.mem_append_right _ (h))) b hM.1 rfl 28 (by decide) k3 (fun _ h9 => h9) rfl dX8_judge_81 ?_
              refine lv_goto (tgt := 103) hx hb dX8_judge_84 (by decide) ?_
              rw [hQ]
              exact xg_emi S hr hlk hK hG ⟨(by subst eA4 eI5 eA8 eI9 eA12 eI13 eA16 eI17; (try simp only [va_up_ne, ne_eq, Nat.reduceEqDiff, not_false_eq_true] at c9 c19 c39 c53 c65 c77); unfold em_jud em_jsw em_sumr; rw [if_pos c9, if_pos c19]; (first | rw [if_pos c39] | rw [if_neg c39, if_pos c46]); simp only [c9, c19, c39, c53, c65, c77, xs_10, xs_20, xs_21, xs_30, xs_31, xs_32, if_true, if_false, va_up_ne, ne_eq, Nat.reduceEqDiff, not_false_eq_true]), (by rw [show ((em_juG A I n w9).1) = A16 from (by subst eA4 eI5 eA8 eI9 eA12 eI13 eA16 eI17; first | (simp only [em_juG, em_rfG, em_pb, em_sumr, c9, c19, c39, c53, c65, c77, if_true, if_false, Bool.false_eq_true]; done) | (simp only [em_juG, em_rfG, em_pb, em_sumr, c9, c19, c39, c53, c65, c77, if_true, if_false, Bool.false_eq_true]; rfl))]; rw [show ((em_juG A I n w9).2) = I17 from (by subst eA4 eI5 eA8 eI9 eA12 eI13 eA16 eI17; first | (simp only [em_juG, em_rfG, em_pb, em_sumr, c9, c19, c39, c53, c65, c77, if_true, if_false, Bool.false_eq_true]; done) | (simp only [em_juG, em_rfG, em_pb, em_sumr, c9, c19, c39, c53, c65, c77, if_true, if_false, Bool.false_eq_true]; rfl))]; exact hM), hSw15⟩ dX8_judge_103
          · skip
            refine lv_aload_n hx hb dX8_judge_68 rfl (lv_at hl 0 rfl) ?_
            refine xg_get (C := RX8) (T := TX8) (N := 46) S hK hG (fun w h => List.mem_cons_of_mem _ (List.mem_append_right _ (h))) b hM.1 rfl 27 (by decide) k4 (fun _ h9 => h9) rfl dX8_judge_69 ?_
            refine lv_goto (tgt := 103) hx hb dX8_judge_72 (by decide) ?_
            rw [hQ]
            exact xg_emi S hr hlk hK hG ⟨(by subst eA4 eI5 eA8 eI9 eA12 eI13 eA16 eI17; (try simp only [va_up_ne, ne_eq, Nat.reduceEqDiff, not_false_eq_true] at c9 c19 c39 c53 c65); unfold em_jud em_jsw em_sumr; rw [if_pos c9, if_pos c19]; (first | rw [if_pos c39] | rw [if_neg c39, if_pos c46]); simp only [c9, c19, c39, c53, c65, xs_10, xs_20, xs_21, xs_30, xs_31, xs_32, if_true, if_false, va_up_ne, ne_eq, Nat.reduceEqDiff, not_false_eq_true]), (by rw [show ((em_juG A I n w9).1) = A16 from (by subst eA4 eI5 eA8 eI9 eA12 eI13 eA16 eI17; first | (simp only [em_juG, em_rfG, em_pb, em_sumr, c9, c19, c39, c53, c65, if_true, if_false, Bool.false_eq_true]; done) | (simp only [em_juG, em_rfG, em_pb, em_sumr, c9, c19, c39, c53, c65, if_true, if_false, Bool.false_eq_true]; rfl))]; rw [show ((em_juG A I n w9).2) = I17 from (by subst eA4 eI5 eA8 eI9 eA12 eI13 eA16 eI17; first | (simp only [em_juG, em_rfG, em_pb, em_sumr, c9, c19, c39, c53, c65, if_true, if_false, Bool.false_eq_true]; done) | (simp only [em_juG, em_rfG, em_pb, em_sumr, c9, c19, c39, c53, c65, if_true, if_false, Bool.false_eq_true]; rfl))]; exact hM), hSw15⟩ dX8_judge_103
        · skip
          refine lv_aload_n hx hb dX8_judge_56 rfl (lv_at hl 0 rfl) ?_
          refine xg_get (C := RX8) (T := TX8) (N := 46) S hK hG (fun w h => List.mem_cons_of_mem _ (List.mem_append_right _ (h))) b hM.1 rfl 26 (by decide) k5 (fun _ h9 => h9) rfl dX8_judge_57 ?_
          refine lv_goto (tgt := 103) hx hb dX8_judge_60 (by decide) ?_
          rw [hQ]
          exact xg_emi S hr hlk hK hG ⟨(by subst eA4 eI5 eA8 eI9 eA12 eI13 eA16 eI17; (try simp only [va_up_ne, ne_eq, Nat.reduceEqDiff, not_false_eq_true] at c9 c19 c39 c53); unfold em_jud em_jsw em_sumr; rw [if_pos c9, if_pos c19]; (first | rw [if_pos c39] | rw [if_neg c39, if_pos c46]); simp only [c9, c19, c39, c53, xs_10, xs_20, xs_21, xs_30, xs_31, xs_32, if_true, if_false, va_up_ne, ne_eq, Nat.reduceEqDiff, not_false_eq_true]), (by rw [show ((em_juG A I n w9).1) = A16 from (by subst eA4 eI5 eA8 eI9 eA12 eI13 eA16 eI17; first | (simp only [em_juG, em_rfG, em_pb, em_sumr, c9, c19, c39, c53, if_true, if_false, Bool.false_eq_true]; done) | (simp only [em_juG, em_rfG, em_pb, em_sumr, c9, c19, c39, c53, if_true, if_false, Bool.false_eq_true]; rfl))]; rw [show ((em_juG A I n w9).2) = I17 from (by subst eA4 eI5 eA8 eI9 eA12 eI13 eA16 eI17; first | (simp only [em_juG, em_rfG, em_pb, em_sumr, c9, c19, c39, c53, if_true, if_false, Bool.false_eq_true]; done) | (simp only [em_juG, em_rfG, em_pb, em_sumr, c9, c19, c39, c53, if_true, if_false, Bool.false_eq_true]; rfl))]; exact hM), hSw15⟩ dX8_judge_103
      · skip
        refine lv_aload_n hx hb dX8_judge_42 rfl (lv_at hl 0 rfl) ?_
        refine xg_get (C := RX8) (T := TX8) (N := 46) S hK hG (fun w h => List.mem_cons_of_mem _ (List.mem_append_right _ (h))) b hM.1 rfl 26 (by decide) k5 (fun _ h9 => h9) rfl dX8_judge_43 ?_
        refine lv_if_lt (tgt := 52) hx hb dX8_judge_46 (by decide) (fun c46 => ?_) (fun c46 => ?_)
        · skip
          refine lv_iload_n hx hb dX8_judge_52 rfl (lv_at hl 1 rfl) ?_
          refine lv_if_ne (tgt := 63) hx hb dX8_judge_53 (by decide) (fun c53 => ?_) (fun c53 => ?_)
          · skip
            refine lv_iload_n hx hb dX8_judge_63 rfl (lv_at hl 1 rfl) ?_
            refine lv_iconst (v := 1) hx hb dX8_judge_64 (by decide) ?_
            refine lv_icmp_ne (tgt := 75) hx hb dX8_judge_65 (by decide) (fun c65 => ?_) (fun c65 => ?_)
            · skip
              refine lv_iload_n hx hb dX8_judge_75 rfl (lv_at hl 1 rfl) ?_
              refine lv_iconst (v := 2) hx hb dX8_judge_76 (by decide) ?_
              refine lv_icmp_ne (tgt := 87) hx hb dX8_judge_77 (by decide) (fun c77 => ?_) (fun c77 => ?_)
              · skip
                refine lv_iload_n hx hb dX8_judge_87 rfl (lv_at hl 1 rfl) ?_
                refine lv_iconst (v := 3) hx hb dX8_judge_88 (by decide) ?_
                refine lv_icmp_ne (tgt := 99) hx hb dX8_judge_89 (by decide) (fun c89 => ?_) (fun c89 => ?_)
                · skip
                  refine lv_aload_n hx hb dX8_judge_99 rfl (lv_at hl 0 rfl) ?_
                  refine xg_get (C := RX8) (T := TX8) (N := 46) S hK hG (fun w h => List.mem_cons_of_mem _ (List.mem_append_right _ (h))) b hM.1 rfl 30 (by decide) k1 (fun _ h9 => h9) rfl dX8_judge_100 ?_
                  rw [hQ]
                  exact xg_emi S hr hlk hK hG ⟨(by subst eA4 eI5 eA8 eI9 eA12 eI13 eA16 eI17; (try simp only [va_up_ne, ne_eq, Nat.reduceEqDiff, not_false_eq_true] at c9 c19 c39 c46 c53 c65 c77 c89); unfold em_jud em_jsw em_sumr; rw [if_pos c9, if_pos c19]; (first | rw [if_pos c39] | rw [if_neg c39, if_pos c46]); simp only [c9, c19, c39, c46, c53, c65, c77, c89, xs_10, xs_20, xs_21, xs_30, xs_31, xs_32, if_true, if_false, va_up_ne, ne_eq, Nat.reduceEqDiff, not_false_eq_true]), (by rw [show ((em_juG A I n w9).1) = A16 from (by subst eA4 eI5 eA8 eI9 eA12 eI13 eA16 eI17; first | (simp only [em_juG, em_rfG, em_pb, em_sumr, c9, c19, c39, c46, c53, c65, c77, c89, if_true, if_false, Bool.false_eq_true]; done) | (simp only [em_juG, em_rfG, em_pb, em_sumr, c9, c19, c39, c46, c53, c65, c77, c89, if_true, if_false, Bool.false_eq_true]; rfl))]; rw [show ((em_juG A I n w9).2) = I17 from (by subst eA4 eI5 eA8 eI9 eA12 eI13 eA16 eI17; first | (simp only [em_juG, em_rfG, em_pb, em_sumr, c9, c19, c39, c46, c53, c65, c77, c89, if_true, if_false, Bool.false_eq_true]; done) | (simp only [em_juG, em_rfG, em_pb, em_sumr, c9, c19, c39, c46, c53, c65, c77, c89, if_true, if_false, Bool.false_eq_true]; rfl))]; exact hM), hSw15⟩ dX8_judge_103
                · skip
                  refine lv_aload_n hx hb dX8_judge_92 rfl (lv_at hl 0 rfl) ?_
                  refine xg_get (C := RX8) (T := TX8) (N := 46) S hK hG (fun w h => List.mem_cons_of_mem _ (List.mem_append_right _ (h))) b hM.1 rfl 29 (by decide) k2 (fun _ h9 => h9) rfl dX8_judge_93 ?_
                  refine lv_goto (tgt := 103) hx hb dX8_judge_96 (by decide) ?_
                  rw [hQ]
                  exact xg_emi S hr hlk hK hG ⟨(by subst eA4 eI5 eA8 eI9 eA12 eI13 eA16 eI17; (try simp only [va_up_ne, ne_eq, Nat.reduceEqDiff, not_false_eq_true] at c9 c19 c39 c46 c53 c65 c77 c89); unfold em_jud em_jsw em_sumr; rw [if_pos c9, if_pos c19]; (first | rw [if_pos c39] | rw [if_neg c39, if_pos c46]); simp only [c9, c19, c39, c46, c53, c65, c77, c89, xs_10, xs_20, xs_21, xs_30, xs_31, xs_32, if_true, if_false, va_up_ne, ne_eq, Nat.reduceEqDiff, not_false_eq_true]), (by rw [show ((em_juG A I n w9).1) = A16 from (by subst eA4 eI5 eA8 eI9 eA12 eI13 eA16 eI17; first | (simp only [em_juG, em_rfG, em_pb, em_sumr, c9, c19, c39, c46, c53, c65, c77, c89, if_true, if_false, Bool.false_eq_true]; done) | (simp only [em_juG, em_rfG, em_pb, em_sumr, c9, c19, c39, c46, c53, c65, c77, c89, if_true, if_false, Bool.false_eq_true]; rfl))]; rw [show ((em_juG A I n w9).2) = I17 from (by subst eA4 eI5 eA8 eI9 eA12 eI13 eA16 eI17; first | (simp only [em_juG, em_rfG, em_pb, em_sumr, c9, c19, c39, c46, c53, c65, c77, c89, if_true, if_false, Bool.false_eq_true]; done) | (simp only [em_juG, em_rfG, em_pb, em_sumr, c9, c19, c39, c46, c53, c65, c77, c89, if_true, if_false, Bool.false_eq_true]; rfl))]; exact hM), hSw15⟩ dX8_judge_103
              · skip
                refine lv_aload_n hx hb dX8_judge_80 rfl (lv_at hl 0 rfl) ?_
                refine xg_get (C := RX8) (T := TX8) (N := 46) S hK hG (fun w h => List.mem_cons_of_mem _ (List.mem_append_right _ (h))) b hM.1 rfl 28 (by decide) k3 (fun _ h9 => h9) rfl dX8_judge_81 ?_
                refine lv_goto (tgt := 103) hx hb dX8_judge_84 (by decide) ?_
                rw [hQ]
                exact xg_emi S hr hlk hK hG ⟨(by subst eA4 eI5 eA8 eI9 eA12 eI13 eA16 eI17; (try simp only [va_up_ne, ne_eq, Nat.reduceEqDiff, not_false_eq_true] at c9 c19 c39 c46 c53 c65 c77); unfold em_jud em_jsw em_sumr; rw [if_pos c9, if_pos c19]; (first | rw [if_pos c39] | rw [if_neg c39, if_pos c46]); simp only [c9, c19, c39, c46, c53, c65, c77, xs_10, xs_20, xs_21, xs_30, xs_31, xs_32, if_true, if_false, va_up_ne, ne_eq, Nat.reduceEqDiff, not_false_eq_true]), (by rw [show ((em_juG A I n w9).1) = A16 from (by subst eA4 eI5 eA8 eI9 eA12 eI13 eA16 eI17; first | (simp only [em_juG, em_rfG, em_pb, em_sumr, c9, c19, c39, c46, c53, c65, c77, if_true, if_false, Bool.false_eq_true]; done) | (simp only [em_juG, em_rfG, em_pb, em_sumr, c9, c19, c39, c46, c53, c65, c77, if_true, if_false, Bool.false_eq_true]; rfl))]; rw [show ((em_juG A I n w9).2) = I17 from (by subst eA4 eI5 eA8 eI9 eA12 eI13 eA16 eI17; first | (simp only [em_juG, em_rfG, em_pb, em_sumr, c9, c19, c39, c46, c53, c65, c77, if_true, if_false, Bool.false_eq_true]; done) | (simp only [em_juG, em_rfG, em_pb, em_sumr, c9, c19, c39, c46, c53, c65, c77, if_true, if_false, Bool.false_eq_true]; rfl))]; exact hM), hSw15⟩ dX8_judge_103
            · skip
              refine lv_aload_n hx hb dX8_judge_68 rfl (lv_at hl 0 rfl) ?_
              refine xg_get (C := RX8) (T := TX8) (N := 46) S hK hG (fun w h => List.mem_cons_of_mem _ (List.mem_append_right _ (h))) b hM.1 rfl 27 (by decide) k4 (fun _ h9 => h9) rfl dX8_judge_69 ?_
              refine lv_goto (tgt := 103) hx hb dX8_judge_72 (by decide) ?_
              rw [hQ]
              exact xg_emi S hr hlk hK hG ⟨(by subst eA4 eI5 eA8 eI9 eA12 eI13 eA16 eI17; (try simp only [va_up_ne, ne_eq, Nat.reduceEqDiff, not_false_eq_true] at c9 c19 c39 c46 c53 c65); unfold em_jud em_jsw em_sumr; rw [if_pos c9, if_pos c19]; (first | rw [if_pos c39] | rw [if_neg c39, if_pos c46]); simp only [c9, c19, c39, c46, c53, c65, xs_10, xs_20, xs_21, xs_30, xs_31, xs_32, if_true, if_false, va_up_ne, ne_eq, Nat.reduceEqDiff, not_false_eq_true]), (by rw [show ((em_juG A I n w9).1) = A16 from (by subst eA4 eI5 eA8 eI9 eA12 eI13 eA16 eI17; first | (simp only [em_juG, em_rfG, em_pb, em_sumr, c9, c19, c39, c46, c53, c65, if_true, if_false, Bool.false_eq_true]; done) | (simp only [em_juG, em_rfG, em_pb, em_sumr, c9, c19, c39, c46, c53, c65, if_true, if_false, Bool.false_eq_true]; rfl))]; rw [show ((em_juG A I n w9).2) = I17 from (by subst eA4 eI5 eA8 eI9 eA12 eI13 eA16 eI17; first | (simp only [em_juG, em_rfG, em_pb, em_sumr, c9, c19, c39, c46, c53, c65, if_true, if_false, Bool.false_eq_true]; done) | (simp only [em_juG, em_rfG, em_pb, em_sumr, c9, c19, c39, c46, c53, c65, if_true, if_false, Bool.false_eq_true]; rfl))]; exact hM), hSw15⟩ dX8_judge_103
          · skip
            refine lv_aload_n hx hb dX8_judge_56 rfl (lv_at hl 0 rfl) ?_
            refine xg_get (C := RX8) (T := TX8) (N := 46) S hK hG (fun w h => List.mem_cons_of_mem _ (List.mem_append_right _ (h))) b hM.1 rfl 26 (by decide) k5 (fun _ h9 => h9) rfl dX8_judge_57 ?_
            refine lv_goto (tgt := 103) hx hb dX8_judge_60 (by decide) ?_
            rw [hQ]
            exact xg_emi S hr hlk hK hG ⟨(by subst eA4 eI5 eA8 eI9 eA12 eI13 eA16 eI17; (try simp only [va_up_ne, ne_eq, Nat.reduceEqDiff, not_false_eq_true] at c9 c19 c39 c46 c53); unfold em_jud em_jsw em_sumr; rw [if_pos c9, if_pos c19]; (first | rw [if_pos c39] | rw [if_neg c39, if_pos c46]); simp only [c9, c19, c39, c46, c53, xs_10, xs_20, xs_21, xs_30, xs_31, xs_32, if_true, if_false, va_up_ne, ne_eq, Nat.reduceEqDiff, not_false_eq_true]), (by rw [show ((em_juG A I n w9).1) = A16 from (by subst eA4 eI5 eA8 eI9 eA12 eI13 eA16 eI17; first | (simp only [em_juG, em_rfG, em_pb, em_sumr, c9, c19, c39, c46, c53, if_true, if_false, Bool.false_eq_true]; done) | (simp only [em_juG, em_rfG, em_pb, em_sumr, c9, c19, c39, c46, c53, if_true, if_false, Bool.false_eq_true]; rfl))]; rw [show ((em_juG A I n w9).2) = I17 from (by subst eA4 eI5 eA8 eI9 eA12 eI13 eA16 eI17; first | (simp only [em_juG, em_rfG, em_pb, em_sumr, c9, c19, c39, c46, c53, if_true, if_false, Bool.false_eq_true]; done) | (simp only [em_juG, em_rfG, em_pb, em_sumr, c9, c19, c39, c46, c53, if_true, if_false, Bool.false_eq_true]; rfl))]; exact hM), hSw15⟩ dX8_judge_103
        · skip
          refine lv_bipush (v := (-3)) hx hb dX8_judge_49 (by decide) ?_
          rw [hQ]
          exact xg_emi S hr hlk hK hG ⟨(by subst eA4 eI5 eA8 eI9 eA12 eI13 eA16 eI17; (try simp only [va_up_ne, ne_eq, Nat.reduceEqDiff, not_false_eq_true] at c9 c19 c39 c46); simp only [em_jud, em_jsw, em_sumr, em_rfR, c9, c19, c39, c46, if_true, if_false, Bool.false_eq_true, va_up_ne, ne_eq, Nat.reduceEqDiff, not_false_eq_true]), (by rw [show ((em_juG A I n w9).1) = A16 from (by subst eA4 eI5 eA8 eI9 eA12 eI13 eA16 eI17; first | (simp only [em_juG, em_rfG, em_pb, em_sumr, c9, c19, c39, c46, if_true, if_false, Bool.false_eq_true]; done) | (simp only [em_juG, em_rfG, em_pb, em_sumr, c9, c19, c39, c46, if_true, if_false, Bool.false_eq_true]; rfl))]; rw [show ((em_juG A I n w9).2) = I17 from (by subst eA4 eI5 eA8 eI9 eA12 eI13 eA16 eI17; first | (simp only [em_juG, em_rfG, em_pb, em_sumr, c9, c19, c39, c46, if_true, if_false, Bool.false_eq_true]; done) | (simp only [em_juG, em_rfG, em_pb, em_sumr, c9, c19, c39, c46, if_true, if_false, Bool.false_eq_true]; rfl))]; exact hM), hSw15⟩ dX8_judge_51
    · skip
      refine lv_bipush (v := (-5)) hx hb dX8_judge_22 (by decide) ?_
      rw [hQ]
      exact xg_emi S hr hlk hK hG ⟨(by subst eA4 eI5; (try simp only [va_up_ne, ne_eq, Nat.reduceEqDiff, not_false_eq_true] at c9 c19); simp only [em_jud, em_jsw, em_sumr, em_rfR, c9, c19, if_true, if_false, Bool.false_eq_true, va_up_ne, ne_eq, Nat.reduceEqDiff, not_false_eq_true]), (by rw [show ((em_juG A I n w9).1) = A4 from (by subst eA4 eI5; first | (simp only [em_juG, em_rfG, em_pb, em_sumr, c9, c19, if_true, if_false, Bool.false_eq_true]; done) | (simp only [em_juG, em_rfG, em_pb, em_sumr, c9, c19, if_true, if_false, Bool.false_eq_true]; rfl))]; rw [show ((em_juG A I n w9).2) = I5 from (by subst eA4 eI5; first | (simp only [em_juG, em_rfG, em_pb, em_sumr, c9, c19, if_true, if_false, Bool.false_eq_true]; done) | (simp only [em_juG, em_rfG, em_pb, em_sumr, c9, c19, if_true, if_false, Bool.false_eq_true]; rfl))]; exact hM), hSw3⟩ dX8_judge_24
  · skip
    refine lv_bipush (v := (-2)) hx hb dX8_judge_12 (by decide) ?_
    rw [hQ]
    exact xg_emi S hr hlk hK hG ⟨(by skip; (try simp only [va_up_ne, ne_eq, Nat.reduceEqDiff, not_false_eq_true] at c9); simp only [em_jud, em_jsw, em_sumr, em_rfR, c9, if_true, if_false, Bool.false_eq_true, va_up_ne, ne_eq, Nat.reduceEqDiff, not_false_eq_true]), (by rw [show ((em_juG A I n w9).1) = A from (by skip; first | (simp only [em_juG, em_rfG, em_pb, em_sumr, c9, if_true, if_false, Bool.false_eq_true]; done) | (simp only [em_juG, em_rfG, em_pb, em_sumr, c9, if_true, if_false, Bool.false_eq_true]; rfl))]; rw [show ((em_juG A I n w9).2) = I from (by skip; first | (simp only [em_juG, em_rfG, em_pb, em_sumr, c9, if_true, if_false, Bool.false_eq_true]; done) | (simp only [em_juG, em_rfG, em_pb, em_sumr, c9, if_true, if_false, Bool.false_eq_true]; rfl))]; exact hM), xv_S.rf⟩ dX8_judge_14
set_option maxHeartbeats 4000000 in
set_option maxRecDepth 100000 in
theorem mX8_behind (l : Launch) (D : va_G) (cI cZ : ClassId) (bs : Nat) (ad : Nat → Nat) (ws : va_W) (b : Nat) (A : Nat → Nat → Int32) (I : Nat → Int32) (L : Int64) (hM : xv_M cI cZ ad ws b A I L) (p : Int32) (w9 : Int32) (n : Nat) (hn : I 20 = nI n) (hn60 : n ≤ 60) : Met l yX8_behind wsX8_behind ({ frames := 5, cells := 0, slots := 0, locals := 111 } : Room) (va_Pc [.ref (ad b), .int p, .int w9] (fun U => xg_W D cI cZ bs ws U)) (va_Qi (fun (r : Int32) (w : va_W) => r = em_beh A I n p w9 ∧ xv_M cI cZ ad w b ((em_beG A I n p w9).1) ((em_beG A I n p w9).2) L ∧ xv_S ws w b 24) (fun w t => xg_W D cI cZ bs w t) (xg_A bs)) 0 0 (xg_A bs) := by
  refine xg_met cX8_behind 4 (some .int) RX8 (by decide) rfl rfl (Nat.le_of_ble_eq_true rfl) ?_
  intro pg en s m below meth c ls S hr hlk hnm hB hl
  have hK := hB.1
  have hG := xg_start hB
  obtain ⟨hx, hb, hml, hown, hts⟩ := id S
  have hl : lv_has ls 4 [(0, .ref (ad b)), (1, .int p), (2, .int w9)] := hl
  obtain ⟨Q, hQ⟩ : ∃ Q, Q = MQ below (va_Qi (fun (r : Int32) (w : va_W) => r = em_beh A I n p w9 ∧ xv_M cI cZ ad w b ((em_beG A I n p w9).1) ((em_beG A I n p w9).2) L ∧ xv_S ws w b 24) (fun w t => xg_W D cI cZ bs w t) (xg_A bs)) ([.ref (ad b), .int p, .int w9] : List Value).toArray s 0 0 (xg_A bs) := ⟨_, rfl⟩
  rw [← hQ]
  have k0 := hts (.constantLong RX8 231 (2)) (List.mem_of_getElem? (i := 1) rfl)
  have k1 := hts (.fieldLink RX8 200 "DareBridgeModel" "badEvent" "I") (List.mem_of_getElem? (i := 2) rfl)
  refine lv_aload_n hx hb dX8_behind_0 rfl (lv_at hl 0 rfl) ?_
  refine lv_iload_n hx hb dX8_behind_1 rfl (lv_at hl 1 rfl) ?_
  refine xg_ri (va_runV (As := [.int p]) (rest := []) S (mX8_isThere l D cI cZ bs ad ws b A I L hM p) (cwV 1 hts gX8_behind_X8_isThere rfl rfl rfl (by decide +kernel) ⟨Nat.le_of_ble_eq_true rfl, Nat.le_of_ble_eq_true rfl⟩) (xg_preV hK hG b hM.1 rfl rfl) rfl rfl hl.1 rfl (lv_room (Nat.le_of_ble_eq_true rfl)) dX8_behind_2 ⟨Nat.zero_le _, Nat.zero_le _⟩) (fun r1 hr1 => ?_)
  replace hr1 := hr1.symm; subst hr1
  refine xb_ifne (tgt := 10) S dX8_behind_5 (by decide) (fun c5 => ?_) (fun c5 => ?_)
  · skip
    refine lv_iload_n hx hb dX8_behind_10 rfl (lv_at hl 2 rfl) ?_
    refine lv_i2l (v := w9.toInt64) hx hb dX8_behind_11 rfl ?_
    refine lv_lconst (v := 0) hx hb dX8_behind_12 (by decide) ?_
    refine lv_ldc2 (v := 2) hx hb hown k0 dX8_behind_13 ?_
    refine xg_ri (va_runS (As := [.long w9.toInt64, .long 0, .long 2]) (rest := []) S (mX8_in l D cI cZ bs ad ws w9.toInt64 0 2) (va_cwS 3 hts gX8_behind_X8_in rfl rfl rfl (by decide +kernel) ⟨Nat.le_of_ble_eq_true rfl, Nat.le_of_ble_eq_true rfl⟩) (xg_preS hK hG) rfl rfl hl.1 rfl (lv_room (Nat.le_of_ble_eq_true rfl)) dX8_behind_16 ⟨Nat.zero_le _, Nat.zero_le _⟩) (fun r2 hr2 => ?_)
    replace hr2 := hr2.symm; subst hr2
    rw [xw_inL_lit w9 0 2 0 2 (by decide) (by decide)]
    refine xb_ifne (tgt := 25) S dX8_behind_19 (by decide) (fun c19 => ?_) (fun c19 => ?_)
    · skip
      refine lv_aload_n hx hb dX8_behind_25 rfl (lv_at hl 0 rfl) ?_
      refine xg_mi (va_runV (As := []) (rest := []) S (mX8_fault l D cI cZ bs ad ws b A I L hM (by first | assumption | omega) (by first | assumption | omega) (by first | assumption | omega)) (cwV 0 hts gX8_behind_X8_fault rfl rfl rfl (by decide +kernel) ⟨Nat.le_of_ble_eq_true rfl, Nat.le_of_ble_eq_true rfl⟩) (xg_preV hK hG b hM.1 rfl rfl) rfl rfl hl.1 rfl (lv_room (Nat.le_of_ble_eq_true rfl)) dX8_behind_26 ⟨Nat.zero_le _, Nat.zero_le _⟩) hG (fun r3 w4 H locs hr3 hG => ?_)
      obtain ⟨hr3, hvw4_0, hsw4⟩ := hr3
      replace hr3 := hr3.symm; subst hr3
      have hM : xv_M cI cZ ad w4 b ((em_flt A I n).2.1) ((em_flt A I n).2.2) L := hvw4_0
      obtain ⟨A5, eA5⟩ : ∃ zz : Nat → Nat → Int32, ((em_flt A I n).2.1) = zz := ⟨_, rfl⟩
      rw [eA5] at hM
      obtain ⟨I6, eI6⟩ : ∃ zz : Nat → Int32, ((em_flt A I n).2.2) = zz := ⟨_, rfl⟩
      rw [eI6] at hM
      have hSw4 : xv_S ws w4 b 24 := hsw4.mono (by omega) (by omega)
      obtain ⟨e, hen, hee⟩ := em_flt_ev A I n
      refine lv_if_lt (tgt := 35) hx hb dX8_behind_29 (by decide) (fun c29 => ?_) (fun c29 => ?_)
      · skip
        refine lv_aload_n hx hb dX8_behind_35 rfl (lv_at hl 0 rfl) ?_
        refine xg_mv (va_runV (As := []) (rest := []) S (mX8_keepNow l D cI cZ bs ad w4 b A5 I6 L hM) (cwV 0 hts gX8_behind_X8_keepNow rfl rfl rfl (by decide +kernel) ⟨Nat.le_of_ble_eq_true rfl, Nat.le_of_ble_eq_true rfl⟩) (xg_preV hK hG b hM.1 rfl rfl) rfl rfl hl.1 rfl (lv_room (Nat.le_of_ble_eq_true rfl)) dX8_behind_36 ⟨Nat.zero_le _, Nat.zero_le _⟩) hG (fun w8 H locs hr7 hG => ?_)
        obtain ⟨hvw8_0, hsw8⟩ := hr7
        have hM : xv_M cI cZ ad w8 b (em_kpk A5 6) (va_up I6 34 (I6 14)) L := hvw8_0
        obtain ⟨A9, eA9⟩ : ∃ zz : Nat → Nat → Int32, (em_kpk A5 6) = zz := ⟨_, rfl⟩
        rw [eA9] at hM
        obtain ⟨I10, eI10⟩ : ∃ zz : Nat → Int32, (va_up I6 34 (I6 14)) = zz := ⟨_, rfl⟩
        rw [eI10] at hM
        have hSw8 : xv_S ws w8 b 24 := hSw4.trans (hsw8.mono (by omega) (by omega))
        refine lv_aload_n hx hb dX8_behind_39 rfl (lv_at hl 0 rfl) ?_
        refine xg_mv (va_runV (As := []) (rest := []) S (mX8_goSummer l D cI cZ bs ad w8 b A9 I10 L hM e (by subst eA5 eI6 eA9 eI10; rw [va_up_ne _ _ (by decide)]; exact hee) (by omega)) (cwV 0 hts gX8_behind_X8_goSummer rfl rfl rfl (by decide +kernel) ⟨Nat.le_of_ble_eq_true rfl, Nat.le_of_ble_eq_true rfl⟩) (xg_preV hK hG b hM.1 rfl rfl) rfl rfl hl.1 rfl (lv_room (Nat.le_of_ble_eq_true rfl)) dX8_behind_40 ⟨Nat.zero_le _, Nat.zero_le _⟩) hG (fun w12 H locs hr11 hG => ?_)
        obtain ⟨hvw12_0, hsw12⟩ := hr11
        have hM : xv_M cI cZ ad w12 b ((em_gos A9 I10).1) ((em_gos A9 I10).2) L := hvw12_0
        obtain ⟨A13, eA13⟩ : ∃ zz : Nat → Nat → Int32, ((em_gos A9 I10).1) = zz := ⟨_, rfl⟩
        rw [eA13] at hM
        obtain ⟨I14, eI14⟩ : ∃ zz : Nat → Int32, ((em_gos A9 I10).2) = zz := ⟨_, rfl⟩
        rw [eI14] at hM
        have hSw12 : xv_S ws w12 b 24 := hSw8.trans (hsw12.mono (by omega) (by omega))
        refine lv_aload_n hx hb dX8_behind_43 rfl (lv_at hl 0 rfl) ?_
        refine lv_iload_n hx hb dX8_behind_44 rfl (lv_at hl 1 rfl) ?_
        refine lv_iload_n hx hb dX8_behind_45 rfl (lv_at hl 2 rfl) ?_
        refine xg_ri (va_runV (As := [.int p, .int w9]) (rest := []) S (mX8_stateOf l D cI cZ bs ad w12 b A13 I14 L hM p w9 (em_isT_in c5)) (cwV 2 hts gX8_behind_X8_stateOf rfl rfl rfl (by decide +kernel) ⟨Nat.le_of_ble_eq_true rfl, Nat.le_of_ble_eq_true rfl⟩) (xg_preV hK hG b hM.1 rfl rfl) rfl rfl hl.1 rfl (lv_room (Nat.le_of_ble_eq_true rfl)) dX8_behind_46 ⟨Nat.zero_le _, Nat.zero_le _⟩) (fun r15 hr15 => ?_)
        replace hr15 := hr15.symm; subst hr15
        refine lv_topi (fun x16 ex16 => ?_)
        replace ex16 := ex16.symm
        refine lv_istore_n (lv' := [(3, .int x16), (0, .ref (ad b)), (1, .int p), (2, .int w9)]) hx hb dX8_behind_49 rfl hl (by decide) rfl (fun ls hl => ?_)
        refine lv_aload_n hx hb dX8_behind_50 rfl (lv_at hl 1 rfl) ?_
        refine xg_mv (va_runV (As := []) (rest := []) S (mX8_putBack l D cI cZ bs ad w12 b A13 I14 L hM) (cwV 0 hts gX8_behind_X8_putBack rfl rfl rfl (by decide +kernel) ⟨Nat.le_of_ble_eq_true rfl, Nat.le_of_ble_eq_true rfl⟩) (xg_preV hK hG b hM.1 rfl rfl) rfl rfl hl.1 rfl (lv_room (Nat.le_of_ble_eq_true rfl)) dX8_behind_51 ⟨Nat.zero_le _, Nat.zero_le _⟩) hG (fun w18 H locs hr17 hG => ?_)
        obtain ⟨hvw18_0, hsw18⟩ := hr17
        have hM : xv_M cI cZ ad w18 b (em_pbk A13 6) (va_up I14 14 (I14 34)) L := hvw18_0
        obtain ⟨A19, eA19⟩ : ∃ zz : Nat → Nat → Int32, (em_pbk A13 6) = zz := ⟨_, rfl⟩
        rw [eA19] at hM
        obtain ⟨I20, eI20⟩ : ∃ zz : Nat → Int32, (va_up I14 14 (I14 34)) = zz := ⟨_, rfl⟩
        rw [eI20] at hM
        have hSw18 : xv_S ws w18 b 24 := hSw12.trans (hsw18.mono (by omega) (by omega))
        refine lv_aload_n hx hb dX8_behind_54 rfl (lv_at hl 1 rfl) ?_
        refine xg_get (C := RX8) (T := TX8) (N := 46) S hK hG (fun w h => List.mem_cons_of_mem _ (List.mem_append_right _ (h))) b hM.1 rfl 26 (by decide) k1 (fun _ h9 => h9) rfl dX8_behind_55 ?_
        refine lv_if_lt (tgt := 66) hx hb dX8_behind_58 (by decide) (fun c58 => ?_) (fun c58 => ?_)
        · skip
          refine lv_iload_n hx hb dX8_behind_66 rfl (lv_at hl 0 rfl) ?_
          rw [hQ]
          exact xg_emi S hr hlk hK hG ⟨(by subst eA5 eI6 eA9 eI10 eA13 eI14 ex16 eA19 eI20; (try simp only [va_up_ne, ne_eq, Nat.reduceEqDiff, not_false_eq_true] at c5 c19 c29 c58); simp only [em_beh, em_jsw, em_sumr, em_rfR, c5, c19, c29, c58, if_true, if_false, Bool.false_eq_true, va_up_ne, ne_eq, Nat.reduceEqDiff, not_false_eq_true]), (by rw [show ((em_beG A I n p w9).1) = A19 from (by subst eA5 eI6 eA9 eI10 eA13 eI14 ex16 eA19 eI20; first | (simp only [em_beG, em_rfG, em_pb, em_sumr, c5, c19, c29, c58, if_true, if_false, Bool.false_eq_true]; done) | (simp only [em_beG, em_rfG, em_pb, em_sumr, c5, c19, c29, c58, if_true, if_false, Bool.false_eq_true]; rfl))]; rw [show ((em_beG A I n p w9).2) = I20 from (by subst eA5 eI6 eA9 eI10 eA13 eI14 ex16 eA19 eI20; first | (simp only [em_beG, em_rfG, em_pb, em_sumr, c5, c19, c29, c58, if_true, if_false, Bool.false_eq_true]; done) | (simp only [em_beG, em_rfG, em_pb, em_sumr, c5, c19, c29, c58, if_true, if_false, Bool.false_eq_true]; rfl))]; exact hM), hSw18⟩ dX8_behind_67
        · skip
          refine lv_bipush (v := (-3)) hx hb dX8_behind_61 (by decide) ?_
          refine lv_goto (tgt := 67) hx hb dX8_behind_63 (by decide) ?_
          rw [hQ]
          exact xg_emi S hr hlk hK hG ⟨(by subst eA5 eI6 eA9 eI10 eA13 eI14 ex16 eA19 eI20; (try simp only [va_up_ne, ne_eq, Nat.reduceEqDiff, not_false_eq_true] at c5 c19 c29 c58); simp only [em_beh, em_jsw, em_sumr, em_rfR, c5, c19, c29, c58, if_true, if_false, Bool.false_eq_true, va_up_ne, ne_eq, Nat.reduceEqDiff, not_false_eq_true]), (by rw [show ((em_beG A I n p w9).1) = A19 from (by subst eA5 eI6 eA9 eI10 eA13 eI14 ex16 eA19 eI20; first | (simp only [em_beG, em_rfG, em_pb, em_sumr, c5, c19, c29, c58, if_true, if_false, Bool.false_eq_true]; done) | (simp only [em_beG, em_rfG, em_pb, em_sumr, c5, c19, c29, c58, if_true, if_false, Bool.false_eq_true]; rfl))]; rw [show ((em_beG A I n p w9).2) = I20 from (by subst eA5 eI6 eA9 eI10 eA13 eI14 ex16 eA19 eI20; first | (simp only [em_beG, em_rfG, em_pb, em_sumr, c5, c19, c29, c58, if_true, if_false, Bool.false_eq_true]; done) | (simp only [em_beG, em_rfG, em_pb, em_sumr, c5, c19, c29, c58, if_true, if_false, Bool.false_eq_true]; rfl))]; exact hM), hSw18⟩ dX8_behind_67
      · skip
        refine lv_bipush (v := (-5)) hx hb dX8_behind_32 (by decide) ?_
        rw [hQ]
        exact xg_emi S hr hlk hK hG ⟨(by subst eA5 eI6; (try simp only [va_up_ne, ne_eq, Nat.reduceEqDiff, not_false_eq_true] at c5 c19 c29); simp only [em_beh, em_jsw, em_sumr, em_rfR, c5, c19, c29, if_true, if_false, Bool.false_eq_true, va_up_ne, ne_eq, Nat.reduceEqDiff, not_false_eq_true]), (by rw [show ((em_beG A I n p w9).1) = A5 from (by subst eA5 eI6; first | (simp only [em_beG, em_rfG, em_pb, em_sumr, c5, c19, c29, if_true, if_false, Bool.false_eq_true]; done) | (simp only [em_beG, em_rfG, em_pb, em_sumr, c5, c19, c29, if_true, if_false, Bool.false_eq_true]; rfl))]; rw [show ((em_beG A I n p w9).2) = I6 from (by subst eA5 eI6; first | (simp only [em_beG, em_rfG, em_pb, em_sumr, c5, c19, c29, if_true, if_false, Bool.false_eq_true]; done) | (simp only [em_beG, em_rfG, em_pb, em_sumr, c5, c19, c29, if_true, if_false, Bool.false_eq_true]; rfl))]; exact hM), hSw4⟩ dX8_behind_34
    · skip
      refine lv_bipush (v := (-2)) hx hb dX8_behind_22 (by decide) ?_
      rw [hQ]
      exact xg_emi S hr hlk hK hG ⟨(by skip; (try simp only [va_up_ne, ne_eq, Nat.reduceEqDiff, not_false_eq_true] at c5 c19); simp only [em_beh, em_jsw, em_sumr, em_rfR, c5, c19, if_true, if_false, Bool.false_eq_true, va_up_ne, ne_eq, Nat.reduceEqDiff, not_false_eq_true]), (by rw [show ((em_beG A I n p w9).1) = A from (by skip; first | (simp only [em_beG, em_rfG, em_pb, em_sumr, c5, c19, if_true, if_false, Bool.false_eq_true]; done) | (simp only [em_beG, em_rfG, em_pb, em_sumr, c5, c19, if_true, if_false, Bool.false_eq_true]; rfl))]; rw [show ((em_beG A I n p w9).2) = I from (by skip; first | (simp only [em_beG, em_rfG, em_pb, em_sumr, c5, c19, if_true, if_false, Bool.false_eq_true]; done) | (simp only [em_beG, em_rfG, em_pb, em_sumr, c5, c19, if_true, if_false, Bool.false_eq_true]; rfl))]; exact hM), xv_S.rf⟩ dX8_behind_24
  · skip
    refine lv_iconst (v := (-1)) hx hb dX8_behind_8 (by decide) ?_
    rw [hQ]
    exact xg_emi S hr hlk hK hG ⟨(by skip; (try simp only [va_up_ne, ne_eq, Nat.reduceEqDiff, not_false_eq_true] at c5); simp only [em_beh, em_jsw, em_sumr, em_rfR, c5, if_true, if_false, Bool.false_eq_true, va_up_ne, ne_eq, Nat.reduceEqDiff, not_false_eq_true]), (by rw [show ((em_beG A I n p w9).1) = A from (by skip; first | (simp only [em_beG, em_rfG, em_pb, em_sumr, c5, if_true, if_false, Bool.false_eq_true]; done) | (simp only [em_beG, em_rfG, em_pb, em_sumr, c5, if_true, if_false, Bool.false_eq_true]; rfl))]; rw [show ((em_beG A I n p w9).2) = I from (by skip; first | (simp only [em_beG, em_rfG, em_pb, em_sumr, c5, if_true, if_false, Bool.false_eq_true]; done) | (simp only [em_beG, em_rfG, em_pb, em_sumr, c5, if_true, if_false, Bool.false_eq_true]; rfl))]; exact hM), xv_S.rf⟩ dX8_behind_9
set_option maxHeartbeats 4000000 in
set_option maxRecDepth 100000 in
theorem mX8_done (l : Launch) (D : va_G) (cI cZ : ClassId) (bs : Nat) (ad : Nat → Nat) (ws : va_W) (b : Nat) (A : Nat → Nat → Int32) (I : Nat → Int32) (L : Int64) (hM : xv_M cI cZ ad ws b A I L) (n : Nat) (hn : I 20 = nI n) (hn60 : n ≤ 60) : Met l yX8_done wsX8_done ({ frames := 5, cells := 0, slots := 0, locals := 111 } : Room) (va_Pc [.ref (ad b)] (fun U => xg_W D cI cZ bs ws U)) (va_Qi (fun (r : Int32) (w : va_W) => r = em_don A I n ∧ xv_M cI cZ ad w b ((em_dnG A I n).1) ((em_dnG A I n).2) L ∧ xv_S ws w b 24) (fun w t => xg_W D cI cZ bs w t) (xg_A bs)) 0 0 (xg_A bs) := by
  refine xg_met cX8_done 1 (some .int) RX8 (by decide) rfl rfl (Nat.le_of_ble_eq_true rfl) ?_
  intro pg en s m below meth c ls S hr hlk hnm hB hl
  have hK := hB.1
  have hG := xg_start hB
  obtain ⟨hx, hb, hml, hown, hts⟩ := id S
  have hl : lv_has ls 1 [(0, .ref (ad b))] := hl
  obtain ⟨Q, hQ⟩ : ∃ Q, Q = MQ below (va_Qi (fun (r : Int32) (w : va_W) => r = em_don A I n ∧ xv_M cI cZ ad w b ((em_dnG A I n).1) ((em_dnG A I n).2) L ∧ xv_S ws w b 24) (fun w t => xg_W D cI cZ bs w t) (xg_A bs)) ([.ref (ad b)] : List Value).toArray s 0 0 (xg_A bs) := ⟨_, rfl⟩
  rw [← hQ]
  have k0 := hts (.fieldLink RX8 200 "DareBridgeModel" "badEvent" "I") (List.mem_of_getElem? (i := 1) rfl)
  have k1 := hts (.fieldLink RX8 146 "DareBridgeModel" "padMany" "I") (List.mem_of_getElem? (i := 2) rfl)
  have k2 := hts (.fieldLink RX8 149 "DareBridgeModel" "events" "I") (List.mem_of_getElem? (i := 3) rfl)
  refine lv_aload_n hx hb dX8_done_0 rfl (lv_at hl 0 rfl) ?_
  refine xg_mi (va_runV (As := []) (rest := []) S (mX8_fault l D cI cZ bs ad ws b A I L hM (by first | assumption | omega) (by first | assumption | omega) (by first | assumption | omega)) (cwV 0 hts gX8_done_X8_fault rfl rfl rfl (by decide +kernel) ⟨Nat.le_of_ble_eq_true rfl, Nat.le_of_ble_eq_true rfl⟩) (xg_preV hK hG b hM.1 rfl rfl) rfl rfl hl.1 rfl (lv_room (Nat.le_of_ble_eq_true rfl)) dX8_done_1 ⟨Nat.zero_le _, Nat.zero_le _⟩) hG (fun r1 w2 H locs hr1 hG => ?_)
  obtain ⟨hr1, hvw2_0, hsw2⟩ := hr1
  replace hr1 := hr1.symm; subst hr1
  have hM : xv_M cI cZ ad w2 b ((em_flt A I n).2.1) ((em_flt A I n).2.2) L := hvw2_0
  obtain ⟨A3, eA3⟩ : ∃ zz : Nat → Nat → Int32, ((em_flt A I n).2.1) = zz := ⟨_, rfl⟩
  rw [eA3] at hM
  obtain ⟨I4, eI4⟩ : ∃ zz : Nat → Int32, ((em_flt A I n).2.2) = zz := ⟨_, rfl⟩
  rw [eI4] at hM
  have hSw2 : xv_S ws w2 b 24 := hsw2.mono (by omega) (by omega)
  obtain ⟨e, hen, hee⟩ := em_flt_ev A I n
  refine lv_if_lt (tgt := 10) hx hb dX8_done_4 (by decide) (fun c4 => ?_) (fun c4 => ?_)
  · skip
    refine lv_aload_n hx hb dX8_done_10 rfl (lv_at hl 0 rfl) ?_
    refine xg_mv (va_runV (As := []) (rest := []) S (mX8_keepNow l D cI cZ bs ad w2 b A3 I4 L hM) (cwV 0 hts gX8_done_X8_keepNow rfl rfl rfl (by decide +kernel) ⟨Nat.le_of_ble_eq_true rfl, Nat.le_of_ble_eq_true rfl⟩) (xg_preV hK hG b hM.1 rfl rfl) rfl rfl hl.1 rfl (lv_room (Nat.le_of_ble_eq_true rfl)) dX8_done_11 ⟨Nat.zero_le _, Nat.zero_le _⟩) hG (fun w6 H locs hr5 hG => ?_)
    obtain ⟨hvw6_0, hsw6⟩ := hr5
    have hM : xv_M cI cZ ad w6 b (em_kpk A3 6) (va_up I4 34 (I4 14)) L := hvw6_0
    obtain ⟨A7, eA7⟩ : ∃ zz : Nat → Nat → Int32, (em_kpk A3 6) = zz := ⟨_, rfl⟩
    rw [eA7] at hM
    obtain ⟨I8, eI8⟩ : ∃ zz : Nat → Int32, (va_up I4 34 (I4 14)) = zz := ⟨_, rfl⟩
    rw [eI8] at hM
    have hSw6 : xv_S ws w6 b 24 := hSw2.trans (hsw6.mono (by omega) (by omega))
    refine lv_aload_n hx hb dX8_done_14 rfl (lv_at hl 0 rfl) ?_
    refine xg_mv (va_runV (As := []) (rest := []) S (mX8_goSummer l D cI cZ bs ad w6 b A7 I8 L hM e (by subst eA3 eI4 eA7 eI8; rw [va_up_ne _ _ (by decide)]; exact hee) (by omega)) (cwV 0 hts gX8_done_X8_goSummer rfl rfl rfl (by decide +kernel) ⟨Nat.le_of_ble_eq_true rfl, Nat.le_of_ble_eq_true rfl⟩) (xg_preV hK hG b hM.1 rfl rfl) rfl rfl hl.1 rfl (lv_room (Nat.le_of_ble_eq_true rfl)) dX8_done_15 ⟨Nat.zero_le _, Nat.zero_le _⟩) hG (fun w10 H locs hr9 hG => ?_)
    obtain ⟨hvw10_0, hsw10⟩ := hr9
    have hM : xv_M cI cZ ad w10 b ((em_gos A7 I8).1) ((em_gos A7 I8).2) L := hvw10_0
    obtain ⟨A11, eA11⟩ : ∃ zz : Nat → Nat → Int32, ((em_gos A7 I8).1) = zz := ⟨_, rfl⟩
    rw [eA11] at hM
    obtain ⟨I12, eI12⟩ : ∃ zz : Nat → Int32, ((em_gos A7 I8).2) = zz := ⟨_, rfl⟩
    rw [eI12] at hM
    have hSw10 : xv_S ws w10 b 24 := hSw6.trans (hsw10.mono (by omega) (by omega))
    refine lv_aload_n hx hb dX8_done_18 rfl (lv_at hl 0 rfl) ?_
    refine xg_get (C := RX8) (T := TX8) (N := 46) S hK hG (fun w h => List.mem_cons_of_mem _ (List.mem_append_right _ (h))) b hM.1 rfl 26 (by decide) k0 (fun _ h9 => h9) rfl dX8_done_19 ?_
    refine lv_if_lt (tgt := 32) hx hb dX8_done_22 (by decide) (fun c22 => ?_) (fun c22 => ?_)
    · skip
      refine lv_aload_n hx hb dX8_done_32 rfl (lv_at hl 0 rfl) ?_
      refine lv_iconst (v := 0) hx hb dX8_done_33 (by decide) ?_
      refine xg_put2 (C := RX8) (T := TX8) (N := 46) (v := .int 0) (ty := .int) S hK hG (fun w h => List.mem_cons_of_mem _ (List.mem_append_right _ (h))) tyX8 tyX8_ok nmX8 b hM.1 rfl 20 (by decide) k1 (fun _ h9 => h9) rfl (by decide +kernel) rfl rfl (Nat.le_of_ble_eq_true rfl) dX8_done_34 (fun w13 H locs hw13 hG => ?_)
      have hs14 : xv_S w10 w13 b 1 := by rw [hw13]; exact xv_S.set (by omega) (by omega)
      obtain ⟨I15, eI15⟩ : ∃ zz : Nat → Int32, (va_up I12 20 0) = zz := ⟨_, rfl⟩
      have hM : xv_M cI cZ ad w13 b A11 I15 L := by rw [hw13, ← eI15]; exact hM.fld (va_up I12 20 0) L rfl
      have hSw13 : xv_S ws w13 b 24 := hSw10.trans (hs14.mono (by omega) (by omega))
      refine lv_aload_n hx hb dX8_done_37 rfl (lv_at hl 0 rfl) ?_
      refine xg_get (C := RX8) (T := TX8) (N := 46) S hK hG (fun w h => List.mem_cons_of_mem _ (List.mem_append_right _ (h))) b hM.1 rfl 25 (by decide) k2 (fun _ h9 => h9) rfl dX8_done_38 ?_
      rw [hQ]
      exact xg_emi S hr hlk hK hG ⟨(by subst eA3 eI4 eA7 eI8 eA11 eI12 eI15; (try simp only [va_up_ne, ne_eq, Nat.reduceEqDiff, not_false_eq_true] at c4 c22); simp only [em_don, em_jsw, em_sumr, em_rfR, c4, c22, if_true, if_false, Bool.false_eq_true, va_up_ne, ne_eq, Nat.reduceEqDiff, not_false_eq_true]), (by rw [show ((em_dnG A I n).1) = A11 from (by subst eA3 eI4 eA7 eI8 eA11 eI12 eI15; first | (simp only [em_dnG, em_rfG, em_pb, em_sumr, c4, c22, if_true, if_false, Bool.false_eq_true]; done) | (simp only [em_dnG, em_rfG, em_pb, em_sumr, c4, c22, if_true, if_false, Bool.false_eq_true]; rfl))]; rw [show ((em_dnG A I n).2) = I15 from (by subst eA3 eI4 eA7 eI8 eA11 eI12 eI15; first | (simp only [em_dnG, em_rfG, em_pb, em_sumr, c4, c22, if_true, if_false, Bool.false_eq_true]; done) | (simp only [em_dnG, em_rfG, em_pb, em_sumr, c4, c22, if_true, if_false, Bool.false_eq_true]; rfl))]; exact hM), hSw13⟩ dX8_done_41
    · skip
      refine lv_aload_n hx hb dX8_done_25 rfl (lv_at hl 0 rfl) ?_
      refine xg_mv (va_runV (As := []) (rest := []) S (mX8_putBack l D cI cZ bs ad w10 b A11 I12 L hM) (cwV 0 hts gX8_done_X8_putBack rfl rfl rfl (by decide +kernel) ⟨Nat.le_of_ble_eq_true rfl, Nat.le_of_ble_eq_true rfl⟩) (xg_preV hK hG b hM.1 rfl rfl) rfl rfl hl.1 rfl (lv_room (Nat.le_of_ble_eq_true rfl)) dX8_done_26 ⟨Nat.zero_le _, Nat.zero_le _⟩) hG (fun w17 H locs hr16 hG => ?_)
      obtain ⟨hvw17_0, hsw17⟩ := hr16
      have hM : xv_M cI cZ ad w17 b (em_pbk A11 6) (va_up I12 14 (I12 34)) L := hvw17_0
      obtain ⟨A18, eA18⟩ : ∃ zz : Nat → Nat → Int32, (em_pbk A11 6) = zz := ⟨_, rfl⟩
      rw [eA18] at hM
      obtain ⟨I19, eI19⟩ : ∃ zz : Nat → Int32, (va_up I12 14 (I12 34)) = zz := ⟨_, rfl⟩
      rw [eI19] at hM
      have hSw17 : xv_S ws w17 b 24 := hSw10.trans (hsw17.mono (by omega) (by omega))
      refine lv_bipush (v := (-3)) hx hb dX8_done_29 (by decide) ?_
      rw [hQ]
      exact xg_emi S hr hlk hK hG ⟨(by subst eA3 eI4 eA7 eI8 eA11 eI12 eA18 eI19; (try simp only [va_up_ne, ne_eq, Nat.reduceEqDiff, not_false_eq_true] at c4 c22); simp only [em_don, em_jsw, em_sumr, em_rfR, c4, c22, if_true, if_false, Bool.false_eq_true, va_up_ne, ne_eq, Nat.reduceEqDiff, not_false_eq_true]), (by rw [show ((em_dnG A I n).1) = A18 from (by subst eA3 eI4 eA7 eI8 eA11 eI12 eA18 eI19; first | (simp only [em_dnG, em_rfG, em_pb, em_sumr, c4, c22, if_true, if_false, Bool.false_eq_true]; done) | (simp only [em_dnG, em_rfG, em_pb, em_sumr, c4, c22, if_true, if_false, Bool.false_eq_true]; rfl))]; rw [show ((em_dnG A I n).2) = I19 from (by subst eA3 eI4 eA7 eI8 eA11 eI12 eA18 eI19; first | (simp only [em_dnG, em_rfG, em_pb, em_sumr, c4, c22, if_true, if_false, Bool.false_eq_true]; done) | (simp only [em_dnG, em_rfG, em_pb, em_sumr, c4, c22, if_true, if_false, Bool.false_eq_true]; rfl))]; exact hM), hSw17⟩ dX8_done_31
  · skip
    refine lv_bipush (v := (-5)) hx hb dX8_done_7 (by decide) ?_
    rw [hQ]
    exact xg_emi S hr hlk hK hG ⟨(by subst eA3 eI4; (try simp only [va_up_ne, ne_eq, Nat.reduceEqDiff, not_false_eq_true] at c4); simp only [em_don, em_jsw, em_sumr, em_rfR, c4, if_true, if_false, Bool.false_eq_true, va_up_ne, ne_eq, Nat.reduceEqDiff, not_false_eq_true]), (by rw [show ((em_dnG A I n).1) = A3 from (by subst eA3 eI4; first | (simp only [em_dnG, em_rfG, em_pb, em_sumr, c4, if_true, if_false, Bool.false_eq_true]; done) | (simp only [em_dnG, em_rfG, em_pb, em_sumr, c4, if_true, if_false, Bool.false_eq_true]; rfl))]; rw [show ((em_dnG A I n).2) = I4 from (by subst eA3 eI4; first | (simp only [em_dnG, em_rfG, em_pb, em_sumr, c4, if_true, if_false, Bool.false_eq_true]; done) | (simp only [em_dnG, em_rfG, em_pb, em_sumr, c4, if_true, if_false, Bool.false_eq_true]; rfl))]; exact hM), hSw2⟩ dX8_done_9
set_option maxHeartbeats 4000000 in
set_option maxRecDepth 100000 in
theorem mX8_daresOf (l : Launch) (D : va_G) (cI cZ : ClassId) (bs : Nat) (ad : Nat → Nat) (ws : va_W) (b : Nat) (A : Nat → Nat → Int32) (I : Nat → Int32) (L : Int64) (hM : xv_M cI cZ ad ws b A I L) (a : Int32) (b9 : Int32) (e : Nat) (he : I 25 = nI e) (he60 : e ≤ 60) : Met l yX8_daresOf wsX8_daresOf ({ frames := 0, cells := 0, slots := 0, locals := 0 } : Room) (va_Pc [.ref (ad b), .int a, .int b9] (fun U => xg_W D cI cZ bs ws U)) (xg_Ri (fun r : Int32 => r = em_dao A a b9 e)) 0 0 xg_F := by
  refine xg_met cX8_daresOf 5 (some .int) RX8 (by decide) rfl rfl (Nat.le_of_ble_eq_true rfl) ?_
  intro pg en s m below meth c ls S hr hlk hnm hB hl
  have hK := hB.1
  have hG := xg_start hB
  obtain ⟨hx, hb, hml, hown, hts⟩ := id S
  have hl : lv_has ls 5 [(0, .ref (ad b)), (1, .int a), (2, .int b9)] := hl
  obtain ⟨Q, hQ⟩ : ∃ Q, Q = MQ below (xg_Ri (fun r : Int32 => r = em_dao A a b9 e)) ([.ref (ad b), .int a, .int b9] : List Value).toArray s 0 0 xg_F := ⟨_, rfl⟩
  rw [← hQ]
  have k0 := hts (.fieldLink RX8 149 "DareBridgeModel" "events" "I") (List.mem_of_getElem? (i := 1) rfl)
  have k1 := hts (.fieldLink RX8 43 "DareBridgeModel" "sort" "[I") (List.mem_of_getElem? (i := 2) rfl)
  have k2 := hts (.fieldLink RX8 46 "DareBridgeModel" "who" "[I") (List.mem_of_getElem? (i := 3) rfl)
  have k3 := hts (.fieldLink RX8 49 "DareBridgeModel" "whom" "[I") (List.mem_of_getElem? (i := 4) rfl)
  refine lv_iconst (v := 0) hx hb dX8_daresOf_0 (by decide) ?_
  refine lv_istore_n (lv' := [(3, .int 0), (0, .ref (ad b)), (1, .int a), (2, .int b9)]) hx hb dX8_daresOf_1 rfl hl (by decide) rfl (fun ls hl => ?_)
  refine lv_iconst (v := 0) hx hb dX8_daresOf_2 (by decide) ?_
  refine lv_istore (lv' := [(4, .int 0), (3, .int 0), (0, .ref (ad b)), (1, .int a), (2, .int b9)]) hx hb dX8_daresOf_3 hl (by decide) rfl (fun ls hl => ?_)
  -- the loop at 5
  have lp5 : ∀ (fu : Nat) (k : Nat), (k ≤ e) → (e < k + fu) → ∀ y5_3 : Int32, y5_3 = em_dao A a b9 k → ∀ y5_4 : Int32, y5_4 = nI k → ∀ (ls : Array Slot), lv_has ls 5 [(0, .ref (ad b)), (1, .int a), (2, .int b9), (3, .int y5_3), (4, .int y5_4)] → W pg l en ({ frames := 0, cells := 0, slots := 0, locals := 0 } : Room) s m ([.ref (ad b), .int a, .int b9] : List Value).toArray below meth c s.heap [] 0 0 Q (F0 m 5 ls []) := by
    intro fu
    induction fu with
    | zero =>
      intro k hk hf
      exact absurd hf (by omega)
    | succ fu ih5 =>
      intro k hk hf y5_3 ey5_3 y5_4 ey5_4
      intro ls hl
      replace ey5_3 := ey5_3.symm; subst ey5_3
      replace ey5_4 := ey5_4.symm; subst ey5_4
      refine lv_iload hx hb dX8_daresOf_5 (lv_at hl 4 rfl) ?_
      refine lv_aload_n hx hb dX8_daresOf_7 rfl (lv_at hl 0 rfl) ?_
      refine xg_get (C := RX8) (T := TX8) (N := 46) S hK hG (fun w h => List.mem_cons_of_mem _ (List.mem_append_right _ (h))) b hM.1 rfl 25 (by decide) k0 (fun _ h9 => h9) rfl dX8_daresOf_8 ?_
      refine lv_icmp_ge (tgt := 60) hx hb dX8_daresOf_11 (by decide) (fun c11 => ?_) (fun c11 => ?_)
      · skip
        have hk9 : k = e := by have := xb_le (k := k) (n := e) (by omega) (by omega) (by rw [← he]; exact c11); omega
        refine lv_iload_n hx hb dX8_daresOf_60 rfl (lv_at hl 3 rfl) ?_
        rw [hQ]
        exact xg_eri S hr hlk (by skip; rw [hk9]) dX8_daresOf_61
      · skip
        have hk9 : k < e := xb_lt (by omega) (by omega) (by rw [← he]; exact c11)
        refine lv_iload_n hx hb dX8_daresOf_14 rfl (lv_at hl 3 rfl) ?_
        refine lv_aload_n hx hb dX8_daresOf_15 rfl (lv_at hl 0 rfl) ?_
        refine xg_get (C := RX8) (T := TX8) (N := 46) S hK hG (fun w h => List.mem_cons_of_mem _ (List.mem_append_right _ (h))) b hM.1 rfl 21 (by decide) k1 (fun _ h9 => h9) rfl dX8_daresOf_16 ?_
        refine lv_iload hx hb dX8_daresOf_19 (lv_at hl 4 rfl) ?_
        refine xg_ald S hK hG (b + 12) (show ws[b + 12]? = some (ad (b + 12), .inl (cI, 60, .inl (A 11))) from hM.2.1 11 (by decide)) (i := nI k) (by first | assumption | exact vp_in_nI (by omega) (by decide)) dX8_daresOf_21 ?_
        have jn52_1 : ∀ v1 : Int32, v1 = ((if ((A 11) ((nI k).toNatClampNeg)) ≤ 0 then 0 else if ((A 12) ((nI k).toNatClampNeg)) = a then if ((A 13) ((nI k).toNatClampNeg)) = b9 then 1 else 0 else 0) : Int32) → W pg l en ({ frames := 0, cells := 0, slots := 0, locals := 0 } : Room) s m ([.ref (ad b), .int a, .int b9] : List Value).toArray below meth c s.heap [] 0 0 Q (F0 m 52 ls [.int v1, .int (em_dao A a b9 k)]) := by
          intro v1 ev1
          replace ev1 := ev1.symm
          refine lv_iadd hx hb dX8_daresOf_52 ?_
          refine lv_topi (fun x2 ex2 => ?_)
          replace ex2 := ex2.symm
          refine lv_istore_n (lv' := [(3, .int x2), (0, .ref (ad b)), (1, .int a), (2, .int b9), (4, .int (nI k))]) hx hb dX8_daresOf_53 rfl hl (by decide) rfl (fun ls hl => ?_)
          obtain ⟨x3, ex3⟩ : ∃ zz : Int32, ((nI k) + 1) = zz := ⟨_, rfl⟩
          refine lv_iinc (v := x3) (lv' := [(4, .int x3), (3, .int x2), (0, .ref (ad b)), (1, .int a), (2, .int b9)]) hx hb dX8_daresOf_54 hl (k := 4) rfl (by rw [← ex3]; rfl) (by decide) rfl (fun ls hl => ?_)
          refine lv_goto (tgt := 5) hx hb dX8_daresOf_57 (by decide) ?_
          exact ih5 (k + 1) (by omega) (by omega) x2 (by subst ev1 ex2 ex3; simp only [em_dao, xb_cl (show k < 2 ^ 31 by omega)]) x3 (by subst ev1 ex2 ex3; exact nI_1 k) ls (lv_sub hl [2, 3, 4, 1, 0] rfl)
        refine lv_if_le (tgt := 51) hx hb dX8_daresOf_22 (by decide) (fun c22 => ?_) (fun c22 => ?_)
        · skip
          refine lv_iconst (v := 0) hx hb dX8_daresOf_51 (by decide) ?_
          exact jn52_1 _ (by rw [if_pos c22])
        · skip
          refine lv_aload_n hx hb dX8_daresOf_25 rfl (lv_at hl 0 rfl) ?_
          refine xg_get (C := RX8) (T := TX8) (N := 46) S hK hG (fun w h => List.mem_cons_of_mem _ (List.mem_append_right _ (h))) b hM.1 rfl 22 (by decide) k2 (fun _ h9 => h9) rfl dX8_daresOf_26 ?_
          refine lv_iload hx hb dX8_daresOf_29 (lv_at hl 4 rfl) ?_
          refine xg_ald S hK hG (b + 13) (show ws[b + 13]? = some (ad (b + 13), .inl (cI, 60, .inl (A 12))) from hM.2.1 12 (by decide)) (i := nI k) (by first | assumption | exact vp_in_nI (by omega) (by decide)) dX8_daresOf_31 ?_
          refine lv_iload_n hx hb dX8_daresOf_32 rfl (lv_at hl 1 rfl) ?_
          refine lv_icmp_ne (tgt := 51) hx hb dX8_daresOf_33 (by decide) (fun c33 => ?_) (fun c33 => ?_)
          · skip
            refine lv_iconst (v := 0) hx hb dX8_daresOf_51 (by decide) ?_
            exact jn52_1 _ (by rw [if_neg c22]; rw [if_neg c33])
          · skip
            refine lv_aload_n hx hb dX8_daresOf_36 rfl (lv_at hl 0 rfl) ?_
            refine xg_get (C := RX8) (T := TX8) (N := 46) S hK hG (fun w h => List.mem_cons_of_mem _ (List.mem_append_right _ (h))) b hM.1 rfl 23 (by decide) k3 (fun _ h9 => h9) rfl dX8_daresOf_37 ?_
            refine lv_iload hx hb dX8_daresOf_40 (lv_at hl 4 rfl) ?_
            refine xg_ald S hK hG (b + 14) (show ws[b + 14]? = some (ad (b + 14), .inl (cI, 60, .inl (A 13))) from hM.2.1 13 (by decide)) (i := nI k) (by first | assumption | exact vp_in_nI (by omega) (by decide)) dX8_daresOf_42 ?_
            refine lv_iload_n hx hb dX8_daresOf_43 rfl (lv_at hl 2 rfl) ?_
            refine lv_icmp_ne (tgt := 51) hx hb dX8_daresOf_44 (by decide) (fun c44 => ?_) (fun c44 => ?_)
            · skip
              refine lv_iconst (v := 0) hx hb dX8_daresOf_51 (by decide) ?_
              exact jn52_1 _ (by rw [if_neg c22]; rw [if_pos c33]; rw [if_neg c44])
            · skip
              refine lv_iconst (v := 1) hx hb dX8_daresOf_47 (by decide) ?_
              refine lv_goto (tgt := 52) hx hb dX8_daresOf_48 (by decide) ?_
              exact jn52_1 _ (by rw [if_neg c22]; rw [if_pos c33]; rw [if_pos c44])
  exact lp5 (e + 1) 0 (by omega) (by omega) 0 (by skip; rfl) 0 (by skip; rfl) ls (lv_sub hl [2, 3, 4, 1, 0] rfl)
