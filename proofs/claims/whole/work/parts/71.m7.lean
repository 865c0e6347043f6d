set_option maxHeartbeats 4000000 in
set_option maxRecDepth 100000 in
theorem mX8_climb (l : Launch) (D : va_G) (cI cZ : ClassId) (bs : Nat) (ad : Nat → Nat) (ws : va_W) (b : Nat) (A : Nat → Nat → Int32) (I : Nat → Int32) (L : Int64) (hM : xv_M cI cZ ad ws b A I L) (p : Int32) (p2 : Int32) (y : Int32) (z : Int32) (w9 : Int32) (st : Nat) (hst : I 8 = nI st) (h4 : 1 ≤ st) (h5 : st ≤ 9) : Met l yX8_climb wsX8_climb ({ frames := 5, cells := 0, slots := 0, locals := 117 } : Room) (va_Pc [.ref (ad b), .int p, .int p2, .int y, .int z, .int w9] (fun U => xg_W D cI cZ bs ws U)) (va_Qi (fun (r : Int32) (w : va_W) => r = em_cli A I p p2 y z w9 st ∧ xv_M cI cZ ad w b A (em_cwI A I p p2 y z w9 2 st) (em_cwL A I L p p2 y z w9 2 st) ∧ xv_S ws w b 24) (fun w t => xg_W D cI cZ bs w t) (xg_A bs)) 0 0 (xg_A bs) := by
  refine xg_met cX8_climb 6 (some .int) RX8 (by decide) rfl rfl (Nat.le_of_ble_eq_true rfl) ?_
  intro pg en s m below meth c ls S hr hlk hnm hB hl
  have hK := hB.1
  have hG := xg_start hB
  obtain ⟨hx, hb, hml, hown, hts⟩ := id S
  have hl : lv_has ls 6 [(0, .ref (ad b)), (1, .int p), (2, .int p2), (3, .int y), (4, .int z), (5, .int w9)] := hl
  obtain ⟨Q, hQ⟩ : ∃ Q, Q = MQ below (va_Qi (fun (r : Int32) (w : va_W) => r = em_cli A I p p2 y z w9 st ∧ xv_M cI cZ ad w b A (em_cwI A I p p2 y z w9 2 st) (em_cwL A I L p p2 y z w9 2 st) ∧ xv_S ws w b 24) (fun w t => xg_W D cI cZ bs w t) (xg_A bs)) ([.ref (ad b), .int p, .int p2, .int y, .int z, .int w9] : List Value).toArray s 0 0 (xg_A bs) := ⟨_, rfl⟩
  rw [← hQ]
  have k0 := hts (.constantLong RX8 231 (2)) (List.mem_of_getElem? (i := 1) rfl)
  have k1 := hts (.fieldLink RX8 284 "DareBridgeModel" "refuses" "I") (List.mem_of_getElem? (i := 4) rfl)
  have k2 := hts (.fieldLink RX8 281 "DareBridgeModel" "lastHeight" "I") (List.mem_of_getElem? (i := 3) rfl)
  have k3 := hts (.fieldLink RX8 278 "DareBridgeModel" "climbed" "I") (List.mem_of_getElem? (i := 2) rfl)
  refine lv_aload_n hx hb dX8_climb_0 rfl (lv_at hl 0 rfl) ?_
  refine lv_iload_n hx hb dX8_climb_1 rfl (lv_at hl 1 rfl) ?_
  refine lv_iload_n hx hb dX8_climb_2 rfl (lv_at hl 2 rfl) ?_
  refine xg_ri (va_runV (As := [.int p, .int p2]) (rest := []) S (mX8_areTwo l D cI cZ bs ad ws b A I L hM p p2) (cwV 2 hts gX8_climb_X8_areTwo rfl rfl rfl (by decide +kernel) ⟨Nat.le_of_ble_eq_true rfl, Nat.le_of_ble_eq_true rfl⟩) (xg_preV hK hG b hM.1 rfl rfl) rfl rfl hl.1 rfl (lv_room (Nat.le_of_ble_eq_true rfl)) dX8_climb_3 ⟨Nat.zero_le _, Nat.zero_le _⟩) (fun r1 hr1 => ?_)
  replace hr1 := hr1.symm; subst hr1
  refine xb_ifne (tgt := 11) S dX8_climb_6 (by decide) (fun c6 => ?_) (fun c6 => ?_)
  · skip
    obtain ⟨hq6, hq7, hq8⟩ := em_two_N c6
    refine lv_iload_n hx hb dX8_climb_11 rfl (lv_at hl 3 rfl) ?_
    refine lv_iload hx hb dX8_climb_12 (lv_at hl 4 rfl) ?_
    refine xg_ri (va_runS (As := [.int y, .int z]) (rest := []) S (mX8_isClimb l D cI cZ bs ad ws y z) (va_cwS 2 hts gX8_climb_X8_isClimb rfl rfl rfl (by decide +kernel) ⟨Nat.le_of_ble_eq_true rfl, Nat.le_of_ble_eq_true rfl⟩) (xg_preS hK hG) rfl rfl hl.1 rfl (lv_room (Nat.le_of_ble_eq_true rfl)) dX8_climb_14 ⟨Nat.zero_le _, Nat.zero_le _⟩) (fun r2 hr2 => ?_)
    replace hr2 := hr2.symm; subst hr2
    refine xb_ifeq (tgt := 33) S dX8_climb_17 (by decide) (fun c17 => ?_) (fun c17 => ?_)
    · skip
      refine lv_bipush (v := (-2)) hx hb dX8_climb_33 (by decide) ?_
      rw [hQ]
      exact xg_emi S hr hlk hK hG ⟨(by skip; first | (simp only [em_cli, c6, c17, if_true, if_false, Bool.false_eq_true]; done) | (unfold em_cli; rw [if_pos c6, if_pos c17, if_pos c30]; simp only [c6, c17, if_true, if_false, xs_10]; rfl)), (by rw [show (em_cwI A I p p2 y z w9 2 st) = I from (by skip; first | (unfold em_cwI; simp only [c6, c17, if_true, if_false, Bool.false_eq_true]; done) | (unfold em_cwL; simp only [c6, c17, if_true, if_false, Bool.false_eq_true]; done) | (unfold em_cwI; rw [if_pos c6, if_pos c17, if_pos c30]; rfl) | (unfold em_cwL; rw [if_pos c6, if_pos c17, if_pos c30]; rfl))]; rw [show (em_cwL A I L p p2 y z w9 2 st) = L from (by skip; first | (unfold em_cwI; simp only [c6, c17, if_true, if_false, Bool.false_eq_true]; done) | (unfold em_cwL; simp only [c6, c17, if_true, if_false, Bool.false_eq_true]; done) | (unfold em_cwI; rw [if_pos c6, if_pos c17, if_pos c30]; rfl) | (unfold em_cwL; rw [if_pos c6, if_pos c17, if_pos c30]; rfl))]; exact hM), xv_S.rf⟩ dX8_climb_35
    · skip
      obtain ⟨hq1, hq2, hq3, hq4, hq5⟩ := em_isC_N c17
      refine lv_iload hx hb dX8_climb_20 (lv_at hl 5 rfl) ?_
      refine lv_i2l (v := w9.toInt64) hx hb dX8_climb_22 rfl ?_
      refine lv_lconst (v := 0) hx hb dX8_climb_23 (by decide) ?_
      refine lv_ldc2 (v := 2) hx hb hown k0 dX8_climb_24 ?_
      refine xg_ri (va_runS (As := [.long w9.toInt64, .long 0, .long 2]) (rest := []) S (mX8_in l D cI cZ bs ad ws w9.toInt64 0 2) (va_cwS 3 hts gX8_climb_X8_in rfl rfl rfl (by decide +kernel) ⟨Nat.le_of_ble_eq_true rfl, Nat.le_of_ble_eq_true rfl⟩) (xg_preS hK hG) rfl rfl hl.1 rfl (lv_room (Nat.le_of_ble_eq_true rfl)) dX8_climb_27 ⟨Nat.zero_le _, Nat.zero_le _⟩) (fun r3 hr3 => ?_)
      replace hr3 := hr3.symm; subst hr3
      rw [xw_inL_lit w9 0 2 0 2 (by decide) (by decide)]
      refine xb_ifne (tgt := 36) S dX8_climb_30 (by decide) (fun c30 => ?_) (fun c30 => ?_)
      · skip
        refine lv_aload_n hx hb dX8_climb_36 rfl (lv_at hl 0 rfl) ?_
        refine lv_iload_n hx hb dX8_climb_37 rfl (lv_at hl 1 rfl) ?_
        refine lv_iload_n hx hb dX8_climb_38 rfl (lv_at hl 2 rfl) ?_
        refine lv_iload_n hx hb dX8_climb_39 rfl (lv_at hl 3 rfl) ?_
        refine lv_iload hx hb dX8_climb_40 (lv_at hl 4 rfl) ?_
        refine xg_mv (va_runV (As := [.int p, .int p2, .int y, .int z]) (rest := []) S (mX8_climbUp l D cI cZ bs ad ws b A I L hM p p2 y z hq6 hq7 y.toNatClampNeg z.toNatClampNeg st hq1 hq2 hst hq3 (by omega) hq5 h4 h5) (cwV 4 hts gX8_climb_X8_climbUp rfl rfl rfl (by decide +kernel) ⟨Nat.le_of_ble_eq_true rfl, Nat.le_of_ble_eq_true rfl⟩) (xg_preV hK hG b hM.1 rfl rfl) rfl rfl hl.1 rfl (lv_room (Nat.le_of_ble_eq_true rfl)) dX8_climb_42 ⟨Nat.zero_le _, Nat.zero_le _⟩) hG (fun w5 H locs hr4 hG => ?_)
        obtain ⟨hvw5_0, hsw5⟩ := hr4
        have hM : xv_M cI cZ ad w5 b A (em_cI I (em_clu A I p p2 y.toNatClampNeg z.toNatClampNeg st)) ((em_clu A I p p2 y.toNatClampNeg z.toNatClampNeg st).2.2.2) := hvw5_0
        obtain ⟨I6, eI6⟩ : ∃ zz : Nat → Int32, (em_cI I (em_clu A I p p2 y.toNatClampNeg z.toNatClampNeg st)) = zz := ⟨_, rfl⟩
        rw [eI6] at hM
        obtain ⟨L7, eL7⟩ : ∃ zz : Int64, ((em_clu A I p p2 y.toNatClampNeg z.toNatClampNeg st).2.2.2) = zz := ⟨_, rfl⟩
        rw [eL7] at hM
        have hSw5 : xv_S ws w5 b 24 := hsw5.mono (by omega) (by omega)
        refine lv_iload hx hb dX8_climb_45 (lv_at hl 5 rfl) ?_
        refine lv_if_ne (tgt := 57) hx hb dX8_climb_47 (by decide) (fun c47 => ?_) (fun c47 => ?_)
        · skip
          refine lv_iload hx hb dX8_climb_57 (lv_at hl 5 rfl) ?_
          refine lv_iconst (v := 1) hx hb dX8_climb_59 (by decide) ?_
          refine lv_icmp_ne (tgt := 70) hx hb dX8_climb_60 (by decide) (fun c60 => ?_) (fun c60 => ?_)
          · skip
            refine lv_aload_n hx hb dX8_climb_70 rfl (lv_at hl 0 rfl) ?_
            refine xg_get (C := RX8) (T := TX8) (N := 46) S hK hG (fun w h => List.mem_cons_of_mem _ (List.mem_append_right _ (h))) b hM.1 rfl 37 (by decide) k1 (fun _ h9 => h9) rfl dX8_climb_71 ?_
            rw [hQ]
            exact xg_emi S hr hlk hK hG ⟨(by subst eI6 eL7; first | (simp only [em_cli, c6, c17, c30, c47, c60, if_true, if_false, Bool.false_eq_true]; done) | (unfold em_cli; rw [if_pos c6, if_pos c17, if_pos c30]; simp only [c6, c17, c30, c47, c60, if_true, if_false, xs_10]; rfl)), (by rw [show (em_cwI A I p p2 y z w9 2 st) = I6 from (by subst eI6 eL7; first | (unfold em_cwI; simp only [c6, c17, c30, c47, c60, if_true, if_false, Bool.false_eq_true]; done) | (unfold em_cwL; simp only [c6, c17, c30, c47, c60, if_true, if_false, Bool.false_eq_true]; done) | (unfold em_cwI; rw [if_pos c6, if_pos c17, if_pos c30]; rfl) | (unfold em_cwL; rw [if_pos c6, if_pos c17, if_pos c30]; rfl))]; rw [show (em_cwL A I L p p2 y z w9 2 st) = L7 from (by subst eI6 eL7; first | (unfold em_cwI; simp only [c6, c17, c30, c47, c60, if_true, if_false, Bool.false_eq_true]; done) | (unfold em_cwL; simp only [c6, c17, c30, c47, c60, if_true, if_false, Bool.false_eq_true]; done) | (unfold em_cwI; rw [if_pos c6, if_pos c17, if_pos c30]; rfl) | (unfold em_cwL; rw [if_pos c6, if_pos c17, if_pos c30]; rfl))]; exact hM), hSw5⟩ dX8_climb_74
          · skip
            refine lv_aload_n hx hb dX8_climb_63 rfl (lv_at hl 0 rfl) ?_
            refine xg_get (C := RX8) (T := TX8) (N := 46) S hK hG (fun w h => List.mem_cons_of_mem _ (List.mem_append_right _ (h))) b hM.1 rfl 36 (by decide) k2 (fun _ h9 => h9) rfl dX8_climb_64 ?_
            refine lv_goto (tgt := 74) hx hb dX8_climb_67 (by decide) ?_
            rw [hQ]
            exact xg_emi S hr hlk hK hG ⟨(by subst eI6 eL7; first | (simp only [em_cli, c6, c17, c30, c47, c60, if_true, if_false, Bool.false_eq_true]; done) | (unfold em_cli; rw [if_pos c6, if_pos c17, if_pos c30]; simp only [c6, c17, c30, c47, c60, if_true, if_false, xs_10]; rfl)), (by rw [show (em_cwI A I p p2 y z w9 2 st) = I6 from (by subst eI6 eL7; first | (unfold em_cwI; simp only [c6, c17, c30, c47, c60, if_true, if_false, Bool.false_eq_true]; done) | (unfold em_cwL; simp only [c6, c17, c30, c47, c60, if_true, if_false, Bool.false_eq_true]; done) | (unfold em_cwI; rw [if_pos c6, if_pos c17, if_pos c30]; rfl) | (unfold em_cwL; rw [if_pos c6, if_pos c17, if_pos c30]; rfl))]; rw [show (em_cwL A I L p p2 y z w9 2 st) = L7 from (by subst eI6 eL7; first | (unfold em_cwI; simp only [c6, c17, c30, c47, c60, if_true, if_false, Bool.false_eq_true]; done) | (unfold em_cwL; simp only [c6, c17, c30, c47, c60, if_true, if_false, Bool.false_eq_true]; done) | (unfold em_cwI; rw [if_pos c6, if_pos c17, if_pos c30]; rfl) | (unfold em_cwL; rw [if_pos c6, if_pos c17, if_pos c30]; rfl))]; exact hM), hSw5⟩ dX8_climb_74
        · skip
          refine lv_aload_n hx hb dX8_climb_50 rfl (lv_at hl 0 rfl) ?_
          refine xg_get (C := RX8) (T := TX8) (N := 46) S hK hG (fun w h => List.mem_cons_of_mem _ (List.mem_append_right _ (h))) b hM.1 rfl 35 (by decide) k3 (fun _ h9 => h9) rfl dX8_climb_51 ?_
          refine lv_goto (tgt := 74) hx hb dX8_climb_54 (by decide) ?_
          rw [hQ]
          exact xg_emi S hr hlk hK hG ⟨(by subst eI6 eL7; first | (simp only [em_cli, c6, c17, c30, c47, if_true, if_false, Bool.false_eq_true]; done) | (unfold em_cli; rw [if_pos c6, if_pos c17, if_pos c30]; simp only [c6, c17, c30, c47, if_true, if_false, xs_10]; rfl)), (by rw [show (em_cwI A I p p2 y z w9 2 st) = I6 from (by subst eI6 eL7; first | (unfold em_cwI; simp only [c6, c17, c30, c47, if_true, if_false, Bool.false_eq_true]; done) | (unfold em_cwL; simp only [c6, c17, c30, c47, if_true, if_false, Bool.false_eq_true]; done) | (unfold em_cwI; rw [if_pos c6, if_pos c17, if_pos c30]; rfl) | (unfold em_cwL; rw [if_pos c6, if_pos c17, if_pos c30]; rfl))]; rw [show (em_cwL A I L p p2 y z w9 2 st) = L7 from (by subst eI6 eL7; first | (unfold em_cwI; simp only [c6, c17, c30, c47, if_true, if_false, Bool.false_eq_true]; done) | (unfold em_cwL; simp only [c6, c17, c30, c47, if_true, if_false, Bool.false_eq_true]; done) | (unfold em_cwI; rw [if_pos c6, if_pos c17, if_pos c30]; rfl) | (unfold em_cwL; rw [if_pos c6, if_pos c17, if_pos c30]; rfl))]; exact hM), hSw5⟩ dX8_climb_74
      · skip
        refine lv_bipush (v := (-2)) hx hb dX8_climb_33 (by decide) ?_
        rw [hQ]
        exact xg_emi S hr hlk hK hG ⟨(by skip; first | (simp only [em_cli, c6, c17, c30, if_true, if_false, Bool.false_eq_true]; done) | (unfold em_cli; rw [if_pos c6, if_pos c17, if_pos c30]; simp only [c6, c17, c30, if_true, if_false, xs_10]; rfl)), (by rw [show (em_cwI A I p p2 y z w9 2 st) = I from (by skip; first | (unfold em_cwI; simp only [c6, c17, c30, if_true, if_false, Bool.false_eq_true]; done) | (unfold em_cwL; simp only [c6, c17, c30, if_true, if_false, Bool.false_eq_true]; done) | (unfold em_cwI; rw [if_pos c6, if_pos c17, if_pos c30]; rfl) | (unfold em_cwL; rw [if_pos c6, if_pos c17, if_pos c30]; rfl))]; rw [show (em_cwL A I L p p2 y z w9 2 st) = L from (by skip; first | (unfold em_cwI; simp only [c6, c17, c30, if_true, if_false, Bool.false_eq_true]; done) | (unfold em_cwL; simp only [c6, c17, c30, if_true, if_false, Bool.false_eq_true]; done) | (unfold em_cwI; rw [if_pos c6, if_pos c17, if_pos c30]; rfl) | (unfold em_cwL; rw [if_pos c6, if_pos c17, if_pos c30]; rfl))]; exact hM), xv_S.rf⟩ dX8_climb_35
  · skip
    refine lv_iconst (v := (-1)) hx hb dX8_climb_9 (by decide) ?_
    rw [hQ]
    exact xg_emi S hr hlk hK hG ⟨(by skip; first | (simp only [em_cli, c6, if_true, if_false, Bool.false_eq_true]; done) | (unfold em_cli; rw [if_pos c6, if_pos c17, if_pos c30]; simp only [c6, if_true, if_false, xs_10]; rfl)), (by rw [show (em_cwI A I p p2 y z w9 2 st) = I from (by skip; first | (unfold em_cwI; simp only [c6, if_true, if_false, Bool.false_eq_true]; done) | (unfold em_cwL; simp only [c6, if_true, if_false, Bool.false_eq_true]; done) | (unfold em_cwI; rw [if_pos c6, if_pos c17, if_pos c30]; rfl) | (unfold em_cwL; rw [if_pos c6, if_pos c17, if_pos c30]; rfl))]; rw [show (em_cwL A I L p p2 y z w9 2 st) = L from (by skip; first | (unfold em_cwI; simp only [c6, if_true, if_false, Bool.false_eq_true]; done) | (unfold em_cwL; simp only [c6, if_true, if_false, Bool.false_eq_true]; done) | (unfold em_cwI; rw [if_pos c6, if_pos c17, if_pos c30]; rfl) | (unfold em_cwL; rw [if_pos c6, if_pos c17, if_pos c30]; rfl))]; exact hM), xv_S.rf⟩ dX8_climb_10
set_option maxHeartbeats 4000000 in
set_option maxRecDepth 100000 in
theorem mX8_safe (l : Launch) (D : va_G) (cI cZ : ClassId) (bs : Nat) (ad : Nat → Nat) (ws : va_W) (b : Nat) (A : Nat → Nat → Int32) (I : Nat → Int32) (L : Int64) (hM : xv_M cI cZ ad ws b A I L) (p : Int32) (p2 : Int32) (y : Int32) (z : Int32) (w9 : Int32) (st : Nat) (hst : I 8 = nI st) (h4 : 1 ≤ st) (h5 : st ≤ 9) : Met l yX8_safe wsX8_safe ({ frames := 5, cells := 0, slots := 0, locals := 117 } : Room) (va_Pc [.ref (ad b), .int p, .int p2, .int y, .int z, .int w9] (fun U => xg_W D cI cZ bs ws U)) (va_Ql (fun (r : Int64) (w : va_W) => r = em_saf A I p p2 y z w9 st ∧ xv_M cI cZ ad w b A (em_cwI A I p p2 y z w9 1 st) (em_cwL A I L p p2 y z w9 1 st) ∧ xv_S ws w b 24) (fun w t => xg_W D cI cZ bs w t) (xg_A bs)) 0 0 (xg_A bs) := by
  refine xg_met cX8_safe 6 (some .long) RX8 (by decide) rfl rfl (Nat.le_of_ble_eq_true rfl) ?_
  intro pg en s m below meth c ls S hr hlk hnm hB hl
  have hK := hB.1
  have hG := xg_start hB
  obtain ⟨hx, hb, hml, hown, hts⟩ := id S
  have hl : lv_has ls 6 [(0, .ref (ad b)), (1, .int p), (2, .int p2), (3, .int y), (4, .int z), (5, .int w9)] := hl
  obtain ⟨Q, hQ⟩ : ∃ Q, Q = MQ below (va_Ql (fun (r : Int64) (w : va_W) => r = em_saf A I p p2 y z w9 st ∧ xv_M cI cZ ad w b A (em_cwI A I p p2 y z w9 1 st) (em_cwL A I L p p2 y z w9 1 st) ∧ xv_S ws w b 24) (fun w t => xg_W D cI cZ bs w t) (xg_A bs)) ([.ref (ad b), .int p, .int p2, .int y, .int z, .int w9] : List Value).toArray s 0 0 (xg_A bs) := ⟨_, rfl⟩
  rw [← hQ]
  have k0 := hts (.constantLong RX8 244 (-1000000000000000002)) (List.mem_of_getElem? (i := 2) rfl)
  have k1 := hts (.fieldLink RX8 287 "DareBridgeModel" "safeWays" "J") (List.mem_of_getElem? (i := 3) rfl)
  have k2 := hts (.fieldLink RX8 278 "DareBridgeModel" "climbed" "I") (List.mem_of_getElem? (i := 4) rfl)
  have k3 := hts (.constantLong RX8 301 (-1000000000000000001)) (List.mem_of_getElem? (i := 1) rfl)
  refine lv_aload_n hx hb dX8_safe_0 rfl (lv_at hl 0 rfl) ?_
  refine lv_iload_n hx hb dX8_safe_1 rfl (lv_at hl 1 rfl) ?_
  refine lv_iload_n hx hb dX8_safe_2 rfl (lv_at hl 2 rfl) ?_
  refine xg_ri (va_runV (As := [.int p, .int p2]) (rest := []) S (mX8_areTwo l D cI cZ bs ad ws b A I L hM p p2) (cwV 2 hts gX8_safe_X8_areTwo rfl rfl rfl (by decide +kernel) ⟨Nat.le_of_ble_eq_true rfl, Nat.le_of_ble_eq_true rfl⟩) (xg_preV hK hG b hM.1 rfl rfl) rfl rfl hl.1 rfl (lv_room (Nat.le_of_ble_eq_true rfl)) dX8_safe_3 ⟨Nat.zero_le _, Nat.zero_le _⟩) (fun r1 hr1 => ?_)
  replace hr1 := hr1.symm; subst hr1
  refine xb_ifne (tgt := 13) S dX8_safe_6 (by decide) (fun c6 => ?_) (fun c6 => ?_)
  · skip
    obtain ⟨hq6, hq7, hq8⟩ := em_two_N c6
    refine lv_iload_n hx hb dX8_safe_13 rfl (lv_at hl 3 rfl) ?_
    refine lv_iload hx hb dX8_safe_14 (lv_at hl 4 rfl) ?_
    refine xg_ri (va_runS (As := [.int y, .int z]) (rest := []) S (mX8_isClimb l D cI cZ bs ad ws y z) (va_cwS 2 hts gX8_safe_X8_isClimb rfl rfl rfl (by decide +kernel) ⟨Nat.le_of_ble_eq_true rfl, Nat.le_of_ble_eq_true rfl⟩) (xg_preS hK hG) rfl rfl hl.1 rfl (lv_room (Nat.le_of_ble_eq_true rfl)) dX8_safe_16 ⟨Nat.zero_le _, Nat.zero_le _⟩) (fun r2 hr2 => ?_)
    replace hr2 := hr2.symm; subst hr2
    refine xb_ifeq (tgt := 33) S dX8_safe_19 (by decide) (fun c19 => ?_) (fun c19 => ?_)
    · skip
      refine lv_ldc2 (v := (-1000000000000000002)) hx hb hown k0 dX8_safe_33 ?_
      rw [hQ]
      exact xg_eml S hr hlk hK hG ⟨(by skip; first | (simp only [em_saf, c6, c19, if_true, if_false, Bool.false_eq_true]; done) | (unfold em_saf; rw [if_pos c6, if_pos c19, if_pos c30]; unfold em_cwv; rw [hm2, hm3, lN_tn (by have := (em_cl16 hm1 hm4).1; omega), xb_cl (show m9 < 2 ^ 31 by omega)])), (by rw [show (em_cwI A I p p2 y z w9 1 st) = I from (by skip; first | (unfold em_cwI; simp only [c6, c19, if_true, if_false, Bool.false_eq_true]; done) | (unfold em_cwL; simp only [c6, c19, if_true, if_false, Bool.false_eq_true]; done) | (unfold em_cwI; rw [if_pos c6, if_pos c19, if_pos c30]; rfl) | (unfold em_cwL; rw [if_pos c6, if_pos c19, if_pos c30]; rfl))]; rw [show (em_cwL A I L p p2 y z w9 1 st) = L from (by skip; first | (unfold em_cwI; simp only [c6, c19, if_true, if_false, Bool.false_eq_true]; done) | (unfold em_cwL; simp only [c6, c19, if_true, if_false, Bool.false_eq_true]; done) | (unfold em_cwI; rw [if_pos c6, if_pos c19, if_pos c30]; rfl) | (unfold em_cwL; rw [if_pos c6, if_pos c19, if_pos c30]; rfl))]; exact hM), xv_S.rf⟩ dX8_safe_36
    · skip
      obtain ⟨hq1, hq2, hq3, hq4, hq5⟩ := em_isC_N c19
      refine lv_iload hx hb dX8_safe_22 (lv_at hl 5 rfl) ?_
      refine lv_i2l (v := w9.toInt64) hx hb dX8_safe_24 rfl ?_
      refine lv_lconst (v := 0) hx hb dX8_safe_25 (by decide) ?_
      refine lv_lconst (v := 1) hx hb dX8_safe_26 (by decide) ?_
      refine xg_ri (va_runS (As := [.long w9.toInt64, .long 0, .long 1]) (rest := []) S (mX8_in l D cI cZ bs ad ws w9.toInt64 0 1) (va_cwS 3 hts gX8_safe_X8_in rfl rfl rfl (by decide +kernel) ⟨Nat.le_of_ble_eq_true rfl, Nat.le_of_ble_eq_true rfl⟩) (xg_preS hK hG) rfl rfl hl.1 rfl (lv_room (Nat.le_of_ble_eq_true rfl)) dX8_safe_27 ⟨Nat.zero_le _, Nat.zero_le _⟩) (fun r3 hr3 => ?_)
      replace hr3 := hr3.symm; subst hr3
      rw [xw_inL_lit w9 0 1 0 1 (by decide) (by decide)]
      refine xb_ifne (tgt := 37) S dX8_safe_30 (by decide) (fun c30 => ?_) (fun c30 => ?_)
      · skip
        refine lv_aload_n hx hb dX8_safe_37 rfl (lv_at hl 0 rfl) ?_
        refine lv_iload_n hx hb dX8_safe_38 rfl (lv_at hl 1 rfl) ?_
        refine lv_iload_n hx hb dX8_safe_39 rfl (lv_at hl 2 rfl) ?_
        refine lv_iload_n hx hb dX8_safe_40 rfl (lv_at hl 3 rfl) ?_
        refine lv_iload hx hb dX8_safe_41 (lv_at hl 4 rfl) ?_
        refine xg_mv (va_runV (As := [.int p, .int p2, .int y, .int z]) (rest := []) S (mX8_climbUp l D cI cZ bs ad ws b A I L hM p p2 y z hq6 hq7 y.toNatClampNeg z.toNatClampNeg st hq1 hq2 hst hq3 (by omega) hq5 h4 h5) (cwV 4 hts gX8_safe_X8_climbUp rfl rfl rfl (by decide +kernel) ⟨Nat.le_of_ble_eq_true rfl, Nat.le_of_ble_eq_true rfl⟩) (xg_preV hK hG b hM.1 rfl rfl) rfl rfl hl.1 rfl (lv_room (Nat.le_of_ble_eq_true rfl)) dX8_safe_43 ⟨Nat.zero_le _, Nat.zero_le _⟩) hG (fun w5 H locs hr4 hG => ?_)
        obtain ⟨hvw5_0, hsw5⟩ := hr4
        have hM : xv_M cI cZ ad w5 b A (em_cI I (em_clu A I p p2 y.toNatClampNeg z.toNatClampNeg st)) ((em_clu A I p p2 y.toNatClampNeg z.toNatClampNeg st).2.2.2) := hvw5_0
        obtain ⟨I6, eI6⟩ : ∃ zz : Nat → Int32, (em_cI I (em_clu A I p p2 y.toNatClampNeg z.toNatClampNeg st)) = zz := ⟨_, rfl⟩
        rw [eI6] at hM
        obtain ⟨L7, eL7⟩ : ∃ zz : Int64, ((em_clu A I p p2 y.toNatClampNeg z.toNatClampNeg st).2.2.2) = zz := ⟨_, rfl⟩
        rw [eL7] at hM
        have hSw5 : xv_S ws w5 b 24 := hsw5.mono (by omega) (by omega)
        obtain ⟨m9, v9, hm1, hm2, hm3, hm4⟩ := em_clu_N A I p p2 y.toNatClampNeg z.toNatClampNeg st
        refine lv_aload_n hx hb dX8_safe_46 rfl (lv_at hl 0 rfl) ?_
        refine xg_get (C := RX8) (T := TX8) (N := 46) S hK hG (fun w h => List.mem_cons_of_mem _ (List.mem_append_right _ (h))) b hM.1 rfl 38 (by decide) k1 (fun _ h9 => h9) rfl dX8_safe_47 ?_
        refine lv_aload_n hx hb dX8_safe_50 rfl (lv_at hl 0 rfl) ?_
        refine xg_get (C := RX8) (T := TX8) (N := 46) S hK hG (fun w h => List.mem_cons_of_mem _ (List.mem_append_right _ (h))) b hM.1 rfl 35 (by decide) k2 (fun _ h9 => h9) rfl dX8_safe_51 ?_
        refine xg_rl (va_runS (As := [.int (I6 35)]) (rest := [.long L7]) S (mX8_tens l D cI cZ bs ad w5 (I6 35) m9 (by subst eI6 eL7; exact hm2) (by omega)) (va_cwS 1 hts gX8_safe_X8_tens rfl rfl rfl (by decide +kernel) ⟨Nat.le_of_ble_eq_true rfl, Nat.le_of_ble_eq_true rfl⟩) (xg_preS hK hG) rfl rfl hl.1 rfl (lv_room (Nat.le_of_ble_eq_true rfl)) dX8_safe_54 ⟨Nat.zero_le _, Nat.zero_le _⟩) (fun r8 hr8 => ?_)
        replace hr8 := hr8.symm; subst hr8
        refine lv_iload hx hb dX8_safe_57 (lv_at hl 5 rfl) ?_
        refine xg_rl (va_runS (As := [.long L7, .long (em_tns m9), .int w9]) (rest := []) S (mX8_lowest l D cI cZ bs ad w5 L7 (em_tns m9) w9 v9 (10 ^ m9) (by subst eI6 eL7; exact hm3) (em_tns_N m9) hm4 (em_cl16 hm1 hm4).2.2 (em_cl16 hm1 hm4).2.1) (va_cwS 3 hts gX8_safe_X8_lowest rfl rfl rfl (by decide +kernel) ⟨Nat.le_of_ble_eq_true rfl, Nat.le_of_ble_eq_true rfl⟩) (xg_preS hK hG) rfl rfl hl.1 rfl (lv_room (Nat.le_of_ble_eq_true rfl)) dX8_safe_59 ⟨Nat.zero_le _, Nat.zero_le _⟩) (fun r9 hr9 => ?_)
        replace hr9 := hr9.symm; subst hr9
        rw [hQ]
        exact xg_eml S hr hlk hK hG ⟨(by subst eI6 eL7; first | (simp only [em_saf, c6, c19, c30, if_true, if_false, Bool.false_eq_true]; done) | (unfold em_saf; rw [if_pos c6, if_pos c19, if_pos c30]; unfold em_cwv; rw [hm2, hm3, lN_tn (by have := (em_cl16 hm1 hm4).1; omega), xb_cl (show m9 < 2 ^ 31 by omega)])), (by rw [show (em_cwI A I p p2 y z w9 1 st) = I6 from (by subst eI6 eL7; first | (unfold em_cwI; simp only [c6, c19, c30, if_true, if_false, Bool.false_eq_true]; done) | (unfold em_cwL; simp only [c6, c19, c30, if_true, if_false, Bool.false_eq_true]; done) | (unfold em_cwI; rw [if_pos c6, if_pos c19, if_pos c30]; rfl) | (unfold em_cwL; rw [if_pos c6, if_pos c19, if_pos c30]; rfl))]; rw [show (em_cwL A I L p p2 y z w9 1 st) = L7 from (by subst eI6 eL7; first | (unfold em_cwI; simp only [c6, c19, c30, if_true, if_false, Bool.false_eq_true]; done) | (unfold em_cwL; simp only [c6, c19, c30, if_true, if_false, Bool.false_eq_true]; done) | (unfold em_cwI; rw [if_pos c6, if_pos c19, if_pos c30]; rfl) | (unfold em_cwL; rw [if_pos c6, if_pos c19, if_pos c30]; rfl))]; exact hM), hSw5⟩ dX8_safe_62
      · skip
        refine lv_ldc2 (v := (-1000000000000000002)) hx hb hown k0 dX8_safe_33 ?_
        rw [hQ]
        exact xg_eml S hr hlk hK hG ⟨(by skip; first | (simp only [em_saf, c6, c19, c30, if_true, if_false, Bool.false_eq_true]; done) | (unfold em_saf; rw [if_pos c6, if_pos c19, if_pos c30]; unfold em_cwv; rw [hm2, hm3, lN_tn (by have := (em_cl16 hm1 hm4).1; omega), xb_cl (show m9 < 2 ^ 31 by omega)])), (by rw [show (em_cwI A I p p2 y z w9 1 st) = I from (by skip; first | (unfold em_cwI; simp only [c6, c19, c30, if_true, if_false, Bool.false_eq_true]; done) | (unfold em_cwL; simp only [c6, c19, c30, if_true, if_false, Bool.false_eq_true]; done) | (unfold em_cwI; rw [if_pos c6, if_pos c19, if_pos c30]; rfl) | (unfold em_cwL; rw [if_pos c6, if_pos c19, if_pos c30]; rfl))]; rw [show (em_cwL A I L p p2 y z w9 1 st) = L from (by skip; first | (unfold em_cwI; simp only [c6, c19, c30, if_true, if_false, Bool.false_eq_true]; done) | (unfold em_cwL; simp only [c6, c19, c30, if_true, if_false, Bool.false_eq_true]; done) | (unfold em_cwI; rw [if_pos c6, if_pos c19, if_pos c30]; rfl) | (unfold em_cwL; rw [if_pos c6, if_pos c19, if_pos c30]; rfl))]; exact hM), xv_S.rf⟩ dX8_safe_36
  · skip
    refine lv_ldc2 (v := (-1000000000000000001)) hx hb hown k3 dX8_safe_9 ?_
    rw [hQ]
    exact xg_eml S hr hlk hK hG ⟨(by skip; first | (simp only [em_saf, c6, if_true, if_false, Bool.false_eq_true]; done) | (unfold em_saf; rw [if_pos c6, if_pos c19, if_pos c30]; unfold em_cwv; rw [hm2, hm3, lN_tn (by have := (em_cl16 hm1 hm4).1; omega), xb_cl (show m9 < 2 ^ 31 by omega)])), (by rw [show (em_cwI A I p p2 y z w9 1 st) = I from (by skip; first | (unfold em_cwI; simp only [c6, if_true, if_false, Bool.false_eq_true]; done) | (unfold em_cwL; simp only [c6, if_true, if_false, Bool.false_eq_true]; done) | (unfold em_cwI; rw [if_pos c6, if_pos c19, if_pos c30]; rfl) | (unfold em_cwL; rw [if_pos c6, if_pos c19, if_pos c30]; rfl))]; rw [show (em_cwL A I L p p2 y z w9 1 st) = L from (by skip; first | (unfold em_cwI; simp only [c6, if_true, if_false, Bool.false_eq_true]; done) | (unfold em_cwL; simp only [c6, if_true, if_false, Bool.false_eq_true]; done) | (unfold em_cwI; rw [if_pos c6, if_pos c19, if_pos c30]; rfl) | (unfold em_cwL; rw [if_pos c6, if_pos c19, if_pos c30]; rfl))]; exact hM), xv_S.rf⟩ dX8_safe_12
set_option maxHeartbeats 4000000 in
set_option maxRecDepth 100000 in
theorem mX8_law (l : Launch) (D : va_G) (cI cZ : ClassId) (bs : Nat) (ad : Nat → Nat) (ws : va_W) (b : Nat) (A : Nat → Nat → Int32) (I : Nat → Int32) (L : Int64) (hM : xv_M cI cZ ad ws b A I L) (p : Int32) (p2 : Int32) (y : Int32) (a9 : Int32) (b9 : Int32) (st : Nat) (hst : I 8 = nI st) (h4 : 1 ≤ st) (h5 : st ≤ 9) : Met l yX8_law wsX8_law ({ frames := 5, cells := 0, slots := 0, locals := 117 } : Room) (va_Pc [.ref (ad b), .int p, .int p2, .int y, .int a9, .int b9] (fun U => xg_W D cI cZ bs ws U)) (va_Qi (fun (r : Int32) (w : va_W) => r = em_law A I p p2 y a9 b9 st ∧ xv_M cI cZ ad w b A (em_lwI A I p p2 y a9 b9 st) (em_lwL A I L p p2 y a9 b9 st) ∧ xv_S ws w b 24) (fun w t => xg_W D cI cZ bs w t) (xg_A bs)) 0 0 (xg_A bs) := by
  refine xg_met cX8_law 8 (some .int) RX8 (by decide) rfl rfl (Nat.le_of_ble_eq_true rfl) ?_
  intro pg en s m below meth c ls S hr hlk hnm hB hl
  have hK := hB.1
  have hG := xg_start hB
  obtain ⟨hx, hb, hml, hown, hts⟩ := id S
  have hl : lv_has ls 8 [(0, .ref (ad b)), (1, .int p), (2, .int p2), (3, .int y), (4, .int a9), (5, .int b9)] := hl
  obtain ⟨Q, hQ⟩ : ∃ Q, Q = MQ below (va_Qi (fun (r : Int32) (w : va_W) => r = em_law A I p p2 y a9 b9 st ∧ xv_M cI cZ ad w b A (em_lwI A I p p2 y a9 b9 st) (em_lwL A I L p p2 y a9 b9 st) ∧ xv_S ws w b 24) (fun w t => xg_W D cI cZ bs w t) (xg_A bs)) ([.ref (ad b), .int p, .int p2, .int y, .int a9, .int b9] : List Value).toArray s 0 0 (xg_A bs) := ⟨_, rfl⟩
  rw [← hQ]
  have k0 := hts (.constantLong RX8 303 (100)) (List.mem_of_getElem? (i := 1) rfl)
  have k1 := hts (.fieldLink RX8 287 "DareBridgeModel" "safeWays" "J") (List.mem_of_getElem? (i := 2) rfl)
  have k2 := hts (.fieldLink RX8 278 "DareBridgeModel" "climbed" "I") (List.mem_of_getElem? (i := 3) rfl)
  refine lv_aload_n hx hb dX8_law_0 rfl (lv_at hl 0 rfl) ?_
  refine lv_iload_n hx hb dX8_law_1 rfl (lv_at hl 1 rfl) ?_
  refine lv_iload_n hx hb dX8_law_2 rfl (lv_at hl 2 rfl) ?_
  refine xg_ri (va_runV (As := [.int p, .int p2]) (rest := []) S (mX8_areTwo l D cI cZ bs ad ws b A I L hM p p2) (cwV 2 hts gX8_law_X8_areTwo rfl rfl rfl (by decide +kernel) ⟨Nat.le_of_ble_eq_true rfl, Nat.le_of_ble_eq_true rfl⟩) (xg_preV hK hG b hM.1 rfl rfl) rfl rfl hl.1 rfl (lv_room (Nat.le_of_ble_eq_true rfl)) dX8_law_3 ⟨Nat.zero_le _, Nat.zero_le _⟩) (fun r1 hr1 => ?_)
  replace hr1 := hr1.symm; subst hr1
  refine xb_ifne (tgt := 11) S dX8_law_6 (by decide) (fun c6 => ?_) (fun c6 => ?_)
  · skip
    obtain ⟨hq6, hq7, hq8⟩ := em_two_N c6
    refine lv_iload_n hx hb dX8_law_11 rfl (lv_at hl 3 rfl) ?_
    refine xg_ri (va_runS (As := [.int y]) (rest := []) S (mX8_isHeight l D cI cZ bs ad ws y) (va_cwS 1 hts gX8_law_X8_isHeight rfl rfl rfl (by decide +kernel) ⟨Nat.le_of_ble_eq_true rfl, Nat.le_of_ble_eq_true rfl⟩) (xg_preS hK hG) rfl rfl hl.1 rfl (lv_room (Nat.le_of_ble_eq_true rfl)) dX8_law_12 ⟨Nat.zero_le _, Nat.zero_le _⟩) (fun r2 hr2 => ?_)
    replace hr2 := hr2.symm; subst hr2
    refine xb_ifeq (tgt := 44) S dX8_law_15 (by decide) (fun c15 => ?_) (fun c15 => ?_)
    · skip
      refine lv_bipush (v := (-2)) hx hb dX8_law_44 (by decide) ?_
      rw [hQ]
      exact xg_emi S hr hlk hK hG ⟨(by skip; simp only [em_law, c6, c15, if_true, if_false, Bool.false_eq_true]), (by rw [show (em_lwI A I p p2 y a9 b9 st) = I from (by skip; first | (unfold em_lwI; rw [if_neg (by simp [em_lwV, c6, c15])]; done) | (unfold em_lwL; rw [if_neg (by simp [em_lwV, c6, c15])]; done) | (unfold em_lwI; rw [if_pos (by simp [em_lwV, c6, c15]), ← hfin]) | (unfold em_lwL; rw [if_pos (by simp [em_lwV, c6, c15]), ← hfin]))]; rw [show (em_lwL A I L p p2 y a9 b9 st) = L from (by skip; first | (unfold em_lwI; rw [if_neg (by simp [em_lwV, c6, c15])]; done) | (unfold em_lwL; rw [if_neg (by simp [em_lwV, c6, c15])]; done) | (unfold em_lwI; rw [if_pos (by simp [em_lwV, c6, c15]), ← hfin]) | (unfold em_lwL; rw [if_pos (by simp [em_lwV, c6, c15]), ← hfin]))]; exact hM), xv_S.rf⟩ dX8_law_46
    · skip
      obtain ⟨hq1, hq3, hq4⟩ := xw_inN (a := 1) (c := 15) c15 (by decide) (by decide)
      refine lv_iload hx hb dX8_law_18 (lv_at hl 5 rfl) ?_
      refine lv_i2l (v := b9.toInt64) hx hb dX8_law_20 rfl ?_
      refine lv_lconst (v := 1) hx hb dX8_law_21 (by decide) ?_
      refine lv_ldc2 (v := 100) hx hb hown k0 dX8_law_22 ?_
      refine xg_ri (va_runS (As := [.long b9.toInt64, .long 1, .long 100]) (rest := []) S (mX8_in l D cI cZ bs ad ws b9.toInt64 1 100) (va_cwS 3 hts gX8_law_X8_in rfl rfl rfl (by decide +kernel) ⟨Nat.le_of_ble_eq_true rfl, Nat.le_of_ble_eq_true rfl⟩) (xg_preS hK hG) rfl rfl hl.1 rfl (lv_room (Nat.le_of_ble_eq_true rfl)) dX8_law_25 ⟨Nat.zero_le _, Nat.zero_le _⟩) (fun r3 hr3 => ?_)
      replace hr3 := hr3.symm; subst hr3
      rw [xw_inL_lit b9 1 100 1 100 (by decide) (by decide)]
      refine xb_ifeq (tgt := 44) S dX8_law_28 (by decide) (fun c28 => ?_) (fun c28 => ?_)
      · skip
        refine lv_bipush (v := (-2)) hx hb dX8_law_44 (by decide) ?_
        rw [hQ]
        exact xg_emi S hr hlk hK hG ⟨(by skip; simp only [em_law, c6, c15, c28, if_true, if_false, Bool.false_eq_true]), (by rw [show (em_lwI A I p p2 y a9 b9 st) = I from (by skip; first | (unfold em_lwI; rw [if_neg (by simp [em_lwV, c6, c15, c28])]; done) | (unfold em_lwL; rw [if_neg (by simp [em_lwV, c6, c15, c28])]; done) | (unfold em_lwI; rw [if_pos (by simp [em_lwV, c6, c15, c28]), ← hfin]) | (unfold em_lwL; rw [if_pos (by simp [em_lwV, c6, c15, c28]), ← hfin]))]; rw [show (em_lwL A I L p p2 y a9 b9 st) = L from (by skip; first | (unfold em_lwI; rw [if_neg (by simp [em_lwV, c6, c15, c28])]; done) | (unfold em_lwL; rw [if_neg (by simp [em_lwV, c6, c15, c28])]; done) | (unfold em_lwI; rw [if_pos (by simp [em_lwV, c6, c15, c28]), ← hfin]) | (unfold em_lwL; rw [if_pos (by simp [em_lwV, c6, c15, c28]), ← hfin]))]; exact hM), xv_S.rf⟩ dX8_law_46
      · skip
        refine lv_iload hx hb dX8_law_31 (lv_at hl 4 rfl) ?_
        refine lv_i2l (v := a9.toInt64) hx hb dX8_law_33 rfl ?_
        refine lv_lconst (v := 0) hx hb dX8_law_34 (by decide) ?_
        refine lv_iload hx hb dX8_law_35 (lv_at hl 5 rfl) ?_
        refine lv_i2l (v := b9.toInt64) hx hb dX8_law_37 rfl ?_
        refine xg_ri (va_runS (As := [.long a9.toInt64, .long 0, .long b9.toInt64]) (rest := []) S (mX8_in l D cI cZ bs ad ws a9.toInt64 0 b9.toInt64) (va_cwS 3 hts gX8_law_X8_in rfl rfl rfl (by decide +kernel) ⟨Nat.le_of_ble_eq_true rfl, Nat.le_of_ble_eq_true rfl⟩) (xg_preS hK hG) rfl rfl hl.1 rfl (lv_room (Nat.le_of_ble_eq_true rfl)) dX8_law_38 ⟨Nat.zero_le _, Nat.zero_le _⟩) (fun r4 hr4 => ?_)
        replace hr4 := hr4.symm; subst hr4
        rw [xw_inL_lit a9 0 b9 0 b9.toInt64 (by decide) rfl]
        refine xb_ifne (tgt := 47) S dX8_law_41 (by decide) (fun c41 => ?_) (fun c41 => ?_)
        · skip
          refine lv_bipush (v := (-6)) hx hb dX8_law_47 (by decide) ?_
          refine lv_istore (lv' := [(6, .int (-6)), (0, .ref (ad b)), (1, .int p), (2, .int p2), (3, .int y), (4, .int a9), (5, .int b9)]) hx hb dX8_law_49 hl (by decide) rfl (fun ls hl => ?_)
          refine lv_iload_n hx hb dX8_law_51 rfl (lv_at hl 4 rfl) ?_
          refine lv_istore (lv' := [(7, .int y), (6, .int (-6)), (0, .ref (ad b)), (1, .int p), (2, .int p2), (3, .int y), (4, .int a9), (5, .int b9)]) hx hb dX8_law_52 hl (by decide) rfl (fun ls hl => ?_)
          -- the loop at 54
          have lp54 : ∀ (fu : Nat) (k : Nat) (f1 : Int32) (a1 : Int32) (b1 : Int32) (d1 : Int32) (u1 : Int64), (k ≤ 16) → (y.toNatClampNeg ≤ k) → (16 < k + fu) → (y.toNatClampNeg < k → (a1, b1, d1, u1) = em_clu A I p p2 y.toNatClampNeg (k - 1) st) → (em_lwk A I p p2 y.toNatClampNeg st a9 b9 (16 - y.toNatClampNeg) y.toNatClampNeg (-6) = em_lwk A I p p2 y.toNatClampNeg st a9 b9 (16 - k) k f1) → ∀ y54_7 : Int32, y54_7 = nI k → ∀ z54_hM_I : Nat → Int32, z54_hM_I = em_cI I (a1, b1, d1, u1) → ∀ (w54 : va_W) (H : Heap) (locs : List Loc), xg_H D bs w54 s.heap H locs → (xv_M cI cZ ad w54 b A z54_hM_I u1) → xv_S ws w54 b 24 → ∀ (ls : Array Slot), lv_has ls 8 [(0, .ref (ad b)), (1, .int p), (2, .int p2), (3, .int y), (4, .int a9), (5, .int b9), (6, .int f1), (7, .int y54_7)] → W pg l en ({ frames := 5, cells := 0, slots := 0, locals := 117 } : Room) s m ([.ref (ad b), .int p, .int p2, .int y, .int a9, .int b9] : List Value).toArray below meth c H locs 0 0 Q (F0 m 54 ls []) := by
            intro fu
            induction fu with
            | zero =>
              intro k f1 a1 b1 d1 u1 hk hyk hf hx9 hr2
              exact absurd hf (by omega)
            | succ fu ih54 =>
              intro k f1 a1 b1 d1 u1 hk hyk hf hx9 hr2 y54_7 ey54_7 z54_hM_I ez54_hM_I
              intro w54 H locs hG hM hSw54
              intro ls hl
              replace ey54_7 := ey54_7.symm; subst ey54_7
              replace ez54_hM_I := ez54_hM_I.symm; subst ez54_hM_I
              refine lv_iload hx hb dX8_law_54 (lv_at hl 7 rfl) ?_
              refine lv_bipush (v := 15) hx hb dX8_law_56 (by decide) ?_
              refine lv_icmp_gt (tgt := 108) hx hb dX8_law_58 (by decide) (fun c58 => ?_) (fun c58 => ?_)
              · skip
                have hk9 : k = 16 := by have := xb_gt (k := k) (n := 15) (by omega) (by decide) c58; omega
                have hfin : (a1, b1, d1, u1) = em_clu A I p p2 y.toNatClampNeg 15 st := by rw [hx9 (by omega), hk9]
                refine lv_iload hx hb dX8_law_108 (lv_at hl 6 rfl) ?_
                rw [hQ]
                exact xg_emi S hr hlk hK hG ⟨(by skip; unfold em_law; rw [if_pos c6, if_pos c15, if_pos c28, if_pos c41, hr2, hk9]; rfl), (by rw [show (em_lwI A I p p2 y a9 b9 st) = (em_cI I (a1, b1, d1, u1)) from (by skip; first | (unfold em_lwI; rw [if_neg (by simp [em_lwV, c6, c15, c28, c41, c58])]; done) | (unfold em_lwL; rw [if_neg (by simp [em_lwV, c6, c15, c28, c41, c58])]; done) | (unfold em_lwI; rw [if_pos (by simp [em_lwV, c6, c15, c28, c41, c58]), ← hfin]) | (unfold em_lwL; rw [if_pos (by simp [em_lwV, c6, c15, c28, c41, c58]), ← hfin]))]; rw [show (em_lwL A I L p p2 y a9 b9 st) = u1 from (by skip; first | (unfold em_lwI; rw [if_neg (by simp [em_lwV, c6, c15, c28, c41, c58])]; done) | (unfold em_lwL; rw [if_neg (by simp [em_lwV, c6, c15, c28, c41, c58])]; done) | (unfold em_lwI; rw [if_pos (by simp [em_lwV, c6, c15, c28, c41, c58]), ← hfin]) | (unfold em_lwL; rw [if_pos (by simp [em_lwV, c6, c15, c28, c41, c58]), ← hfin]))]; exact hM), hSw54⟩ dX8_law_110
              · skip
                have hk9 : k ≤ 15 := xb_ngt (k := k) (n := 15) (by omega) (by decide) c58
                refine lv_aload_n hx hb dX8_law_61 rfl (lv_at hl 0 rfl) ?_
                refine lv_iload_n hx hb dX8_law_62 rfl (lv_at hl 1 rfl) ?_
                refine lv_iload_n hx hb dX8_law_63 rfl (lv_at hl 2 rfl) ?_
                refine lv_iload_n hx hb dX8_law_64 rfl (lv_at hl 3 rfl) ?_
                refine lv_iload hx hb dX8_law_65 (lv_at hl 7 rfl) ?_
                refine xg_mv (va_runV (As := [.int p, .int p2, .int y, .int (nI k)]) (rest := []) S (mX8_climbUp l D cI cZ bs ad w54 b A (em_cI I (a1, b1, d1, u1)) u1 hM p p2 y (nI k) hq6 hq7 y.toNatClampNeg k st hq1 rfl hst hq3 (by omega) (by omega) h4 h5) (cwV 4 hts gX8_law_X8_climbUp rfl rfl rfl (by decide +kernel) ⟨Nat.le_of_ble_eq_true rfl, Nat.le_of_ble_eq_true rfl⟩) (xg_preV hK hG b hM.1 rfl rfl) rfl rfl hl.1 rfl (lv_room (Nat.le_of_ble_eq_true rfl)) dX8_law_67 ⟨Nat.zero_le _, Nat.zero_le _⟩) hG (fun w6 H locs hr5 hG => ?_)
                obtain ⟨hvw6_0, hsw6⟩ := hr5
                have hM : xv_M cI cZ ad w6 b A (em_cI (em_cI I (a1, b1, d1, u1)) (em_clu A (em_cI I (a1, b1, d1, u1)) p p2 y.toNatClampNeg k st)) ((em_clu A (em_cI I (a1, b1, d1, u1)) p p2 y.toNatClampNeg k st).2.2.2) := hvw6_0
                obtain ⟨I7, eI7⟩ : ∃ zz : Nat → Int32, (em_cI (em_cI I (a1, b1, d1, u1)) (em_clu A (em_cI I (a1, b1, d1, u1)) p p2 y.toNatClampNeg k st)) = zz := ⟨_, rfl⟩
                rw [eI7] at hM
                obtain ⟨L8, eL8⟩ : ∃ zz : Int64, ((em_clu A (em_cI I (a1, b1, d1, u1)) p p2 y.toNatClampNeg k st).2.2.2) = zz := ⟨_, rfl⟩
                rw [eL8] at hM
                have hSw6 : xv_S ws w6 b 24 := hSw54.trans (hsw6.mono (by omega) (by omega))
                obtain ⟨m9, v9, hm1, hm2, hm3, hm4⟩ := em_clu_N A I p p2 y.toNatClampNeg k st
                refine lv_aload_n hx hb dX8_law_70 rfl (lv_at hl 0 rfl) ?_
                refine xg_get (C := RX8) (T := TX8) (N := 46) S hK hG (fun w h => List.mem_cons_of_mem _ (List.mem_append_right _ (h))) b hM.1 rfl 38 (by decide) k1 (fun _ h9 => h9) rfl dX8_law_71 ?_
                refine lv_iload hx hb dX8_law_74 (lv_at hl 5 rfl) ?_
                refine lv_i2l (v := b9.toInt64) hx hb dX8_law_76 rfl ?_
                refine lv_lmul hx hb dX8_law_77 ?_
                refine lv_iload hx hb dX8_law_78 (lv_at hl 4 rfl) ?_
                refine lv_i2l (v := a9.toInt64) hx hb dX8_law_80 rfl ?_
                refine lv_aload_n hx hb dX8_law_81 rfl (lv_at hl 0 rfl) ?_
                refine xg_get (C := RX8) (T := TX8) (N := 46) S hK hG (fun w h => List.mem_cons_of_mem _ (List.mem_append_right _ (h))) b hM.1 rfl 35 (by decide) k2 (fun _ h9 => h9) rfl dX8_law_82 ?_
                refine xg_rl (va_runS (As := [.int (I7 35)]) (rest := [.long a9.toInt64, .long (L8 * b9.toInt64)]) S (mX8_tens l D cI cZ bs ad w6 (I7 35) m9 (by subst eI7 eL8; rw [em_clu_cI]; exact hm2) (by omega)) (va_cwS 1 hts gX8_law_X8_tens rfl rfl rfl (by decide +kernel) ⟨Nat.le_of_ble_eq_true rfl, Nat.le_of_ble_eq_true rfl⟩) (xg_preS hK hG) rfl rfl hl.1 rfl (lv_room (Nat.le_of_ble_eq_true rfl)) dX8_law_85 ⟨Nat.zero_le _, Nat.zero_le _⟩) (fun r9 hr9 => ?_)
                replace hr9 := hr9.symm; subst hr9
                refine lv_lmul hx hb dX8_law_88 ?_
                refine xb_lcmp S dX8_law_89 ?_
                have jn100_10 : ∀ v10 : Int32, v10 = (if (L8 * b9.toInt64) < (a9.toInt64 * (em_tns m9)) then f1 else nI k) → W pg l en ({ frames := 5, cells := 0, slots := 0, locals := 117 } : Room) s m ([.ref (ad b), .int p, .int p2, .int y, .int a9, .int b9] : List Value).toArray below meth c H locs 0 0 Q (F0 m 100 ls [.int v10]) := by
                  intro v10 ev10
                  replace ev10 := ev10.symm
                  refine lv_istore (lv' := [(6, .int v10), (0, .ref (ad b)), (1, .int p), (2, .int p2), (3, .int y), (4, .int a9), (5, .int b9), (7, .int (nI k))]) hx hb dX8_law_100 hl (by decide) rfl (fun ls hl => ?_)
                  obtain ⟨x11, ex11⟩ : ∃ zz : Int32, ((nI k) + 1) = zz := ⟨_, rfl⟩
                  refine lv_iinc (v := x11) (lv' := [(7, .int x11), (6, .int v10), (0, .ref (ad b)), (1, .int p), (2, .int p2), (3, .int y), (4, .int a9), (5, .int b9)]) hx hb dX8_law_102 hl (k := 7) rfl (by rw [← ex11]; rfl) (by decide) rfl (fun ls hl => ?_)
                  refine lv_goto (tgt := 54) hx hb dX8_law_105 (by decide) ?_
                  exact ih54 (k + 1) v10 ((em_clu A I p p2 y.toNatClampNeg k st).1) ((em_clu A I p p2 y.toNatClampNeg k st).2.1) ((em_clu A I p p2 y.toNatClampNeg k st).2.2.1) L8 (by omega) (by omega) (by omega) (fun _ => by subst eI7 eL8 ev10 ex11; rw [em_clu_cI, Nat.add_sub_cancel]) (by subst eI7 eL8 ev10 ex11; rw [hr2, em_lwk_S (by omega)]; unfold em_lwB; rw [em_clu_cI, hm2, xb_cl (show m9 < 2 ^ 31 by omega), xb_nite]) x11 (by subst eI7 eL8 ev10 ex11; exact nI_1 k) I7 (by subst eI7 eL8 ev10 ex11; rw [em_cI_cI, em_clu_cI]) w6 _ _ hG hM hSw6 ls (lv_sub hl [2, 3, 4, 5, 6, 7, 1, 0] rfl)
                refine xb_llt (tgt := 98) S dX8_law_90 (by decide) (fun c90 => ?_) (fun c90 => ?_)
                · skip
                  refine lv_iload hx hb dX8_law_98 (lv_at hl 6 rfl) ?_
                  exact jn100_10 _ (by rw [if_pos c90])
                · skip
                  refine lv_iload hx hb dX8_law_93 (lv_at hl 7 rfl) ?_
                  refine lv_goto (tgt := 100) hx hb dX8_law_95 (by decide) ?_
                  exact jn100_10 _ (by rw [if_neg c90])
          exact lp54 17 y.toNatClampNeg (-6) (I 35) (I 36) (I 37) L (by omega) (by omega) (by omega) (fun h => absurd h (by omega)) rfl y hq1 I (em_cI_rf I L).symm ws _ _ hG hM xv_S.rf ls (lv_sub hl [2, 3, 4, 5, 6, 7, 1, 0] rfl)
        · skip
          refine lv_bipush (v := (-2)) hx hb dX8_law_44 (by decide) ?_
          rw [hQ]
          exact xg_emi S hr hlk hK hG ⟨(by skip; simp only [em_law, c6, c15, c28, c41, if_true, if_false, Bool.false_eq_true]), (by rw [show (em_lwI A I p p2 y a9 b9 st) = I from (by skip; first | (unfold em_lwI; rw [if_neg (by simp [em_lwV, c6, c15, c28, c41])]; done) | (unfold em_lwL; rw [if_neg (by simp [em_lwV, c6, c15, c28, c41])]; done) | (unfold em_lwI; rw [if_pos (by simp [em_lwV, c6, c15, c28, c41]), ← hfin]) | (unfold em_lwL; rw [if_pos (by simp [em_lwV, c6, c15, c28, c41]), ← hfin]))]; rw [show (em_lwL A I L p p2 y a9 b9 st) = L from (by skip; first | (unfold em_lwI; rw [if_neg (by simp [em_lwV, c6, c15, c28, c41])]; done) | (unfold em_lwL; rw [if_neg (by simp [em_lwV, c6, c15, c28, c41])]; done) | (unfold em_lwI; rw [if_pos (by simp [em_lwV, c6, c15, c28, c41]), ← hfin]) | (unfold em_lwL; rw [if_pos (by simp [em_lwV, c6, c15, c28, c41]), ← hfin]))]; exact hM), xv_S.rf⟩ dX8_law_46
  · skip
    refine lv_iconst (v := (-1)) hx hb dX8_law_9 (by decide) ?_
    rw [hQ]
    exact xg_emi S hr hlk hK hG ⟨(by skip; simp only [em_law, c6, if_true, if_false, Bool.false_eq_true]), (by rw [show (em_lwI A I p p2 y a9 b9 st) = I from (by skip; first | (unfold em_lwI; rw [if_neg (by simp [em_lwV, c6])]; done) | (unfold em_lwL; rw [if_neg (by simp [em_lwV, c6])]; done) | (unfold em_lwI; rw [if_pos (by simp [em_lwV, c6]), ← hfin]) | (unfold em_lwL; rw [if_pos (by simp [em_lwV, c6]), ← hfin]))]; rw [show (em_lwL A I L p p2 y a9 b9 st) = L from (by skip; first | (unfold em_lwI; rw [if_neg (by simp [em_lwV, c6])]; done) | (unfold em_lwL; rw [if_neg (by simp [em_lwV, c6])]; done) | (unfold em_lwI; rw [if_pos (by simp [em_lwV, c6]), ← hfin]) | (unfold em_lwL; rw [if_pos (by simp [em_lwV, c6]), ← hfin]))]; exact hM), xv_S.rf⟩ dX8_law_10
