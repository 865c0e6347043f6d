set_option maxHeartbeats 4000000 in
set_option maxRecDepth 100000 in
theorem mX7_person (l : Launch) (D : va_G) (cI cZ : ClassId) (bs : Nat) (ad : Nat → Nat) (ws : va_W) (b : Nat) (fk : Int32) (sk : Int32) (hO : ws[b]? = some (ad b, .inr (7, [.ref (ad (b + 1)), .ref (ad (b + 14)), .ref (ad (b + 27)), .int fk, .int sk, .ref (ad (b + 40)), .ref (ad (b + 42)), .ref (ad (b + 58)), .ref (ad (b + 60)), .ref (ad (b + 61))]))) (T : Nat → Nat → Int32) (hT : xv_T cI ad ws (b + 1) T) (p : Int32) (s1 : Int32) (f1 : Int32) (q1 : Int32) (w1 : Int32) : Met l yX7_person wsX7_person ({ frames := 2, cells := 0, slots := 0, locals := 47 } : Room) (va_Pc [.ref (ad b), .int p, .int s1, .int f1, .int q1, .int w1] (fun U => xg_W D cI cZ bs ws U)) (va_Qi (fun (r : Int32) (w : va_W) => r = dj_perR T p s1 f1 q1 w1 ∧ w[b]? = some (ad b, .inr (7, [.ref (ad (b + 1)), .ref (ad (b + 14)), .ref (ad (b + 27)), .int fk, .int sk, .ref (ad (b + 40)), .ref (ad (b + 42)), .ref (ad (b + 58)), .ref (ad (b + 60)), .ref (ad (b + 61))])) ∧ xv_T cI ad w (b + 1) (dj_perT T p s1 f1 q1 w1) ∧ xv_S ws w (b + 1) 13) (fun w t => xg_W D cI cZ bs w t) (xg_A bs)) 0 0 (xg_A bs) := by
  refine xg_met cX7_person 6 (some .int) RX7 (by decide) rfl rfl (Nat.le_of_ble_eq_true rfl) ?_
  intro pg en s m below meth c ls S hr hlk hnm hB hl
  have hK := hB.1
  have hG := xg_start hB
  obtain ⟨hx, hb, hml, hown, hts⟩ := id S
  have hl : lv_has ls 6 [(0, .ref (ad b)), (1, .int p), (2, .int s1), (3, .int f1), (4, .int q1), (5, .int w1)] := hl
  obtain ⟨Q, hQ⟩ : ∃ Q, Q = MQ below (va_Qi (fun (r : Int32) (w : va_W) => r = dj_perR T p s1 f1 q1 w1 ∧ w[b]? = some (ad b, .inr (7, [.ref (ad (b + 1)), .ref (ad (b + 14)), .ref (ad (b + 27)), .int fk, .int sk, .ref (ad (b + 40)), .ref (ad (b + 42)), .ref (ad (b + 58)), .ref (ad (b + 60)), .ref (ad (b + 61))])) ∧ xv_T cI ad w (b + 1) (dj_perT T p s1 f1 q1 w1) ∧ xv_S ws w (b + 1) 13) (fun w t => xg_W D cI cZ bs w t) (xg_A bs)) ([.ref (ad b), .int p, .int s1, .int f1, .int q1, .int w1] : List Value).toArray s 0 0 (xg_A bs) := ⟨_, rfl⟩
  rw [← hQ]
  have k0 := hts (.fieldLink RX7 10 "DareBridge" "now" "LDareBridge$Town;") (List.mem_of_getElem? (i := 1) rfl)
  refine lv_iload_n hx hb dX7_person_0 rfl (lv_at hl 1 rfl) ?_
  refine lv_iconst (v := 0) hx hb dX7_person_1 (by decide) ?_
  refine lv_iconst (v := 5) hx hb dX7_person_2 (by decide) ?_
  refine xg_ri (va_runS (As := [.int p, .int 0, .int 5]) (rest := []) S (mX7_within l D cI cZ bs ad ws p 0 5) (va_cwS 3 hts gX7_person_X7_within rfl rfl rfl (by decide +kernel) ⟨Nat.le_of_ble_eq_true rfl, Nat.le_of_ble_eq_true rfl⟩) (xg_preS hK hG) rfl rfl hl.1 rfl (lv_room (Nat.le_of_ble_eq_true rfl)) dX7_person_3 ⟨Nat.zero_le _, Nat.zero_le _⟩) (fun r1 hr1 => ?_)
  replace hr1 := hr1.symm; subst hr1
  refine xb_ifne (tgt := 11) S dX7_person_6 (by decide) (fun c6 => ?_) (fun c6 => ?_)
  · skip
    refine lv_iload_n hx hb dX7_person_11 rfl (lv_at hl 2 rfl) ?_
    refine lv_iconst (v := 0) hx hb dX7_person_12 (by decide) ?_
    refine lv_bipush (v := 9) hx hb dX7_person_13 (by decide) ?_
    refine xg_ri (va_runS (As := [.int s1, .int 0, .int 9]) (rest := []) S (mX7_within l D cI cZ bs ad ws s1 0 9) (va_cwS 3 hts gX7_person_X7_within rfl rfl rfl (by decide +kernel) ⟨Nat.le_of_ble_eq_true rfl, Nat.le_of_ble_eq_true rfl⟩) (xg_preS hK hG) rfl rfl hl.1 rfl (lv_room (Nat.le_of_ble_eq_true rfl)) dX7_person_15 ⟨Nat.zero_le _, Nat.zero_le _⟩) (fun r2 hr2 => ?_)
    replace hr2 := hr2.symm; subst hr2
    refine xb_ifeq (tgt := 42) S dX7_person_18 (by decide) (fun c18 => ?_) (fun c18 => ?_)
    · skip
      refine lv_bipush (v := (-2)) hx hb dX7_person_42 (by decide) ?_
      rw [hQ]
      exact xg_emi S hr hlk hK hG ⟨(by skip; simp only [dj_perR, c6, c18, if_true, if_false, Bool.false_eq_true]), hO, (by rw [show (dj_perT T p s1 f1 q1 w1) = T from (by skip; simp only [dj_perT, c6, c18, if_true, if_false, Bool.false_eq_true])]; exact hT), xv_S.rf⟩ dX7_person_44
    · skip
      refine lv_iload_n hx hb dX7_person_21 rfl (lv_at hl 3 rfl) ?_
      refine lv_iconst (v := 0) hx hb dX7_person_22 (by decide) ?_
      refine lv_bipush (v := 9) hx hb dX7_person_23 (by decide) ?_
      refine xg_ri (va_runS (As := [.int f1, .int 0, .int 9]) (rest := []) S (mX7_within l D cI cZ bs ad ws f1 0 9) (va_cwS 3 hts gX7_person_X7_within rfl rfl rfl (by decide +kernel) ⟨Nat.le_of_ble_eq_true rfl, Nat.le_of_ble_eq_true rfl⟩) (xg_preS hK hG) rfl rfl hl.1 rfl (lv_room (Nat.le_of_ble_eq_true rfl)) dX7_person_25 ⟨Nat.zero_le _, Nat.zero_le _⟩) (fun r3 hr3 => ?_)
      replace hr3 := hr3.symm; subst hr3
      refine xb_ifeq (tgt := 42) S dX7_person_28 (by decide) (fun c28 => ?_) (fun c28 => ?_)
      · skip
        refine lv_bipush (v := (-2)) hx hb dX7_person_42 (by decide) ?_
        rw [hQ]
        exact xg_emi S hr hlk hK hG ⟨(by skip; simp only [dj_perR, c6, c18, c28, if_true, if_false, Bool.false_eq_true]), hO, (by rw [show (dj_perT T p s1 f1 q1 w1) = T from (by skip; simp only [dj_perT, c6, c18, c28, if_true, if_false, Bool.false_eq_true])]; exact hT), xv_S.rf⟩ dX7_person_44
      · skip
        refine lv_iload hx hb dX7_person_31 (lv_at hl 4 rfl) ?_
        refine lv_iconst (v := 0) hx hb dX7_person_33 (by decide) ?_
        refine lv_bipush (v := 9) hx hb dX7_person_34 (by decide) ?_
        refine xg_ri (va_runS (As := [.int q1, .int 0, .int 9]) (rest := []) S (mX7_within l D cI cZ bs ad ws q1 0 9) (va_cwS 3 hts gX7_person_X7_within rfl rfl rfl (by decide +kernel) ⟨Nat.le_of_ble_eq_true rfl, Nat.le_of_ble_eq_true rfl⟩) (xg_preS hK hG) rfl rfl hl.1 rfl (lv_room (Nat.le_of_ble_eq_true rfl)) dX7_person_36 ⟨Nat.zero_le _, Nat.zero_le _⟩) (fun r4 hr4 => ?_)
        replace hr4 := hr4.symm; subst hr4
        refine xb_ifne (tgt := 45) S dX7_person_39 (by decide) (fun c39 => ?_) (fun c39 => ?_)
        · skip
          refine lv_aload_n hx hb dX7_person_45 rfl (lv_at hl 0 rfl) ?_
          refine xg_get (C := RX7) (T := TX7) (N := 10) S hK hG (fun w h => List.mem_cons_of_mem _ (List.mem_append_left _ (List.mem_append_right _ (h)))) b hO rfl 0 (by decide) k0 (fun _ h9 => h9) rfl dX7_person_46 ?_
          refine lv_iload_n hx hb dX7_person_49 rfl (lv_at hl 1 rfl) ?_
          refine lv_iload_n hx hb dX7_person_50 rfl (lv_at hl 2 rfl) ?_
          refine lv_iload_n hx hb dX7_person_51 rfl (lv_at hl 3 rfl) ?_
          refine lv_iload hx hb dX7_person_52 (lv_at hl 4 rfl) ?_
          refine lv_iload hx hb dX7_person_54 (lv_at hl 5 rfl) ?_
          have jn64_5 : ∀ v5 : Int32, v5 = ((if w1 = 0 then 0 else 1) : Int32) → W pg l en ({ frames := 2, cells := 0, slots := 0, locals := 47 } : Room) s m ([.ref (ad b), .int p, .int s1, .int f1, .int q1, .int w1] : List Value).toArray below meth c s.heap [] 0 0 Q (F0 m 64 ls [.int v5, .int q1, .int f1, .int s1, .int p, .ref (ad (b + 1))]) := by
            intro v5 ev5
            replace ev5 := ev5.symm
            refine xg_mv (va_runV (As := [.int p, .int s1, .int f1, .int q1, .int v5]) (rest := []) S (mX5_come l D cI cZ bs ad ws (b + 1) T hT p s1 f1 q1 v5) (cwV 5 hts gX7_person_X5_come rfl rfl rfl (by decide +kernel) ⟨Nat.le_of_ble_eq_true rfl, Nat.le_of_ble_eq_true rfl⟩) (xg_preV hK hG (b + 1) hT.1 rfl rfl) rfl rfl hl.1 rfl (lv_room (Nat.le_of_ble_eq_true rfl)) dX7_person_64 ⟨Nat.zero_le _, Nat.zero_le _⟩) hG (fun w7 H locs hr6 hG => ?_)
            obtain ⟨hvw7_0, hsw7⟩ := hr6
            have hT : xv_T cI ad w7 (b + 1) (dt_come T p s1 f1 q1 v5) := hvw7_0
            obtain ⟨T8, eT8⟩ : ∃ zz : Nat → Nat → Int32, (dt_come T p s1 f1 q1 v5) = zz := ⟨_, rfl⟩
            rw [eT8] at hT
            have hO : w7[b]? = some (ad b, .inr (7, [.ref (ad (b + 1)), .ref (ad (b + 14)), .ref (ad (b + 27)), .int fk, .int sk, .ref (ad (b + 40)), .ref (ad (b + 42)), .ref (ad (b + 58)), .ref (ad (b + 60)), .ref (ad (b + 61))])) := hsw7.at hO (by omega)
            have hSw7 : xv_S ws w7 (b + 1) 13 := hsw7.mono (by omega) (by omega)
            refine lv_aload_n hx hb dX7_person_67 rfl (lv_at hl 0 rfl) ?_
            refine xg_get (C := RX7) (T := TX7) (N := 10) S hK hG (fun w h => List.mem_cons_of_mem _ (List.mem_append_left _ (List.mem_append_right _ (h)))) b hO rfl 0 (by decide) k0 (fun _ h9 => h9) rfl dX7_person_68 ?_
            refine xg_ri (va_runV (As := []) (rest := []) S (mX5_bits l D cI cZ bs ad w7 (b + 1) T8 hT) (cwV 0 hts gX7_person_X5_bits rfl rfl rfl (by decide +kernel) ⟨Nat.le_of_ble_eq_true rfl, Nat.le_of_ble_eq_true rfl⟩) (xg_preV hK hG (b + 1) hT.1 rfl rfl) rfl rfl hl.1 rfl (lv_room (Nat.le_of_ble_eq_true rfl)) dX7_person_71 ⟨Nat.zero_le _, Nat.zero_le _⟩) (fun r9 hr9 => ?_)
            replace hr9 := hr9.symm; subst hr9
            refine xg_ri (va_runS (As := [.int (dt_btu T8 6)]) (rest := []) S (mJ6_bitCount_0f7a4 l D cI cZ bs ad w7 (dt_btu T8 6)) (va_cwS 1 hts gX7_person_J6_bitCount_0f7a4 rfl rfl rfl (by decide +kernel) ⟨Nat.le_of_ble_eq_true rfl, Nat.le_of_ble_eq_true rfl⟩) (xg_preS hK hG) rfl rfl hl.1 rfl (lv_room (Nat.le_of_ble_eq_true rfl)) dX7_person_74 ⟨Nat.zero_le _, Nat.zero_le _⟩) (fun r10 hr10 => ?_)
            replace hr10 := hr10.symm; subst hr10
            rw [hQ]
            exact xg_emi S hr hlk hK hG ⟨(by subst ev5 eT8; simp only [dj_perR, c6, c18, c28, c39, if_true, if_false, Bool.false_eq_true]), hO, (by rw [show (dj_perT T p s1 f1 q1 w1) = T8 from (by subst ev5 eT8; simp only [dj_perT, c6, c18, c28, c39, if_true, if_false, Bool.false_eq_true])]; exact hT), hSw7⟩ dX7_person_77
          refine lv_if_eq (tgt := 63) hx hb dX7_person_56 (by decide) (fun c56 => ?_) (fun c56 => ?_)
          · skip
            refine lv_iconst (v := 0) hx hb dX7_person_63 (by decide) ?_
            exact jn64_5 _ (by rw [if_pos c56])
          · skip
            refine lv_iconst (v := 1) hx hb dX7_person_59 (by decide) ?_
            refine lv_goto (tgt := 64) hx hb dX7_person_60 (by decide) ?_
            exact jn64_5 _ (by rw [if_neg c56])
        · skip
          refine lv_bipush (v := (-2)) hx hb dX7_person_42 (by decide) ?_
          rw [hQ]
          exact xg_emi S hr hlk hK hG ⟨(by skip; simp only [dj_perR, c6, c18, c28, c39, if_true, if_false, Bool.false_eq_true]), hO, (by rw [show (dj_perT T p s1 f1 q1 w1) = T from (by skip; simp only [dj_perT, c6, c18, c28, c39, if_true, if_false, Bool.false_eq_true])]; exact hT), xv_S.rf⟩ dX7_person_44
  · skip
    refine lv_iconst (v := (-1)) hx hb dX7_person_9 (by decide) ?_
    rw [hQ]
    exact xg_emi S hr hlk hK hG ⟨(by skip; simp only [dj_perR, c6, if_true, if_false, Bool.false_eq_true]), hO, (by rw [show (dj_perT T p s1 f1 q1 w1) = T from (by skip; simp only [dj_perT, c6, if_true, if_false, Bool.false_eq_true])]; exact hT), xv_S.rf⟩ dX7_person_10
set_option maxHeartbeats 4000000 in
set_option maxRecDepth 100000 in
theorem mX7_leave (l : Launch) (D : va_G) (cI cZ : ClassId) (bs : Nat) (ad : Nat → Nat) (ws : va_W) (b : Nat) (fk : Int32) (sk : Int32) (hO : ws[b]? = some (ad b, .inr (7, [.ref (ad (b + 1)), .ref (ad (b + 14)), .ref (ad (b + 27)), .int fk, .int sk, .ref (ad (b + 40)), .ref (ad (b + 42)), .ref (ad (b + 58)), .ref (ad (b + 60)), .ref (ad (b + 61))]))) (T : Nat → Nat → Int32) (hT : xv_T cI ad ws (b + 1) T) (p : Int32) : Met l yX7_leave wsX7_leave ({ frames := 2, cells := 0, slots := 0, locals := 43 } : Room) (va_Pc [.ref (ad b), .int p] (fun U => xg_W D cI cZ bs ws U)) (va_Qi (fun (r : Int32) (w : va_W) => r = dj_leaR T p ∧ w[b]? = some (ad b, .inr (7, [.ref (ad (b + 1)), .ref (ad (b + 14)), .ref (ad (b + 27)), .int fk, .int sk, .ref (ad (b + 40)), .ref (ad (b + 42)), .ref (ad (b + 58)), .ref (ad (b + 60)), .ref (ad (b + 61))])) ∧ xv_T cI ad w (b + 1) (dj_leaT T p) ∧ xv_S ws w (b + 1) 13) (fun w t => xg_W D cI cZ bs w t) (xg_A bs)) 0 0 (xg_A bs) := by
  refine xg_met cX7_leave 2 (some .int) RX7 (by decide) rfl rfl (Nat.le_of_ble_eq_true rfl) ?_
  intro pg en s m below meth c ls S hr hlk hnm hB hl
  have hK := hB.1
  have hG := xg_start hB
  obtain ⟨hx, hb, hml, hown, hts⟩ := id S
  have hl : lv_has ls 2 [(0, .ref (ad b)), (1, .int p)] := hl
  obtain ⟨Q, hQ⟩ : ∃ Q, Q = MQ below (va_Qi (fun (r : Int32) (w : va_W) => r = dj_leaR T p ∧ w[b]? = some (ad b, .inr (7, [.ref (ad (b + 1)), .ref (ad (b + 14)), .ref (ad (b + 27)), .int fk, .int sk, .ref (ad (b + 40)), .ref (ad (b + 42)), .ref (ad (b + 58)), .ref (ad (b + 60)), .ref (ad (b + 61))])) ∧ xv_T cI ad w (b + 1) (dj_leaT T p) ∧ xv_S ws w (b + 1) 13) (fun w t => xg_W D cI cZ bs w t) (xg_A bs)) ([.ref (ad b), .int p] : List Value).toArray s 0 0 (xg_A bs) := ⟨_, rfl⟩
  rw [← hQ]
  have k0 := hts (.fieldLink RX7 10 "DareBridge" "now" "LDareBridge$Town;") (List.mem_of_getElem? (i := 1) rfl)
  refine lv_aload_n hx hb dX7_leave_0 rfl (lv_at hl 0 rfl) ?_
  refine xg_get (C := RX7) (T := TX7) (N := 10) S hK hG (fun w h => List.mem_cons_of_mem _ (List.mem_append_left _ (List.mem_append_right _ (h)))) b hO rfl 0 (by decide) k0 (fun _ h9 => h9) rfl dX7_leave_1 ?_
  refine lv_iload_n hx hb dX7_leave_4 rfl (lv_at hl 1 rfl) ?_
  refine xg_ri (va_runV (As := [.int p]) (rest := []) S (mX5_isThere l D cI cZ bs ad ws (b + 1) T hT p) (cwV 1 hts gX7_leave_X5_isThere rfl rfl rfl (by decide +kernel) ⟨Nat.le_of_ble_eq_true rfl, Nat.le_of_ble_eq_true rfl⟩) (xg_preV hK hG (b + 1) hT.1 rfl rfl) rfl rfl hl.1 rfl (lv_room (Nat.le_of_ble_eq_true rfl)) dX7_leave_5 ⟨Nat.zero_le _, Nat.zero_le _⟩) (fun r1 hr1 => ?_)
  replace hr1 := hr1.symm; subst hr1
  refine xb_ifne (tgt := 13) S dX7_leave_8 (by decide) (fun c8 => ?_) (fun c8 => ?_)
  · skip
    refine lv_aload_n hx hb dX7_leave_13 rfl (lv_at hl 0 rfl) ?_
    refine xg_get (C := RX7) (T := TX7) (N := 10) S hK hG (fun w h => List.mem_cons_of_mem _ (List.mem_append_left _ (List.mem_append_right _ (h)))) b hO rfl 0 (by decide) k0 (fun _ h9 => h9) rfl dX7_leave_14 ?_
    refine lv_iload_n hx hb dX7_leave_17 rfl (lv_at hl 1 rfl) ?_
    refine xg_mv (va_runV (As := [.int p]) (rest := []) S (mX5_go l D cI cZ bs ad ws (b + 1) T hT p) (cwV 1 hts gX7_leave_X5_go rfl rfl rfl (by decide +kernel) ⟨Nat.le_of_ble_eq_true rfl, Nat.le_of_ble_eq_true rfl⟩) (xg_preV hK hG (b + 1) hT.1 rfl rfl) rfl rfl hl.1 rfl (lv_room (Nat.le_of_ble_eq_true rfl)) dX7_leave_18 ⟨Nat.zero_le _, Nat.zero_le _⟩) hG (fun w3 H locs hr2 hG => ?_)
    obtain ⟨hvw3_0, hsw3⟩ := hr2
    have hT : xv_T cI ad w3 (b + 1) (dt_go T p) := hvw3_0
    obtain ⟨T4, eT4⟩ : ∃ zz : Nat → Nat → Int32, (dt_go T p) = zz := ⟨_, rfl⟩
    rw [eT4] at hT
    have hO : w3[b]? = some (ad b, .inr (7, [.ref (ad (b + 1)), .ref (ad (b + 14)), .ref (ad (b + 27)), .int fk, .int sk, .ref (ad (b + 40)), .ref (ad (b + 42)), .ref (ad (b + 58)), .ref (ad (b + 60)), .ref (ad (b + 61))])) := hsw3.at hO (by omega)
    have hSw3 : xv_S ws w3 (b + 1) 13 := hsw3.mono (by omega) (by omega)
    refine lv_aload_n hx hb dX7_leave_21 rfl (lv_at hl 0 rfl) ?_
    refine xg_get (C := RX7) (T := TX7) (N := 10) S hK hG (fun w h => List.mem_cons_of_mem _ (List.mem_append_left _ (List.mem_append_right _ (h)))) b hO rfl 0 (by decide) k0 (fun _ h9 => h9) rfl dX7_leave_22 ?_
    refine xg_ri (va_runV (As := []) (rest := []) S (mX5_bits l D cI cZ bs ad w3 (b + 1) T4 hT) (cwV 0 hts gX7_leave_X5_bits rfl rfl rfl (by decide +kernel) ⟨Nat.le_of_ble_eq_true rfl, Nat.le_of_ble_eq_true rfl⟩) (xg_preV hK hG (b + 1) hT.1 rfl rfl) rfl rfl hl.1 rfl (lv_room (Nat.le_of_ble_eq_true rfl)) dX7_leave_25 ⟨Nat.zero_le _, Nat.zero_le _⟩) (fun r5 hr5 => ?_)
    replace hr5 := hr5.symm; subst hr5
    refine xg_ri (va_runS (As := [.int (dt_btu T4 6)]) (rest := []) S (mJ6_bitCount_0f7a4 l D cI cZ bs ad w3 (dt_btu T4 6)) (va_cwS 1 hts gX7_leave_J6_bitCount_0f7a4 rfl rfl rfl (by decide +kernel) ⟨Nat.le_of_ble_eq_true rfl, Nat.le_of_ble_eq_true rfl⟩) (xg_preS hK hG) rfl rfl hl.1 rfl (lv_room (Nat.le_of_ble_eq_true rfl)) dX7_leave_28 ⟨Nat.zero_le _, Nat.zero_le _⟩) (fun r6 hr6 => ?_)
    replace hr6 := hr6.symm; subst hr6
    rw [hQ]
    exact xg_emi S hr hlk hK hG ⟨(by subst eT4; simp only [dj_leaR, c8, if_true, if_false, Bool.false_eq_true]), hO, (by rw [show (dj_leaT T p) = T4 from (by subst eT4; simp only [dj_leaT, c8, if_true, if_false, Bool.false_eq_true])]; exact hT), hSw3⟩ dX7_leave_31
  · skip
    refine lv_iconst (v := (-1)) hx hb dX7_leave_11 (by decide) ?_
    rw [hQ]
    exact xg_emi S hr hlk hK hG ⟨(by skip; simp only [dj_leaR, c8, if_true, if_false, Bool.false_eq_true]), hO, (by rw [show (dj_leaT T p) = T from (by skip; simp only [dj_leaT, c8, if_true, if_false, Bool.false_eq_true])]; exact hT), xv_S.rf⟩ dX7_leave_12
set_option maxHeartbeats 4000000 in
set_option maxRecDepth 100000 in
theorem mX7_set (l : Launch) (D : va_G) (cI cZ : ClassId) (bs : Nat) (ad : Nat → Nat) (ws : va_W) (b : Nat) (fk : Int32) (sk : Int32) (hO : ws[b]? = some (ad b, .inr (7, [.ref (ad (b + 1)), .ref (ad (b + 14)), .ref (ad (b + 27)), .int fk, .int sk, .ref (ad (b + 40)), .ref (ad (b + 42)), .ref (ad (b + 58)), .ref (ad (b + 60)), .ref (ad (b + 61))]))) (T : Nat → Nat → Int32) (hT : xv_T cI ad ws (b + 1) T) (k9 : Int32) (v9 : Int32) : Met l yX7_set wsX7_set ({ frames := 2, cells := 0, slots := 0, locals := 42 } : Room) (va_Pc [.ref (ad b), .int k9, .int v9] (fun U => xg_W D cI cZ bs ws U)) (va_Qi (fun (r : Int32) (w : va_W) => r = dj_setR T k9 v9 ∧ w[b]? = some (ad b, .inr (7, [.ref (ad (b + 1)), .ref (ad (b + 14)), .ref (ad (b + 27)), .int fk, .int sk, .ref (ad (b + 40)), .ref (ad (b + 42)), .ref (ad (b + 58)), .ref (ad (b + 60)), .ref (ad (b + 61))])) ∧ xv_T cI ad w (b + 1) (dj_setT T k9 v9) ∧ xv_S ws w (b + 1) 13) (fun w t => xg_W D cI cZ bs w t) (xg_A bs)) 0 0 (xg_A bs) := by
  refine xg_met cX7_set 4 (some .int) RX7 (by decide) rfl rfl (Nat.le_of_ble_eq_true rfl) ?_
  intro pg en s m below meth c ls S hr hlk hnm hB hl
  have hK := hB.1
  have hG := xg_start hB
  obtain ⟨hx, hb, hml, hown, hts⟩ := id S
  have hl : lv_has ls 4 [(0, .ref (ad b)), (1, .int k9), (2, .int v9)] := hl
  obtain ⟨Q, hQ⟩ : ∃ Q, Q = MQ below (va_Qi (fun (r : Int32) (w : va_W) => r = dj_setR T k9 v9 ∧ w[b]? = some (ad b, .inr (7, [.ref (ad (b + 1)), .ref (ad (b + 14)), .ref (ad (b + 27)), .int fk, .int sk, .ref (ad (b + 40)), .ref (ad (b + 42)), .ref (ad (b + 58)), .ref (ad (b + 60)), .ref (ad (b + 61))])) ∧ xv_T cI ad w (b + 1) (dj_setT T k9 v9) ∧ xv_S ws w (b + 1) 13) (fun w t => xg_W D cI cZ bs w t) (xg_A bs)) ([.ref (ad b), .int k9, .int v9] : List Value).toArray s 0 0 (xg_A bs) := ⟨_, rfl⟩
  rw [← hQ]
  have k0 := hts (.fieldLink RX7 90 "DareBridge" "RULE_LEAST" "[I") (List.mem_of_getElem? (i := 1) rfl)
  have k1 := hts (.fieldLink RX7 98 "DareBridge" "RULE_MOST" "[I") (List.mem_of_getElem? (i := 2) rfl)
  have k2 := hts (.fieldLink RX7 10 "DareBridge" "now" "LDareBridge$Town;") (List.mem_of_getElem? (i := 3) rfl)
  have k3 := hts (.fieldLink RX7 104 "DareBridge$Town" "rules" "[I") (List.mem_of_getElem? (i := 4) rfl)
  refine lv_iload_n hx hb dX7_set_0 rfl (lv_at hl 1 rfl) ?_
  refine lv_iconst (v := 0) hx hb dX7_set_1 (by decide) ?_
  refine lv_bipush (v := 6) hx hb dX7_set_2 (by decide) ?_
  refine xg_ri (va_runS (As := [.int k9, .int 0, .int 6]) (rest := []) S (mX7_within l D cI cZ bs ad ws k9 0 6) (va_cwS 3 hts gX7_set_X7_within rfl rfl rfl (by decide +kernel) ⟨Nat.le_of_ble_eq_true rfl, Nat.le_of_ble_eq_true rfl⟩) (xg_preS hK hG) rfl rfl hl.1 rfl (lv_room (Nat.le_of_ble_eq_true rfl)) dX7_set_4 ⟨Nat.zero_le _, Nat.zero_le _⟩) (fun r1 hr1 => ?_)
  replace hr1 := hr1.symm; subst hr1
  refine xb_ifeq (tgt := 31) S dX7_set_7 (by decide) (fun c7 => ?_) (fun c7 => ?_)
  · skip
    refine lv_bipush (v := (-2)) hx hb dX7_set_31 (by decide) ?_
    rw [hQ]
    exact xg_emi S hr hlk hK hG ⟨(by skip; simp only [dj_setR, c7, if_true, if_false, Bool.false_eq_true]), hO, (by rw [show (dj_setT T k9 v9) = T from (by skip; simp only [dj_setT, c7, if_true, if_false, Bool.false_eq_true])]; exact hT), xv_S.rf⟩ dX7_set_33
  · skip
    refine lv_iload_n hx hb dX7_set_10 rfl (lv_at hl 2 rfl) ?_
    obtain ⟨sr2, hsr2, hZsr2, hXsr2⟩ := hK.2.2.2.2.1
    refine va_gets hx hb hZsr2 hG.2.2 hown k0 (fun _ h9 => h9) dX7_set_11 ?_
    refine lv_iload_n hx hb dX7_set_14 rfl (lv_at hl 1 rfl) ?_
    refine xg_ri (va_runS (As := [.ref sr2, .int k9]) (rest := [.int v9]) S (mX7_atX l sr2 7 xg_f1 k9 (by decide)) (va_cwS 2 hts gX7_set_X7_at rfl rfl rfl (by decide +kernel) ⟨Nat.le_of_ble_eq_true rfl, Nat.le_of_ble_eq_true rfl⟩) (xg_preSX hK hG hsr2 hXsr2) rfl rfl hl.1 rfl (lv_room (Nat.le_of_ble_eq_true rfl)) dX7_set_15 ⟨Nat.zero_le _, Nat.zero_le _⟩) (fun r3 hr3 => ?_)
    replace hr3 := hr3.symm; subst hr3
    obtain ⟨sr4, hsr4, hZsr4, hXsr4⟩ := hK.2.2.2.2.2
    refine va_gets hx hb hZsr4 hG.2.2 hown k1 (fun _ h9 => h9) dX7_set_18 ?_
    refine lv_iload_n hx hb dX7_set_21 rfl (lv_at hl 1 rfl) ?_
    refine xg_ri (va_runS (As := [.ref sr4, .int k9]) (rest := [.int (xb_at 7 xg_f1 k9), .int v9]) S (mX7_atX l sr4 7 xg_f2 k9 (by decide)) (va_cwS 2 hts gX7_set_X7_at rfl rfl rfl (by decide +kernel) ⟨Nat.le_of_ble_eq_true rfl, Nat.le_of_ble_eq_true rfl⟩) (xg_preSX hK hG hsr4 hXsr4) rfl rfl hl.1 rfl (lv_room (Nat.le_of_ble_eq_true rfl)) dX7_set_22 ⟨Nat.zero_le _, Nat.zero_le _⟩) (fun r5 hr5 => ?_)
    replace hr5 := hr5.symm; subst hr5
    refine xg_ri (va_runS (As := [.int v9, .int (xb_at 7 xg_f1 k9), .int (xb_at 7 xg_f2 k9)]) (rest := []) S (mX7_within l D cI cZ bs ad ws v9 (xb_at 7 xg_f1 k9) (xb_at 7 xg_f2 k9)) (va_cwS 3 hts gX7_set_X7_within rfl rfl rfl (by decide +kernel) ⟨Nat.le_of_ble_eq_true rfl, Nat.le_of_ble_eq_true rfl⟩) (xg_preS hK hG) rfl rfl hl.1 rfl (lv_room (Nat.le_of_ble_eq_true rfl)) dX7_set_25 ⟨Nat.zero_le _, Nat.zero_le _⟩) (fun r6 hr6 => ?_)
    replace hr6 := hr6.symm; subst hr6
    refine xb_ifne (tgt := 34) S dX7_set_28 (by decide) (fun c28 => ?_) (fun c28 => ?_)
    · skip
      refine lv_aload_n hx hb dX7_set_34 rfl (lv_at hl 0 rfl) ?_
      refine xg_get (C := RX7) (T := TX7) (N := 10) S hK hG (fun w h => List.mem_cons_of_mem _ (List.mem_append_left _ (List.mem_append_right _ (h)))) b hO rfl 0 (by decide) k2 (fun _ h9 => h9) rfl dX7_set_35 ?_
      refine lv_iload_n hx hb dX7_set_38 rfl (lv_at hl 1 rfl) ?_
      refine xg_ri (va_runV (As := [.int k9]) (rest := []) S (mX5_rule l D cI cZ bs ad ws (b + 1) T hT k9) (cwV 1 hts gX7_set_X5_rule rfl rfl rfl (by decide +kernel) ⟨Nat.le_of_ble_eq_true rfl, Nat.le_of_ble_eq_true rfl⟩) (xg_preV hK hG (b + 1) hT.1 rfl rfl) rfl rfl hl.1 rfl (lv_room (Nat.le_of_ble_eq_true rfl)) dX7_set_39 ⟨Nat.zero_le _, Nat.zero_le _⟩) (fun r7 hr7 => ?_)
      replace hr7 := hr7.symm; subst hr7
      refine lv_topi (fun x8 ex8 => ?_)
      replace ex8 := ex8.symm
      refine lv_istore_n (lv' := [(3, .int x8), (0, .ref (ad b)), (1, .int k9), (2, .int v9)]) hx hb dX7_set_42 rfl hl (by decide) rfl (fun ls hl => ?_)
      refine lv_aload_n hx hb dX7_set_43 rfl (lv_at hl 1 rfl) ?_
      refine xg_get (C := RX7) (T := TX7) (N := 10) S hK hG (fun w h => List.mem_cons_of_mem _ (List.mem_append_left _ (List.mem_append_right _ (h)))) b hO rfl 0 (by decide) k2 (fun _ h9 => h9) rfl dX7_set_44 ?_
      refine xg_get (C := RX5) (T := TX5) (N := 13) S hK hG (fun w h => List.mem_cons_of_mem _ (List.mem_append_right _ (h))) (b + 1) hT.1 rfl 0 (by decide) k3 (fun _ h9 => h9) rfl dX7_set_47 ?_
      refine lv_iload_n hx hb dX7_set_50 rfl (lv_at hl 2 rfl) ?_
      refine lv_iload_n hx hb dX7_set_51 rfl (lv_at hl 3 rfl) ?_
      refine xg_mv (va_runS (As := [.ref (ad (b + 2)), .int k9, .int v9]) (rest := []) S (mX7_put l D cI cZ bs ad ws (b + 2) 7 (T 0) (show ws[b + 2]? = some (ad (b + 2), .inl (cI, 7, .inl (T 0))) from hT.2 0 (by decide)) k9 v9 (by decide)) (va_cwS 3 hts gX7_set_X7_put rfl rfl rfl (by decide +kernel) ⟨Nat.le_of_ble_eq_true rfl, Nat.le_of_ble_eq_true rfl⟩) (xg_preS hK hG) rfl rfl hl.1 rfl (lv_room (Nat.le_of_ble_eq_true rfl)) dX7_set_52 ⟨Nat.zero_le _, Nat.zero_le _⟩) hG (fun w10 H locs hr9 hG => ?_)
      obtain ⟨hvw10_0, hsw10⟩ := hr9
      obtain ⟨T11, eT11⟩ : ∃ zz : Nat → Nat → Int32, (va_up T 0 (xb_pt 7 (T 0) k9 v9)) = zz := ⟨_, rfl⟩
      have hT : xv_T cI ad w10 (b + 1) T11 := by rw [← eT11]; exact hT.rowS 0 (by decide) hvw10_0 hsw10
      have hO : w10[b]? = some (ad b, .inr (7, [.ref (ad (b + 1)), .ref (ad (b + 14)), .ref (ad (b + 27)), .int fk, .int sk, .ref (ad (b + 40)), .ref (ad (b + 42)), .ref (ad (b + 58)), .ref (ad (b + 60)), .ref (ad (b + 61))])) := hsw10.at hO (by omega)
      have hSw10 : xv_S ws w10 (b + 1) 13 := hsw10.mono (by omega) (by omega)
      refine lv_iload_n hx hb dX7_set_55 rfl (lv_at hl 0 rfl) ?_
      rw [hQ]
      exact xg_emi S hr hlk hK hG ⟨(by subst ex8 eT11; simp only [dj_setR, c7, c28, if_true, if_false, Bool.false_eq_true]), hO, (by rw [show (dj_setT T k9 v9) = T11 from (by subst ex8 eT11; simp only [dj_setT, c7, c28, if_true, if_false, Bool.false_eq_true])]; exact hT), hSw10⟩ dX7_set_56
    · skip
      refine lv_bipush (v := (-2)) hx hb dX7_set_31 (by decide) ?_
      rw [hQ]
      exact xg_emi S hr hlk hK hG ⟨(by skip; simp only [dj_setR, c7, c28, if_true, if_false, Bool.false_eq_true]), hO, (by rw [show (dj_setT T k9 v9) = T from (by skip; simp only [dj_setT, c7, c28, if_true, if_false, Bool.false_eq_true])]; exact hT), xv_S.rf⟩ dX7_set_33
set_option maxHeartbeats 4000000 in
set_option maxRecDepth 100000 in
theorem mX7_say (l : Launch) (D : va_G) (cI cZ : ClassId) (bs : Nat) (ad : Nat → Nat) (ws : va_W) (b : Nat) (fk : Int32) (sk : Int32) (hO : ws[b]? = some (ad b, .inr (7, [.ref (ad (b + 1)), .ref (ad (b + 14)), .ref (ad (b + 27)), .int fk, .int sk, .ref (ad (b + 40)), .ref (ad (b + 42)), .ref (ad (b + 58)), .ref (ad (b + 60)), .ref (ad (b + 61))]))) (n : Int32) (hPo : ws[b + 40]? = some (ad (b + 40), .inr (3, [.ref (ad (b + 41)), .int n]))) (g : Nat → Int32) (hP : ws[b + 41]? = some (ad (b + 41), .inl (cI, 60, .inl g))) (x : Int32) : Met l yX7_say wsX7_say ({ frames := 2, cells := 0, slots := 0, locals := 43 } : Room) (va_Pc [.ref (ad b), .int x] (fun U => xg_W D cI cZ bs ws U)) (va_Qi (fun (r : Int32) (w : va_W) => r = dj_sayR n x ∧ w[b]? = some (ad b, .inr (7, [.ref (ad (b + 1)), .ref (ad (b + 14)), .ref (ad (b + 27)), .int fk, .int sk, .ref (ad (b + 40)), .ref (ad (b + 42)), .ref (ad (b + 58)), .ref (ad (b + 60)), .ref (ad (b + 61))])) ∧ w[b + 40]? = some (ad (b + 40), .inr (3, [.ref (ad (b + 41)), .int (dj_sayN n x)])) ∧ w[b + 41]? = some (ad (b + 41), .inl (cI, 60, .inl (dj_sayF n x g))) ∧ xv_S ws w (b + 40) 2) (fun w t => xg_W D cI cZ bs w t) (xg_A bs)) 0 0 (xg_A bs) := by
  refine xg_met cX7_say 2 (some .int) RX7 (by decide) rfl rfl (Nat.le_of_ble_eq_true rfl) ?_
  intro pg en s m below meth c ls S hr hlk hnm hB hl
  have hK := hB.1
  have hG := xg_start hB
  obtain ⟨hx, hb, hml, hown, hts⟩ := id S
  have hl : lv_has ls 2 [(0, .ref (ad b)), (1, .int x)] := hl
  obtain ⟨Q, hQ⟩ : ∃ Q, Q = MQ below (va_Qi (fun (r : Int32) (w : va_W) => r = dj_sayR n x ∧ w[b]? = some (ad b, .inr (7, [.ref (ad (b + 1)), .ref (ad (b + 14)), .ref (ad (b + 27)), .int fk, .int sk, .ref (ad (b + 40)), .ref (ad (b + 42)), .ref (ad (b + 58)), .ref (ad (b + 60)), .ref (ad (b + 61))])) ∧ w[b + 40]? = some (ad (b + 40), .inr (3, [.ref (ad (b + 41)), .int (dj_sayN n x)])) ∧ w[b + 41]? = some (ad (b + 41), .inl (cI, 60, .inl (dj_sayF n x g))) ∧ xv_S ws w (b + 40) 2) (fun w t => xg_W D cI cZ bs w t) (xg_A bs)) ([.ref (ad b), .int x] : List Value).toArray s 0 0 (xg_A bs) := ⟨_, rfl⟩
  rw [← hQ]
  have k0 := hts (.fieldLink RX7 32 "DareBridge" "pad" "LDareBridge$Pad;") (List.mem_of_getElem? (i := 1) rfl)
  have k1 := hts (.fieldLink RX7 114 "DareBridge$Pad" "count" "I") (List.mem_of_getElem? (i := 2) rfl)
  refine lv_iload_n hx hb dX7_say_0 rfl (lv_at hl 1 rfl) ?_
  refine lv_bipush (v := 33) hx hb dX7_say_1 (by decide) ?_
  refine lv_bipush (v := 126) hx hb dX7_say_3 (by decide) ?_
  refine xg_ri (va_runS (As := [.int x, .int 33, .int 126]) (rest := []) S (mX7_within l D cI cZ bs ad ws x 33 126) (va_cwS 3 hts gX7_say_X7_within rfl rfl rfl (by decide +kernel) ⟨Nat.le_of_ble_eq_true rfl, Nat.le_of_ble_eq_true rfl⟩) (xg_preS hK hG) rfl rfl hl.1 rfl (lv_room (Nat.le_of_ble_eq_true rfl)) dX7_say_5 ⟨Nat.zero_le _, Nat.zero_le _⟩) (fun r1 hr1 => ?_)
  replace hr1 := hr1.symm; subst hr1
  refine xb_ifne (tgt := 14) S dX7_say_8 (by decide) (fun c8 => ?_) (fun c8 => ?_)
  · skip
    refine lv_aload_n hx hb dX7_say_14 rfl (lv_at hl 0 rfl) ?_
    refine xg_get (C := RX7) (T := TX7) (N := 10) S hK hG (fun w h => List.mem_cons_of_mem _ (List.mem_append_left _ (List.mem_append_right _ (h)))) b hO rfl 5 (by decide) k0 (fun _ h9 => h9) rfl dX7_say_15 ?_
    refine lv_iload_n hx hb dX7_say_18 rfl (lv_at hl 1 rfl) ?_
    refine xg_mi (va_runV (As := [.int x]) (rest := []) S (mX3_add l D cI cZ bs ad ws (b + 40) n hPo g hP x) (cwV 1 hts gX7_say_X3_add rfl rfl rfl (by decide +kernel) ⟨Nat.le_of_ble_eq_true rfl, Nat.le_of_ble_eq_true rfl⟩) (xg_preV hK hG (b + 40) hPo rfl rfl) rfl rfl hl.1 rfl (lv_room (Nat.le_of_ble_eq_true rfl)) dX7_say_19 ⟨Nat.zero_le _, Nat.zero_le _⟩) hG (fun r2 w3 H locs hr2 hG => ?_)
    obtain ⟨hr2, hvw3_0, hvw3_1, hsw3⟩ := hr2
    replace hr2 := hr2.symm; subst hr2
    have hPo : w3[b + 40]? = some (ad (b + 40), .inr (3, [.ref (ad (b + 41)), .int (if n < 60 then n + 1 else n)])) := hvw3_0
    obtain ⟨x4, ex4⟩ : ∃ zz : Int32, (if n < 60 then n + 1 else n) = zz := ⟨_, rfl⟩
    rw [ex4] at hPo
    obtain ⟨f5, ef5⟩ : ∃ zz : Nat → Int32, (if n < 60 then xb_pt 60 g n x else g) = zz := ⟨_, rfl⟩
    have hP : w3[b + 41]? = some (ad (b + 41), .inl (cI, 60, .inl f5)) := by rw [← ef5]; exact hvw3_1
    have hO : w3[b]? = some (ad b, .inr (7, [.ref (ad (b + 1)), .ref (ad (b + 14)), .ref (ad (b + 27)), .int fk, .int sk, .ref (ad (b + 40)), .ref (ad (b + 42)), .ref (ad (b + 58)), .ref (ad (b + 60)), .ref (ad (b + 61))])) := hsw3.at hO (by omega)
    have hSw3 : xv_S ws w3 (b + 40) 2 := hsw3.mono (by omega) (by omega)
    refine xb_ifeq (tgt := 35) S dX7_say_22 (by decide) (fun c22 => ?_) (fun c22 => ?_)
    · skip
      replace c22 := of_decide_eq_false c22
      refine lv_bipush (v := (-4)) hx hb dX7_say_35 (by decide) ?_
      rw [hQ]
      exact xg_emi S hr hlk hK hG ⟨(by subst ex4 ef5; simp only [dj_sayR, c8, c22, if_true, if_false, Bool.false_eq_true]), hO, (by rw [show (dj_sayN n x) = x4 from (by subst ex4 ef5; simp only [dj_sayN, dj_sayF, c8, c22, if_true, if_false, Bool.false_eq_true])]; exact hPo), (by rw [show (dj_sayF n x g) = f5 from (by subst ex4 ef5; simp only [dj_sayN, dj_sayF, c8, c22, if_true, if_false, Bool.false_eq_true])]; exact hP), hSw3⟩ dX7_say_37
    · skip
      replace c22 := of_decide_eq_true c22
      refine lv_aload_n hx hb dX7_say_25 rfl (lv_at hl 0 rfl) ?_
      refine xg_get (C := RX7) (T := TX7) (N := 10) S hK hG (fun w h => List.mem_cons_of_mem _ (List.mem_append_left _ (List.mem_append_right _ (h)))) b hO rfl 5 (by decide) k0 (fun _ h9 => h9) rfl dX7_say_26 ?_
      refine xg_get (C := RX3) (T := TX3) (N := 2) S hK hG (fun w h => List.mem_cons_of_mem _ (List.mem_append_right _ (h))) (b + 40) hPo rfl 1 (by decide) k1 (fun _ h9 => h9) rfl dX7_say_29 ?_
      refine lv_goto (tgt := 37) hx hb dX7_say_32 (by decide) ?_
      rw [hQ]
      exact xg_emi S hr hlk hK hG ⟨(by subst ex4 ef5; simp only [dj_sayR, c8, c22, if_true, if_false, Bool.false_eq_true]), hO, (by rw [show (dj_sayN n x) = x4 from (by subst ex4 ef5; simp only [dj_sayN, dj_sayF, c8, c22, if_true, if_false, Bool.false_eq_true])]; exact hPo), (by rw [show (dj_sayF n x g) = f5 from (by subst ex4 ef5; simp only [dj_sayN, dj_sayF, c8, c22, if_true, if_false, Bool.false_eq_true])]; exact hP), hSw3⟩ dX7_say_37
  · skip
    refine lv_bipush (v := (-2)) hx hb dX7_say_11 (by decide) ?_
    rw [hQ]
    exact xg_emi S hr hlk hK hG ⟨(by skip; simp only [dj_sayR, c8, if_true, if_false, Bool.false_eq_true]), hO, (by rw [show (dj_sayN n x) = n from (by skip; simp only [dj_sayN, dj_sayF, c8, if_true, if_false, Bool.false_eq_true])]; exact hPo), (by rw [show (dj_sayF n x g) = g from (by skip; simp only [dj_sayN, dj_sayF, c8, if_true, if_false, Bool.false_eq_true])]; exact hP), xv_S.rf⟩ dX7_say_13
set_option maxHeartbeats 4000000 in
set_option maxRecDepth 100000 in
theorem mX7_wipe (l : Launch) (D : va_G) (cI cZ : ClassId) (bs : Nat) (ad : Nat → Nat) (ws : va_W) (b : Nat) (fk : Int32) (sk : Int32) (hO : ws[b]? = some (ad b, .inr (7, [.ref (ad (b + 1)), .ref (ad (b + 14)), .ref (ad (b + 27)), .int fk, .int sk, .ref (ad (b + 40)), .ref (ad (b + 42)), .ref (ad (b + 58)), .ref (ad (b + 60)), .ref (ad (b + 61))]))) (n : Int32) (hPo : ws[b + 40]? = some (ad (b + 40), .inr (3, [.ref (ad (b + 41)), .int n]))) (g : Nat → Int32) (hP : ws[b + 41]? = some (ad (b + 41), .inl (cI, 60, .inl g))) : Met l yX7_wipe wsX7_wipe ({ frames := 1, cells := 0, slots := 0, locals := 20 } : Room) (va_Pc [.ref (ad b)] (fun U => xg_W D cI cZ bs ws U)) (va_Qi (fun (r : Int32) (w : va_W) => r = n ∧ w[b]? = some (ad b, .inr (7, [.ref (ad (b + 1)), .ref (ad (b + 14)), .ref (ad (b + 27)), .int fk, .int sk, .ref (ad (b + 40)), .ref (ad (b + 42)), .ref (ad (b + 58)), .ref (ad (b + 60)), .ref (ad (b + 61))])) ∧ w[b + 40]? = some (ad (b + 40), .inr (3, [.ref (ad (b + 41)), .int 0])) ∧ w[b + 41]? = some (ad (b + 41), .inl (cI, 60, .inl g)) ∧ xv_S ws w (b + 40) 2) (fun w t => xg_W D cI cZ bs w t) (xg_A bs)) 0 0 (xg_A bs) := by
  refine xg_met cX7_wipe 2 (some .int) RX7 (by decide) rfl rfl (Nat.le_of_ble_eq_true rfl) ?_
  intro pg en s m below meth c ls S hr hlk hnm hB hl
  have hK := hB.1
  have hG := xg_start hB
  obtain ⟨hx, hb, hml, hown, hts⟩ := id S
  have hl : lv_has ls 2 [(0, .ref (ad b))] := hl
  obtain ⟨Q, hQ⟩ : ∃ Q, Q = MQ below (va_Qi (fun (r : Int32) (w : va_W) => r = n ∧ w[b]? = some (ad b, .inr (7, [.ref (ad (b + 1)), .ref (ad (b + 14)), .ref (ad (b + 27)), .int fk, .int sk, .ref (ad (b + 40)), .ref (ad (b + 42)), .ref (ad (b + 58)), .ref (ad (b + 60)), .ref (ad (b + 61))])) ∧ w[b + 40]? = some (ad (b + 40), .inr (3, [.ref (ad (b + 41)), .int 0])) ∧ w[b + 41]? = some (ad (b + 41), .inl (cI, 60, .inl g)) ∧ xv_S ws w (b + 40) 2) (fun w t => xg_W D cI cZ bs w t) (xg_A bs)) ([.ref (ad b)] : List Value).toArray s 0 0 (xg_A bs) := ⟨_, rfl⟩
  rw [← hQ]
  have k0 := hts (.fieldLink RX7 32 "DareBridge" "pad" "LDareBridge$Pad;") (List.mem_of_getElem? (i := 1) rfl)
  have k1 := hts (.fieldLink RX7 114 "DareBridge$Pad" "count" "I") (List.mem_of_getElem? (i := 2) rfl)
  refine lv_aload_n hx hb dX7_wipe_0 rfl (lv_at hl 0 rfl) ?_
  refine xg_get (C := RX7) (T := TX7) (N := 10) S hK hG (fun w h => List.mem_cons_of_mem _ (List.mem_append_left _ (List.mem_append_right _ (h)))) b hO rfl 5 (by decide) k0 (fun _ h9 => h9) rfl dX7_wipe_1 ?_
  refine xg_get (C := RX3) (T := TX3) (N := 2) S hK hG (fun w h => List.mem_cons_of_mem _ (List.mem_append_right _ (h))) (b + 40) hPo rfl 1 (by decide) k1 (fun _ h9 => h9) rfl dX7_wipe_4 ?_
  refine lv_istore_n (lv' := [(1, .int n), (0, .ref (ad b))]) hx hb dX7_wipe_7 rfl hl (by decide) rfl (fun ls hl => ?_)
  refine lv_aload_n hx hb dX7_wipe_8 rfl (lv_at hl 1 rfl) ?_
  refine xg_get (C := RX7) (T := TX7) (N := 10) S hK hG (fun w h => List.mem_cons_of_mem _ (List.mem_append_left _ (List.mem_append_right _ (h)))) b hO rfl 5 (by decide) k0 (fun _ h9 => h9) rfl dX7_wipe_9 ?_
  refine xg_mv (va_runV (As := []) (rest := []) S (mX3_clear l D cI cZ bs ad ws (b + 40) n hPo g hP) (cwV 0 hts gX7_wipe_X3_clear rfl rfl rfl (by decide +kernel) ⟨Nat.le_of_ble_eq_true rfl, Nat.le_of_ble_eq_true rfl⟩) (xg_preV hK hG (b + 40) hPo rfl rfl) rfl rfl hl.1 rfl (lv_room (Nat.le_of_ble_eq_true rfl)) dX7_wipe_12 ⟨Nat.zero_le _, Nat.zero_le _⟩) hG (fun w2 H locs hr1 hG => ?_)
  obtain ⟨hvw2_0, hvw2_1, hsw2⟩ := hr1
  have hPo : w2[b + 40]? = some (ad (b + 40), .inr (3, [.ref (ad (b + 41)), .int 0])) := hvw2_0
  have hP : w2[b + 41]? = some (ad (b + 41), .inl (cI, 60, .inl g)) := hvw2_1
  have hO : w2[b]? = some (ad b, .inr (7, [.ref (ad (b + 1)), .ref (ad (b + 14)), .ref (ad (b + 27)), .int fk, .int sk, .ref (ad (b + 40)), .ref (ad (b + 42)), .ref (ad (b + 58)), .ref (ad (b + 60)), .ref (ad (b + 61))])) := hsw2.at hO (by omega)
  have hSw2 : xv_S ws w2 (b + 40) 2 := hsw2.mono (by omega) (by omega)
  refine lv_iload_n hx hb dX7_wipe_15 rfl (lv_at hl 0 rfl) ?_
  rw [hQ]
  exact xg_emi S hr hlk hK hG ⟨(by skip; rfl), hO, hPo, hP, hSw2⟩ dX7_wipe_16
set_option maxHeartbeats 4000000 in
set_option maxRecDepth 100000 in
theorem mX7_fault (l : Launch) (D : va_G) (cI cZ : ClassId) (bs : Nat) (ad : Nat → Nat) (ws : va_W) (b : Nat) (fk : Int32) (sk : Int32) (hO : ws[b]? = some (ad b, .inr (7, [.ref (ad (b + 1)), .ref (ad (b + 14)), .ref (ad (b + 27)), .int fk, .int sk, .ref (ad (b + 40)), .ref (ad (b + 42)), .ref (ad (b + 58)), .ref (ad (b + 60)), .ref (ad (b + 61))]))) (n : Int32) (hPo : ws[b + 40]? = some (ad (b + 40), .inr (3, [.ref (ad (b + 41)), .int n]))) (g : Nat → Int32) (hP : ws[b + 41]? = some (ad (b + 41), .inl (cI, 60, .inl g))) (nn : Nat) (hnn : n = nI nn) (hn60 : nn ≤ 60) : Met l yX7_fault wsX7_fault ({ frames := 4, cells := 0, slots := 0, locals := 87 } : Room) (va_Pc [.ref (ad b)] (fun U => xg_W D cI cZ bs ws U)) (xg_Ri (fun r : Int32 => r = dp_flt g nn nn 0 0)) 0 0 xg_F := by
  refine xg_met cX7_fault 1 (some .int) RX7 (by decide) rfl rfl (Nat.le_of_ble_eq_true rfl) ?_
  intro pg en s m below meth c ls S hr hlk hnm hB hl
  have hK := hB.1
  have hG := xg_start hB
  obtain ⟨hx, hb, hml, hown, hts⟩ := id S
  have hl : lv_has ls 1 [(0, .ref (ad b))] := hl
  obtain ⟨Q, hQ⟩ : ∃ Q, Q = MQ below (xg_Ri (fun r : Int32 => r = dp_flt g nn nn 0 0)) ([.ref (ad b)] : List Value).toArray s 0 0 xg_F := ⟨_, rfl⟩
  rw [← hQ]
  have k0 := hts (.fieldLink RX7 32 "DareBridge" "pad" "LDareBridge$Pad;") (List.mem_of_getElem? (i := 1) rfl)
  refine lv_aload_n hx hb dX7_fault_0 rfl (lv_at hl 0 rfl) ?_
  refine xg_get (C := RX7) (T := TX7) (N := 10) S hK hG (fun w h => List.mem_cons_of_mem _ (List.mem_append_left _ (List.mem_append_right _ (h)))) b hO rfl 5 (by decide) k0 (fun _ h9 => h9) rfl dX7_fault_1 ?_
  refine xg_ri (va_runV (As := []) (rest := []) S (mX3_faultAt l D cI cZ bs ad ws (b + 40) n hPo g hP nn (by first | assumption | omega) (by first | assumption | omega)) (cwV 0 hts gX7_fault_X3_faultAt rfl rfl rfl (by decide +kernel) ⟨Nat.le_of_ble_eq_true rfl, Nat.le_of_ble_eq_true rfl⟩) (xg_preV hK hG (b + 40) hPo rfl rfl) rfl rfl hl.1 rfl (lv_room (Nat.le_of_ble_eq_true rfl)) dX7_fault_4 ⟨Nat.zero_le _, Nat.zero_le _⟩) (fun r1 hr1 => ?_)
  replace hr1 := hr1.symm; subst hr1
  rw [hQ]
  exact xg_eri S hr hlk (by skip; rfl) dX7_fault_7
set_option maxHeartbeats 4000000 in
set_option maxRecDepth 100000 in
theorem mX7_playSummer (l : Launch) (D : va_G) (cI cZ : ClassId) (bs : Nat) (ad : Nat → Nat) (ws : va_W) (b : Nat) (fk : Int32) (sk : Int32) (hO : ws[b]? = some (ad b, .inr (7, [.ref (ad (b + 1)), .ref (ad (b + 14)), .ref (ad (b + 27)), .int fk, .int sk, .ref (ad (b + 40)), .ref (ad (b + 42)), .ref (ad (b + 58)), .ref (ad (b + 60)), .ref (ad (b + 61))]))) (T : Nat → Nat → Int32) (hT : xv_T cI ad ws (b + 1) T) (n : Int32) (hPo : ws[b + 40]? = some (ad (b + 40), .inr (3, [.ref (ad (b + 41)), .int n]))) (g : Nat → Int32) (hP : ws[b + 41]? = some (ad (b + 41), .inl (cI, 60, .inl g))) (ev : Int32) (wh : Int32) (dn : Int32) (rf : Int32) (db : Int32) (he : Int32) (hSo : ws[b + 42]? = some (ad (b + 42), .inr (4, [.ref (ad (b + 43)), .ref (ad (b + 56)), .ref (ad (b + 57)), .int ev, .int wh, .int dn, .int rf, .int db, .int he]))) (TA : Nat → Nat → Int32) (hA : xv_T cI ad ws (b + 43) TA) (f : Nat → Int32) (hTi : ws[b + 56]? = some (ad (b + 56), .inl (cI, 36, .inl f))) (u : Int64) (v : Int64) (hCh : ws[b + 57]? = some (ad (b + 57), .inr (0, [.long u, .long v]))) (nn : Nat) (hnn : n = nI nn) (hn60 : nn ≤ 60) : Met l yX7_playSummer wsX7_playSummer ({ frames := 5, cells := 0, slots := 0, locals := 119 } : Room) (va_Pc [.ref (ad b)] (fun U => xg_W D cI cZ bs ws U)) (va_Qi (fun (r : Int32) (w : va_W) => r = dk_ret T g nn ∧ w[b]? = some (ad b, .inr (7, [.ref (ad (b + 1)), .ref (ad (b + 14)), .ref (ad (b + 27)), .int fk, .int sk, .ref (ad (b + 40)), .ref (ad (b + 42)), .ref (ad (b + 58)), .ref (ad (b + 60)), .ref (ad (b + 61))])) ∧ xv_T cI ad w (b + 1) T ∧ w[b + 40]? = some (ad (b + 40), .inr (3, [.ref (ad (b + 41)), .int n])) ∧ w[b + 41]? = some (ad (b + 41), .inl (cI, 60, .inl g)) ∧ w[b + 42]? = some (ad (b + 42), .inr (4, [.ref (ad (b + 43)), .ref (ad (b + 56)), .ref (ad (b + 57)), .int ((dk_ply T g nn (ev, wh, (TA, f, (he, u, v), (dn, rf, db)))).1), .int ((dk_ply T g nn (ev, wh, (TA, f, (he, u, v), (dn, rf, db)))).2.1), .int ((dk_ply T g nn (ev, wh, (TA, f, (he, u, v), (dn, rf, db)))).2.2.2.2.2.1), .int ((dk_ply T g nn (ev, wh, (TA, f, (he, u, v), (dn, rf, db)))).2.2.2.2.2.2.1), .int ((dk_ply T g nn (ev, wh, (TA, f, (he, u, v), (dn, rf, db)))).2.2.2.2.2.2.2), .int ((dk_ply T g nn (ev, wh, (TA, f, (he, u, v), (dn, rf, db)))).2.2.2.2.1.1)])) ∧ xv_T cI ad w (b + 43) ((dk_ply T g nn (ev, wh, (TA, f, (he, u, v), (dn, rf, db)))).2.2.1) ∧ w[b + 56]? = some (ad (b + 56), .inl (cI, 36, .inl ((dk_ply T g nn (ev, wh, (TA, f, (he, u, v), (dn, rf, db)))).2.2.2.1))) ∧ w[b + 57]? = some (ad (b + 57), .inr (0, [.long ((dk_ply T g nn (ev, wh, (TA, f, (he, u, v), (dn, rf, db)))).2.2.2.2.1.2.1), .long ((dk_ply T g nn (ev, wh, (TA, f, (he, u, v), (dn, rf, db)))).2.2.2.2.1.2.2)])) ∧ xv_S ws w (b + 42) 16) (fun w t => xg_W D cI cZ bs w t) (xg_A bs)) 0 0 (xg_A bs) := by
  refine xg_met cX7_playSummer 1 (some .int) RX7 (by decide) rfl rfl (Nat.le_of_ble_eq_true rfl) ?_
  intro pg en s m below meth c ls S hr hlk hnm hB hl
  have hK := hB.1
  have hG := xg_start hB
  obtain ⟨hx, hb, hml, hown, hts⟩ := id S
  have hl : lv_has ls 1 [(0, .ref (ad b))] := hl
  obtain ⟨Q, hQ⟩ : ∃ Q, Q = MQ below (va_Qi (fun (r : Int32) (w : va_W) => r = dk_ret T g nn ∧ w[b]? = some (ad b, .inr (7, [.ref (ad (b + 1)), .ref (ad (b + 14)), .ref (ad (b + 27)), .int fk, .int sk, .ref (ad (b + 40)), .ref (ad (b + 42)), .ref (ad (b + 58)), .ref (ad (b + 60)), .ref (ad (b + 61))])) ∧ xv_T cI ad w (b + 1) T ∧ w[b + 40]? = some (ad (b + 40), .inr (3, [.ref (ad (b + 41)), .int n])) ∧ w[b + 41]? = some (ad (b + 41), .inl (cI, 60, .inl g)) ∧ w[b + 42]? = some (ad (b + 42), .inr (4, [.ref (ad (b + 43)), .ref (ad (b + 56)), .ref (ad (b + 57)), .int ((dk_ply T g nn (ev, wh, (TA, f, (he, u, v), (dn, rf, db)))).1), .int ((dk_ply T g nn (ev, wh, (TA, f, (he, u, v), (dn, rf, db)))).2.1), .int ((dk_ply T g nn (ev, wh, (TA, f, (he, u, v), (dn, rf, db)))).2.2.2.2.2.1), .int ((dk_ply T g nn (ev, wh, (TA, f, (he, u, v), (dn, rf, db)))).2.2.2.2.2.2.1), .int ((dk_ply T g nn (ev, wh, (TA, f, (he, u, v), (dn, rf, db)))).2.2.2.2.2.2.2), .int ((dk_ply T g nn (ev, wh, (TA, f, (he, u, v), (dn, rf, db)))).2.2.2.2.1.1)])) ∧ xv_T cI ad w (b + 43) ((dk_ply T g nn (ev, wh, (TA, f, (he, u, v), (dn, rf, db)))).2.2.1) ∧ w[b + 56]? = some (ad (b + 56), .inl (cI, 36, .inl ((dk_ply T g nn (ev, wh, (TA, f, (he, u, v), (dn, rf, db)))).2.2.2.1))) ∧ w[b + 57]? = some (ad (b + 57), .inr (0, [.long ((dk_ply T g nn (ev, wh, (TA, f, (he, u, v), (dn, rf, db)))).2.2.2.2.1.2.1), .long ((dk_ply T g nn (ev, wh, (TA, f, (he, u, v), (dn, rf, db)))).2.2.2.2.1.2.2)])) ∧ xv_S ws w (b + 42) 16) (fun w t => xg_W D cI cZ bs w t) (xg_A bs)) ([.ref (ad b)] : List Value).toArray s 0 0 (xg_A bs) := ⟨_, rfl⟩
  rw [← hQ]
  have k0 := hts (.fieldLink RX7 32 "DareBridge" "pad" "LDareBridge$Pad;") (List.mem_of_getElem? (i := 1) rfl)
  have k1 := hts (.fieldLink RX7 39 "DareBridge" "summer" "LDareBridge$Summer;") (List.mem_of_getElem? (i := 2) rfl)
  have k2 := hts (.fieldLink RX7 10 "DareBridge" "now" "LDareBridge$Town;") (List.mem_of_getElem? (i := 3) rfl)
  have k3 := hts (.fieldLink RX7 130 "DareBridge$Summer" "why" "I") (List.mem_of_getElem? (i := 4) rfl)
  refine lv_aload_n hx hb dX7_playSummer_0 rfl (lv_at hl 0 rfl) ?_
  refine xg_get (C := RX7) (T := TX7) (N := 10) S hK hG (fun w h => List.mem_cons_of_mem _ (List.mem_append_left _ (List.mem_append_left _ (List.mem_append_left _ (List.mem_append_left _ (List.mem_append_right _ (h))))))) b hO rfl 5 (by decide) k0 (fun _ h9 => h9) rfl dX7_playSummer_1 ?_
  refine xg_ri (va_runV (As := []) (rest := []) S (mX3_faultAt l D cI cZ bs ad ws (b + 40) n hPo g hP nn (by first | assumption | omega) (by first | assumption | omega)) (cwV 0 hts gX7_playSummer_X3_faultAt rfl rfl rfl (by decide +kernel) ⟨Nat.le_of_ble_eq_true rfl, Nat.le_of_ble_eq_true rfl⟩) (xg_preV hK hG (b + 40) hPo rfl rfl) rfl rfl hl.1 rfl (lv_room (Nat.le_of_ble_eq_true rfl)) dX7_playSummer_4 ⟨Nat.zero_le _, Nat.zero_le _⟩) (fun r1 hr1 => ?_)
  replace hr1 := hr1.symm; subst hr1
  refine lv_bipush (v := (-6)) hx hb dX7_playSummer_7 (by decide) ?_
  refine lv_icmp_eq (tgt := 15) hx hb dX7_playSummer_9 (by decide) (fun c9 => ?_) (fun c9 => ?_)
  · skip
    refine lv_aload_n hx hb dX7_playSummer_15 rfl (lv_at hl 0 rfl) ?_
    refine xg_get (C := RX7) (T := TX7) (N := 10) S hK hG (fun w h => List.mem_cons_of_mem _ (List.mem_append_left _ (List.mem_append_left _ (List.mem_append_left _ (List.mem_append_left _ (List.mem_append_right _ (h))))))) b hO rfl 6 (by decide) k1 (fun _ h9 => h9) rfl dX7_playSummer_16 ?_
    refine lv_aload_n hx hb dX7_playSummer_19 rfl (lv_at hl 0 rfl) ?_
    refine xg_get (C := RX7) (T := TX7) (N := 10) S hK hG (fun w h => List.mem_cons_of_mem _ (List.mem_append_left _ (List.mem_append_left _ (List.mem_append_left _ (List.mem_append_left _ (List.mem_append_right _ (h))))))) b hO rfl 5 (by decide) k0 (fun _ h9 => h9) rfl dX7_playSummer_20 ?_
    refine lv_aload_n hx hb dX7_playSummer_23 rfl (lv_at hl 0 rfl) ?_
    refine xg_get (C := RX7) (T := TX7) (N := 10) S hK hG (fun w h => List.mem_cons_of_mem _ (List.mem_append_left _ (List.mem_append_left _ (List.mem_append_left _ (List.mem_append_left _ (List.mem_append_right _ (h))))))) b hO rfl 0 (by decide) k2 (fun _ h9 => h9) rfl dX7_playSummer_24 ?_
    refine xg_mv (va_runV (As := [.ref (ad (b + 40)), .ref (ad (b + 1))]) (rest := []) S (mX4_play l D cI cZ bs ad ws (b + 42) (b + 40) (b + 1) ev wh dn rf db he hSo TA hA f hTi u v hCh n hPo g hP T hT nn (by first | assumption | omega) (by first | assumption | omega) (by first | assumption | omega) (by first | assumption | omega)) (cwV 2 hts gX7_playSummer_X4_play rfl rfl rfl (by decide +kernel) ⟨Nat.le_of_ble_eq_true rfl, Nat.le_of_ble_eq_true rfl⟩) (xg_preV hK hG (b + 42) hSo rfl rfl) rfl rfl hl.1 rfl (lv_room (Nat.le_of_ble_eq_true rfl)) dX7_playSummer_27 ⟨Nat.zero_le _, Nat.zero_le _⟩) hG (fun w3 H locs hr2 hG => ?_)
    obtain ⟨hvw3_0, hvw3_1, hvw3_2, hvw3_3, hvw3_4, hvw3_5, hvw3_6, hsw3⟩ := hr2
    have hSo : w3[b + 42]? = some (ad (b + 42), .inr (4, [.ref (ad (b + 43)), .ref (ad (b + 56)), .ref (ad (b + 57)), .int ((ds_sum T g nn).1), .int ((ds_sum T g nn).2.1), .int ((ds_sum T g nn).2.2.2.2.2.1), .int ((ds_sum T g nn).2.2.2.2.2.2.1), .int ((ds_sum T g nn).2.2.2.2.2.2.2), .int ((ds_sum T g nn).2.2.2.2.1.1)])) := hvw3_0
    obtain ⟨x4, ex4⟩ : ∃ zz : Int32, ((ds_sum T g nn).1) = zz := ⟨_, rfl⟩
    rw [ex4] at hSo
    obtain ⟨x5, ex5⟩ : ∃ zz : Int32, ((ds_sum T g nn).2.1) = zz := ⟨_, rfl⟩
    rw [ex5] at hSo
    obtain ⟨x6, ex6⟩ : ∃ zz : Int32, ((ds_sum T g nn).2.2.2.2.2.1) = zz := ⟨_, rfl⟩
    rw [ex6] at hSo
    obtain ⟨x7, ex7⟩ : ∃ zz : Int32, ((ds_sum T g nn).2.2.2.2.2.2.1) = zz := ⟨_, rfl⟩
    rw [ex7] at hSo
    obtain ⟨x8, ex8⟩ : ∃ zz : Int32, ((ds_sum T g nn).2.2.2.2.2.2.2) = zz := ⟨_, rfl⟩
    rw [ex8] at hSo
    obtain ⟨x9, ex9⟩ : ∃ zz : Int32, ((ds_sum T g nn).2.2.2.2.1.1) = zz := ⟨_, rfl⟩
    rw [ex9] at hSo
    have hA : xv_T cI ad w3 (b + 43) ((ds_sum T g nn).2.2.1) := hvw3_1
    obtain ⟨T10, eT10⟩ : ∃ zz : Nat → Nat → Int32, ((ds_sum T g nn).2.2.1) = zz := ⟨_, rfl⟩
    rw [eT10] at hA
    have hCh : w3[b + 57]? = some (ad (b + 57), .inr (0, [.long ((ds_sum T g nn).2.2.2.2.1.2.1), .long ((ds_sum T g nn).2.2.2.2.1.2.2)])) := hvw3_3
    obtain ⟨x11, ex11⟩ : ∃ zz : Int64, ((ds_sum T g nn).2.2.2.2.1.2.1) = zz := ⟨_, rfl⟩
    rw [ex11] at hCh
    obtain ⟨x12, ex12⟩ : ∃ zz : Int64, ((ds_sum T g nn).2.2.2.2.1.2.2) = zz := ⟨_, rfl⟩
    rw [ex12] at hCh
    have hPo : w3[b + 40]? = some (ad (b + 40), .inr (3, [.ref (ad (b + 41)), .int n])) := hvw3_4
    have hP : w3[b + 41]? = some (ad (b + 41), .inl (cI, 60, .inl g)) := hvw3_5
    have hT : xv_T cI ad w3 (b + 1) T := hvw3_6
    obtain ⟨f13, ef13⟩ : ∃ zz : Nat → Int32, ((ds_sum T g nn).2.2.2.1) = zz := ⟨_, rfl⟩
    have hTi : w3[b + 56]? = some (ad (b + 56), .inl (cI, 36, .inl f13)) := by rw [← ef13]; exact hvw3_2
    have hO : w3[b]? = some (ad b, .inr (7, [.ref (ad (b + 1)), .ref (ad (b + 14)), .ref (ad (b + 27)), .int fk, .int sk, .ref (ad (b + 40)), .ref (ad (b + 42)), .ref (ad (b + 58)), .ref (ad (b + 60)), .ref (ad (b + 61))])) := hsw3.at hO (by omega)
    have hSw3 : xv_S ws w3 (b + 42) 16 := hsw3.mono (by omega) (by omega)
    refine lv_aload_n hx hb dX7_playSummer_30 rfl (lv_at hl 0 rfl) ?_
    refine xg_get (C := RX7) (T := TX7) (N := 10) S hK hG (fun w h => List.mem_cons_of_mem _ (List.mem_append_left _ (List.mem_append_left _ (List.mem_append_left _ (List.mem_append_left _ (List.mem_append_right _ (h))))))) b hO rfl 6 (by decide) k1 (fun _ h9 => h9) rfl dX7_playSummer_31 ?_
    refine xg_get (C := RX4) (T := TX4) (N := 9) S hK hG (fun w h => List.mem_cons_of_mem _ (List.mem_append_left _ (List.mem_append_left _ (List.mem_append_left _ (List.mem_append_right _ (h)))))) (b + 42) hSo rfl 4 (by decide) k3 (fun _ h9 => h9) rfl dX7_playSummer_34 ?_
    refine lv_if_eq (tgt := 45) hx hb dX7_playSummer_37 (by decide) (fun c37 => ?_) (fun c37 => ?_)
    · skip
      refine lv_iconst (v := 0) hx hb dX7_playSummer_45 (by decide) ?_
      have hfin : dk_ply T g nn (ev, wh, (TA, f, (he, u, v), (dn, rf, db))) = (x4, x5, (T10, f13, (x9, x11, x12), (x6, x7, x8))) := by subst ex4 ex5 ex6 ex7 ex8 ex9 eT10 ex11 ex12 ef13; rw [dk_ply, if_pos c9]
      rw [hQ]
      exact xg_emi S hr hlk hK hG ⟨(by subst ex4 ex5 ex6 ex7 ex8 ex9 eT10 ex11 ex12 ef13; simp only [dk_ret, c9, c37, if_true, if_false, Bool.false_eq_true]), hO, hT, hPo, hP, (by rw [hfin]; exact hSo), (by rw [hfin]; exact hA), (by rw [hfin]; exact hTi), (by rw [hfin]; exact hCh), hSw3⟩ dX7_playSummer_46
    · skip
      refine lv_bipush (v := (-3)) hx hb dX7_playSummer_40 (by decide) ?_
      refine lv_goto (tgt := 46) hx hb dX7_playSummer_42 (by decide) ?_
      have hfin : dk_ply T g nn (ev, wh, (TA, f, (he, u, v), (dn, rf, db))) = (x4, x5, (T10, f13, (x9, x11, x12), (x6, x7, x8))) := by subst ex4 ex5 ex6 ex7 ex8 ex9 eT10 ex11 ex12 ef13; rw [dk_ply, if_pos c9]
      rw [hQ]
      exact xg_emi S hr hlk hK hG ⟨(by subst ex4 ex5 ex6 ex7 ex8 ex9 eT10 ex11 ex12 ef13; simp only [dk_ret, c9, c37, if_true, if_false, Bool.false_eq_true]), hO, hT, hPo, hP, (by rw [hfin]; exact hSo), (by rw [hfin]; exact hA), (by rw [hfin]; exact hTi), (by rw [hfin]; exact hCh), hSw3⟩ dX7_playSummer_46
  · skip
    refine lv_bipush (v := (-5)) hx hb dX7_playSummer_12 (by decide) ?_
    have hfin : dk_ply T g nn (ev, wh, (TA, f, (he, u, v), (dn, rf, db))) = (ev, wh, (TA, f, (he, u, v), (dn, rf, db))) := by skip; exact if_neg c9
    rw [hQ]
    exact xg_emi S hr hlk hK hG ⟨(by skip; simp only [dk_ret, c9, if_true, if_false, Bool.false_eq_true]), hO, hT, hPo, hP, (by rw [hfin]; exact hSo), (by rw [hfin]; exact hA), (by rw [hfin]; exact hTi), (by rw [hfin]; exact hCh), xv_S.rf⟩ dX7_playSummer_14
