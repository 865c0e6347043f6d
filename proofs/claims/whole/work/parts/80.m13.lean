set_option maxHeartbeats 4000000 in
set_option maxRecDepth 100000 in
theorem mX8_passAll (l : Launch) (D : va_G) (cI cZ : ClassId) (bs : Nat) (ad : Nat → Nat) (ws : va_W) (b : Nat) (A : Nat → Nat → Int32) (I : Nat → Int32) (L : Int64) (hM : xv_M cI cZ ad ws b A I L) (q0 : Nat) (hq0 : I 44 = nI q0) (hq1 : q0 ≤ 100) : Met l yX8_passAll wsX8_passAll ({ frames := 1, cells := 0, slots := 0, locals := 22 } : Room) (va_Pc [.ref (ad b)] (fun U => xg_W D cI cZ bs ws U)) (va_Qv (fun w : va_W => xv_M cI cZ ad w b ((em_pas A I).1) ((em_pas A I).2) L ∧ xv_S ws w b 24) (fun w t => xg_W D cI cZ bs w t) (xg_A bs)) 0 0 (xg_A bs) := by
  refine xg_met cX8_passAll 2 none RX8 (by decide) rfl rfl (Nat.le_of_ble_eq_true rfl) ?_
  intro pg en s m below meth c ls S hr hlk hnm hB hl
  have hK := hB.1
  have hG := xg_start hB
  obtain ⟨hx, hb, hml, hown, hts⟩ := id S
  have hl : lv_has ls 2 [(0, .ref (ad b))] := hl
  obtain ⟨Q, hQ⟩ : ∃ Q, Q = MQ below (va_Qv (fun w : va_W => xv_M cI cZ ad w b ((em_pas A I).1) ((em_pas A I).2) L ∧ xv_S ws w b 24) (fun w t => xg_W D cI cZ bs w t) (xg_A bs)) ([.ref (ad b)] : List Value).toArray s 0 0 (xg_A bs) := ⟨_, rfl⟩
  rw [← hQ]
  have k0 := hts (.fieldLink RX8 109 "DareBridgeModel" "people" "I") (List.mem_of_getElem? (i := 1) rfl)
  have k1 := hts (.fieldLink RX8 80 "DareBridgeModel" "step" "I") (List.mem_of_getElem? (i := 2) rfl)
  have k2 := hts (.fieldLink RX8 84 "DareBridgeModel" "start" "I") (List.mem_of_getElem? (i := 3) rfl)
  have k3 := hts (.fieldLink RX8 87 "DareBridgeModel" "cost" "I") (List.mem_of_getElem? (i := 4) rfl)
  have k4 := hts (.fieldLink RX8 90 "DareBridgeModel" "fade" "I") (List.mem_of_getElem? (i := 5) rfl)
  have k5 := hts (.fieldLink RX8 93 "DareBridgeModel" "plaster" "I") (List.mem_of_getElem? (i := 6) rfl)
  have k6 := hts (.fieldLink RX8 132 "DareBridgeModel" "wet" "I") (List.mem_of_getElem? (i := 7) rfl)
  have k7 := hts (.fieldLink RX8 96 "DareBridgeModel" "x" "I") (List.mem_of_getElem? (i := 8) rfl)
  have k8 := hts (.fieldLink RX8 322 "DareBridgeModel" "sights" "I") (List.mem_of_getElem? (i := 9) rfl)
  have k9 := hts (.fieldLink RX8 7 "DareBridgeModel" "skill" "[I") (List.mem_of_getElem? (i := 10) rfl)
  have k10 := hts (.fieldLink RX8 13 "DareBridgeModel" "fear" "[I") (List.mem_of_getElem? (i := 11) rfl)
  have k11 := hts (.fieldLink RX8 16 "DareBridgeModel" "pride" "[I") (List.mem_of_getElem? (i := 12) rfl)
  have k12 := hts (.fieldLink RX8 19 "DareBridgeModel" "wish" "[I") (List.mem_of_getElem? (i := 13) rfl)
  have k13 := hts (.fieldLink RX8 22 "DareBridgeModel" "high" "[I") (List.mem_of_getElem? (i := 14) rfl)
  have k14 := hts (.fieldLink RX8 25 "DareBridgeModel" "fame" "[I") (List.mem_of_getElem? (i := 15) rfl)
  have k15 := hts (.fieldLink RX8 28 "DareBridgeModel" "nights" "[I") (List.mem_of_getElem? (i := 16) rfl)
  have k16 := hts (.fieldLink RX8 31 "DareBridgeModel" "sightOf" "[I") (List.mem_of_getElem? (i := 17) rfl)
  have k17 := hts (.fieldLink RX8 34 "DareBridgeModel" "sightHeight" "[I") (List.mem_of_getElem? (i := 18) rfl)
  have k18 := hts (.fieldLink RX8 37 "DareBridgeModel" "sightDid" "[I") (List.mem_of_getElem? (i := 19) rfl)
  have hq : I 44 = nI (q0 + 0) := hq0
  have hp : em_pl em_slots (A, I) = em_pl [0, 8, 9, 10, 11, 12, 13, 14, 18] (A, I) := rfl
  refine lv_aload_n hx hb dX8_passAll_0 rfl (lv_at hl 0 rfl) ?_
  refine lv_aload_n hx hb dX8_passAll_1 rfl (lv_at hl 0 rfl) ?_
  refine lv_aload_n hx hb dX8_passAll_2 rfl (lv_at hl 0 rfl) ?_
  refine xg_get (C := RX8) (T := TX8) (N := 46) S hK hG (fun w h => List.mem_cons_of_mem _ (List.mem_append_right _ (h))) b hM.1 rfl 0 (by decide) k0 (fun _ h9 => h9) rfl dX8_passAll_3 ?_
  refine xg_mi (va_runV (As := [.int (I 0)]) (rest := [.ref (ad b)]) S (mX8_pass l D cI cZ bs ad ws b A I L hM (I 0) (by rw [hq]; exact vp_in_nI (by omega) (by decide))) (cwV 1 hts gX8_passAll_X8_pass rfl rfl rfl (by decide +kernel) ⟨Nat.le_of_ble_eq_true rfl, Nat.le_of_ble_eq_true rfl⟩) (xg_preV hK hG b hM.1 rfl rfl) rfl rfl hl.1 rfl (lv_room (Nat.le_of_ble_eq_true rfl)) dX8_passAll_6 ⟨Nat.zero_le _, Nat.zero_le _⟩) hG (fun r1 w2 H locs hr1 hG => ?_)
  obtain ⟨hr1, hvw2_0, hsw2⟩ := hr1
  replace hr1 := hr1.symm; subst hr1
  have hM : xv_M cI cZ ad w2 b (em_pvA A I (I 0)) (em_pvI I) L := hvw2_0
  obtain ⟨A3, eA3⟩ : ∃ zz : Nat → Nat → Int32, (em_pvA A I (I 0)) = zz := ⟨_, rfl⟩
  rw [eA3] at hM
  obtain ⟨I4, eI4⟩ : ∃ zz : Nat → Int32, (em_pvI I) = zz := ⟨_, rfl⟩
  rw [eI4] at hM
  have hSw2 : xv_S ws w2 b 24 := hsw2.mono (by omega) (by omega)
  have hq : I4 44 = nI (q0 + 1) := by rw [← eI4]; unfold em_pvI; rw [va_up_self, hq]; exact nI_1 _
  refine xg_put2 (C := RX8) (T := TX8) (N := 46) (v := .int (em_pv A I (I 0))) (ty := .int) S hK hG (fun w h => List.mem_cons_of_mem _ (List.mem_append_right _ (h))) tyX8 tyX8_ok nmX8 b hM.1 rfl 0 (by decide) k0 (fun _ h9 => h9) rfl (by decide +kernel) rfl rfl (Nat.le_of_ble_eq_true rfl) dX8_passAll_9 (fun w5 H locs hw5 hG => ?_)
  have hs6 : xv_S w2 w5 b 1 := by rw [hw5]; exact xv_S.set (by omega) (by omega)
  obtain ⟨I7, eI7⟩ : ∃ zz : Nat → Int32, (va_up I4 0 (em_pv A I (I 0))) = zz := ⟨_, rfl⟩
  have hM : xv_M cI cZ ad w5 b A3 I7 L := by rw [hw5, ← eI7]; exact hM.fld (va_up I4 0 (em_pv A I (I 0))) L rfl
  have hSw5 : xv_S ws w5 b 24 := hSw2.trans (hs6.mono (by omega) (by omega))
  have hq : I7 44 = nI (q0 + 1) := by rw [← eI7, va_up_ne _ _ (by decide)]; exact hq
  have hp : em_pl em_slots (A, I) = em_pl [8, 9, 10, 11, 12, 13, 14, 18] (A3, I7) := by rw [hp]; rw [em_pl]; unfold em_psI; rw [eA3, eI4, eI7]
  refine lv_aload_n hx hb dX8_passAll_12 rfl (lv_at hl 0 rfl) ?_
  refine lv_aload_n hx hb dX8_passAll_13 rfl (lv_at hl 0 rfl) ?_
  refine lv_aload_n hx hb dX8_passAll_14 rfl (lv_at hl 0 rfl) ?_
  refine xg_get (C := RX8) (T := TX8) (N := 46) S hK hG (fun w h => List.mem_cons_of_mem _ (List.mem_append_right _ (h))) b hM.1 rfl 8 (by decide) k1 (fun _ h9 => h9) rfl dX8_passAll_15 ?_
  refine xg_mi (va_runV (As := [.int (I7 8)]) (rest := [.ref (ad b)]) S (mX8_pass l D cI cZ bs ad w5 b A3 I7 L hM (I7 8) (by rw [hq]; exact vp_in_nI (by omega) (by decide))) (cwV 1 hts gX8_passAll_X8_pass rfl rfl rfl (by decide +kernel) ⟨Nat.le_of_ble_eq_true rfl, Nat.le_of_ble_eq_true rfl⟩) (xg_preV hK hG b hM.1 rfl rfl) rfl rfl hl.1 rfl (lv_room (Nat.le_of_ble_eq_true rfl)) dX8_passAll_18 ⟨Nat.zero_le _, Nat.zero_le _⟩) hG (fun r8 w9 H locs hr8 hG => ?_)
  obtain ⟨hr8, hvw9_0, hsw9⟩ := hr8
  replace hr8 := hr8.symm; subst hr8
  have hM : xv_M cI cZ ad w9 b (em_pvA A3 I7 (I7 8)) (em_pvI I7) L := hvw9_0
  obtain ⟨A10, eA10⟩ : ∃ zz : Nat → Nat → Int32, (em_pvA A3 I7 (I7 8)) = zz := ⟨_, rfl⟩
  rw [eA10] at hM
  obtain ⟨I11, eI11⟩ : ∃ zz : Nat → Int32, (em_pvI I7) = zz := ⟨_, rfl⟩
  rw [eI11] at hM
  have hSw9 : xv_S ws w9 b 24 := hSw5.trans (hsw9.mono (by omega) (by omega))
  have hq : I11 44 = nI (q0 + 2) := by rw [← eI11]; unfold em_pvI; rw [va_up_self, hq]; exact nI_1 _
  refine xg_put2 (C := RX8) (T := TX8) (N := 46) (v := .int (em_pv A3 I7 (I7 8))) (ty := .int) S hK hG (fun w h => List.mem_cons_of_mem _ (List.mem_append_right _ (h))) tyX8 tyX8_ok nmX8 b hM.1 rfl 8 (by decide) k1 (fun _ h9 => h9) rfl (by decide +kernel) rfl rfl (Nat.le_of_ble_eq_true rfl) dX8_passAll_21 (fun w12 H locs hw12 hG => ?_)
  have hs13 : xv_S w9 w12 b 1 := by rw [hw12]; exact xv_S.set (by omega) (by omega)
  obtain ⟨I14, eI14⟩ : ∃ zz : Nat → Int32, (va_up I11 8 (em_pv A3 I7 (I7 8))) = zz := ⟨_, rfl⟩
  have hM : xv_M cI cZ ad w12 b A10 I14 L := by rw [hw12, ← eI14]; exact hM.fld (va_up I11 8 (em_pv A3 I7 (I7 8))) L rfl
  have hSw12 : xv_S ws w12 b 24 := hSw9.trans (hs13.mono (by omega) (by omega))
  have hq : I14 44 = nI (q0 + 2) := by rw [← eI14, va_up_ne _ _ (by decide)]; exact hq
  have hp : em_pl em_slots (A, I) = em_pl [9, 10, 11, 12, 13, 14, 18] (A10, I14) := by rw [hp]; rw [em_pl]; unfold em_psI; rw [eA10, eI11, eI14]
  refine lv_aload_n hx hb dX8_passAll_24 rfl (lv_at hl 0 rfl) ?_
  refine lv_aload_n hx hb dX8_passAll_25 rfl (lv_at hl 0 rfl) ?_
  refine lv_aload_n hx hb dX8_passAll_26 rfl (lv_at hl 0 rfl) ?_
  refine xg_get (C := RX8) (T := TX8) (N := 46) S hK hG (fun w h => List.mem_cons_of_mem _ (List.mem_append_right _ (h))) b hM.1 rfl 9 (by decide) k2 (fun _ h9 => h9) rfl dX8_passAll_27 ?_
  refine xg_mi (va_runV (As := [.int (I14 9)]) (rest := [.ref (ad b)]) S (mX8_pass l D cI cZ bs ad w12 b A10 I14 L hM (I14 9) (by rw [hq]; exact vp_in_nI (by omega) (by decide))) (cwV 1 hts gX8_passAll_X8_pass rfl rfl rfl (by decide +kernel) ⟨Nat.le_of_ble_eq_true rfl, Nat.le_of_ble_eq_true rfl⟩) (xg_preV hK hG b hM.1 rfl rfl) rfl rfl hl.1 rfl (lv_room (Nat.le_of_ble_eq_true rfl)) dX8_passAll_30 ⟨Nat.zero_le _, Nat.zero_le _⟩) hG (fun r15 w16 H locs hr15 hG => ?_)
  obtain ⟨hr15, hvw16_0, hsw16⟩ := hr15
  replace hr15 := hr15.symm; subst hr15
  have hM : xv_M cI cZ ad w16 b (em_pvA A10 I14 (I14 9)) (em_pvI I14) L := hvw16_0
  obtain ⟨A17, eA17⟩ : ∃ zz : Nat → Nat → Int32, (em_pvA A10 I14 (I14 9)) = zz := ⟨_, rfl⟩
  rw [eA17] at hM
  obtain ⟨I18, eI18⟩ : ∃ zz : Nat → Int32, (em_pvI I14) = zz := ⟨_, rfl⟩
  rw [eI18] at hM
  have hSw16 : xv_S ws w16 b 24 := hSw12.trans (hsw16.mono (by omega) (by omega))
  have hq : I18 44 = nI (q0 + 3) := by rw [← eI18]; unfold em_pvI; rw [va_up_self, hq]; exact nI_1 _
  refine xg_put2 (C := RX8) (T := TX8) (N := 46) (v := .int (em_pv A10 I14 (I14 9))) (ty := .int) S hK hG (fun w h => List.mem_cons_of_mem _ (List.mem_append_right _ (h))) tyX8 tyX8_ok nmX8 b hM.1 rfl 9 (by decide) k2 (fun _ h9 => h9) rfl (by decide +kernel) rfl rfl (Nat.le_of_ble_eq_true rfl) dX8_passAll_33 (fun w19 H locs hw19 hG => ?_)
  have hs20 : xv_S w16 w19 b 1 := by rw [hw19]; exact xv_S.set (by omega) (by omega)
  obtain ⟨I21, eI21⟩ : ∃ zz : Nat → Int32, (va_up I18 9 (em_pv A10 I14 (I14 9))) = zz := ⟨_, rfl⟩
  have hM : xv_M cI cZ ad w19 b A17 I21 L := by rw [hw19, ← eI21]; exact hM.fld (va_up I18 9 (em_pv A10 I14 (I14 9))) L rfl
  have hSw19 : xv_S ws w19 b 24 := hSw16.trans (hs20.mono (by omega) (by omega))
  have hq : I21 44 = nI (q0 + 3) := by rw [← eI21, va_up_ne _ _ (by decide)]; exact hq
  have hp : em_pl em_slots (A, I) = em_pl [10, 11, 12, 13, 14, 18] (A17, I21) := by rw [hp]; rw [em_pl]; unfold em_psI; rw [eA17, eI18, eI21]
  refine lv_aload_n hx hb dX8_passAll_36 rfl (lv_at hl 0 rfl) ?_
  refine lv_aload_n hx hb dX8_passAll_37 rfl (lv_at hl 0 rfl) ?_
  refine lv_aload_n hx hb dX8_passAll_38 rfl (lv_at hl 0 rfl) ?_
  refine xg_get (C := RX8) (T := TX8) (N := 46) S hK hG (fun w h => List.mem_cons_of_mem _ (List.mem_append_right _ (h))) b hM.1 rfl 10 (by decide) k3 (fun _ h9 => h9) rfl dX8_passAll_39 ?_
  refine xg_mi (va_runV (As := [.int (I21 10)]) (rest := [.ref (ad b)]) S (mX8_pass l D cI cZ bs ad w19 b A17 I21 L hM (I21 10) (by rw [hq]; exact vp_in_nI (by omega) (by decide))) (cwV 1 hts gX8_passAll_X8_pass rfl rfl rfl (by decide +kernel) ⟨Nat.le_of_ble_eq_true rfl, Nat.le_of_ble_eq_true rfl⟩) (xg_preV hK hG b hM.1 rfl rfl) rfl rfl hl.1 rfl (lv_room (Nat.le_of_ble_eq_true rfl)) dX8_passAll_42 ⟨Nat.zero_le _, Nat.zero_le _⟩) hG (fun r22 w23 H locs hr22 hG => ?_)
  obtain ⟨hr22, hvw23_0, hsw23⟩ := hr22
  replace hr22 := hr22.symm; subst hr22
  have hM : xv_M cI cZ ad w23 b (em_pvA A17 I21 (I21 10)) (em_pvI I21) L := hvw23_0
  obtain ⟨A24, eA24⟩ : ∃ zz : Nat → Nat → Int32, (em_pvA A17 I21 (I21 10)) = zz := ⟨_, rfl⟩
  rw [eA24] at hM
  obtain ⟨I25, eI25⟩ : ∃ zz : Nat → Int32, (em_pvI I21) = zz := ⟨_, rfl⟩
  rw [eI25] at hM
  have hSw23 : xv_S ws w23 b 24 := hSw19.trans (hsw23.mono (by omega) (by omega))
  have hq : I25 44 = nI (q0 + 4) := by rw [← eI25]; unfold em_pvI; rw [va_up_self, hq]; exact nI_1 _
  refine xg_put2 (C := RX8) (T := TX8) (N := 46) (v := .int (em_pv A17 I21 (I21 10))) (ty := .int) S hK hG (fun w h => List.mem_cons_of_mem _ (List.mem_append_right _ (h))) tyX8 tyX8_ok nmX8 b hM.1 rfl 10 (by decide) k3 (fun _ h9 => h9) rfl (by decide +kernel) rfl rfl (Nat.le_of_ble_eq_true rfl) dX8_passAll_45 (fun w26 H locs hw26 hG => ?_)
  have hs27 : xv_S w23 w26 b 1 := by rw [hw26]; exact xv_S.set (by omega) (by omega)
  obtain ⟨I28, eI28⟩ : ∃ zz : Nat → Int32, (va_up I25 10 (em_pv A17 I21 (I21 10))) = zz := ⟨_, rfl⟩
  have hM : xv_M cI cZ ad w26 b A24 I28 L := by rw [hw26, ← eI28]; exact hM.fld (va_up I25 10 (em_pv A17 I21 (I21 10))) L rfl
  have hSw26 : xv_S ws w26 b 24 := hSw23.trans (hs27.mono (by omega) (by omega))
  have hq : I28 44 = nI (q0 + 4) := by rw [← eI28, va_up_ne _ _ (by decide)]; exact hq
  have hp : em_pl em_slots (A, I) = em_pl [11, 12, 13, 14, 18] (A24, I28) := by rw [hp]; rw [em_pl]; unfold em_psI; rw [eA24, eI25, eI28]
  refine lv_aload_n hx hb dX8_passAll_48 rfl (lv_at hl 0 rfl) ?_
  refine lv_aload_n hx hb dX8_passAll_49 rfl (lv_at hl 0 rfl) ?_
  refine lv_aload_n hx hb dX8_passAll_50 rfl (lv_at hl 0 rfl) ?_
  refine xg_get (C := RX8) (T := TX8) (N := 46) S hK hG (fun w h => List.mem_cons_of_mem _ (List.mem_append_right _ (h))) b hM.1 rfl 11 (by decide) k4 (fun _ h9 => h9) rfl dX8_passAll_51 ?_
  refine xg_mi (va_runV (As := [.int (I28 11)]) (rest := [.ref (ad b)]) S (mX8_pass l D cI cZ bs ad w26 b A24 I28 L hM (I28 11) (by rw [hq]; exact vp_in_nI (by omega) (by decide))) (cwV 1 hts gX8_passAll_X8_pass rfl rfl rfl (by decide +kernel) ⟨Nat.le_of_ble_eq_true rfl, Nat.le_of_ble_eq_true rfl⟩) (xg_preV hK hG b hM.1 rfl rfl) rfl rfl hl.1 rfl (lv_room (Nat.le_of_ble_eq_true rfl)) dX8_passAll_54 ⟨Nat.zero_le _, Nat.zero_le _⟩) hG (fun r29 w30 H locs hr29 hG => ?_)
  obtain ⟨hr29, hvw30_0, hsw30⟩ := hr29
  replace hr29 := hr29.symm; subst hr29
  have hM : xv_M cI cZ ad w30 b (em_pvA A24 I28 (I28 11)) (em_pvI I28) L := hvw30_0
  obtain ⟨A31, eA31⟩ : ∃ zz : Nat → Nat → Int32, (em_pvA A24 I28 (I28 11)) = zz := ⟨_, rfl⟩
  rw [eA31] at hM
  obtain ⟨I32, eI32⟩ : ∃ zz : Nat → Int32, (em_pvI I28) = zz := ⟨_, rfl⟩
  rw [eI32] at hM
  have hSw30 : xv_S ws w30 b 24 := hSw26.trans (hsw30.mono (by omega) (by omega))
  have hq : I32 44 = nI (q0 + 5) := by rw [← eI32]; unfold em_pvI; rw [va_up_self, hq]; exact nI_1 _
  refine xg_put2 (C := RX8) (T := TX8) (N := 46) (v := .int (em_pv A24 I28 (I28 11))) (ty := .int) S hK hG (fun w h => List.mem_cons_of_mem _ (List.mem_append_right _ (h))) tyX8 tyX8_ok nmX8 b hM.1 rfl 11 (by decide) k4 (fun _ h9 => h9) rfl (by decide +kernel) rfl rfl (Nat.le_of_ble_eq_true rfl) dX8_passAll_57 (fun w33 H locs hw33 hG => ?_)
  have hs34 : xv_S w30 w33 b 1 := by rw [hw33]; exact xv_S.set (by omega) (by omega)
  obtain ⟨I35, eI35⟩ : ∃ zz : Nat → Int32, (va_up I32 11 (em_pv A24 I28 (I28 11))) = zz := ⟨_, rfl⟩
  have hM : xv_M cI cZ ad w33 b A31 I35 L := by rw [hw33, ← eI35]; exact hM.fld (va_up I32 11 (em_pv A24 I28 (I28 11))) L rfl
  have hSw33 : xv_S ws w33 b 24 := hSw30.trans (hs34.mono (by omega) (by omega))
  have hq : I35 44 = nI (q0 + 5) := by rw [← eI35, va_up_ne _ _ (by decide)]; exact hq
  have hp : em_pl em_slots (A, I) = em_pl [12, 13, 14, 18] (A31, I35) := by rw [hp]; rw [em_pl]; unfold em_psI; rw [eA31, eI32, eI35]
  refine lv_aload_n hx hb dX8_passAll_60 rfl (lv_at hl 0 rfl) ?_
  refine lv_aload_n hx hb dX8_passAll_61 rfl (lv_at hl 0 rfl) ?_
  refine lv_aload_n hx hb dX8_passAll_62 rfl (lv_at hl 0 rfl) ?_
  refine xg_get (C := RX8) (T := TX8) (N := 46) S hK hG (fun w h => List.mem_cons_of_mem _ (List.mem_append_right _ (h))) b hM.1 rfl 12 (by decide) k5 (fun _ h9 => h9) rfl dX8_passAll_63 ?_
  refine xg_mi (va_runV (As := [.int (I35 12)]) (rest := [.ref (ad b)]) S (mX8_pass l D cI cZ bs ad w33 b A31 I35 L hM (I35 12) (by rw [hq]; exact vp_in_nI (by omega) (by decide))) (cwV 1 hts gX8_passAll_X8_pass rfl rfl rfl (by decide +kernel) ⟨Nat.le_of_ble_eq_true rfl, Nat.le_of_ble_eq_true rfl⟩) (xg_preV hK hG b hM.1 rfl rfl) rfl rfl hl.1 rfl (lv_room (Nat.le_of_ble_eq_true rfl)) dX8_passAll_66 ⟨Nat.zero_le _, Nat.zero_le _⟩) hG (fun r36 w37 H locs hr36 hG => ?_)
  obtain ⟨hr36, hvw37_0, hsw37⟩ := hr36
  replace hr36 := hr36.symm; subst hr36
  have hM : xv_M cI cZ ad w37 b (em_pvA A31 I35 (I35 12)) (em_pvI I35) L := hvw37_0
  obtain ⟨A38, eA38⟩ : ∃ zz : Nat → Nat → Int32, (em_pvA A31 I35 (I35 12)) = zz := ⟨_, rfl⟩
  rw [eA38] at hM
  obtain ⟨I39, eI39⟩ : ∃ zz : Nat → Int32, (em_pvI I35) = zz := ⟨_, rfl⟩
  rw [eI39] at hM
  have hSw37 : xv_S ws w37 b 24 := hSw33.trans (hsw37.mono (by omega) (by omega))
  have hq : I39 44 = nI (q0 + 6) := by rw [← eI39]; unfold em_pvI; rw [va_up_self, hq]; exact nI_1 _
  refine xg_put2 (C := RX8) (T := TX8) (N := 46) (v := .int (em_pv A31 I35 (I35 12))) (ty := .int) S hK hG (fun w h => List.mem_cons_of_mem _ (List.mem_append_right _ (h))) tyX8 tyX8_ok nmX8 b hM.1 rfl 12 (by decide) k5 (fun _ h9 => h9) rfl (by decide +kernel) rfl rfl (Nat.le_of_ble_eq_true rfl) dX8_passAll_69 (fun w40 H locs hw40 hG => ?_)
  have hs41 : xv_S w37 w40 b 1 := by rw [hw40]; exact xv_S.set (by omega) (by omega)
  obtain ⟨I42, eI42⟩ : ∃ zz : Nat → Int32, (va_up I39 12 (em_pv A31 I35 (I35 12))) = zz := ⟨_, rfl⟩
  have hM : xv_M cI cZ ad w40 b A38 I42 L := by rw [hw40, ← eI42]; exact hM.fld (va_up I39 12 (em_pv A31 I35 (I35 12))) L rfl
  have hSw40 : xv_S ws w40 b 24 := hSw37.trans (hs41.mono (by omega) (by omega))
  have hq : I42 44 = nI (q0 + 6) := by rw [← eI42, va_up_ne _ _ (by decide)]; exact hq
  have hp : em_pl em_slots (A, I) = em_pl [13, 14, 18] (A38, I42) := by rw [hp]; rw [em_pl]; unfold em_psI; rw [eA38, eI39, eI42]
  refine lv_aload_n hx hb dX8_passAll_72 rfl (lv_at hl 0 rfl) ?_
  refine lv_aload_n hx hb dX8_passAll_73 rfl (lv_at hl 0 rfl) ?_
  refine lv_aload_n hx hb dX8_passAll_74 rfl (lv_at hl 0 rfl) ?_
  refine xg_get (C := RX8) (T := TX8) (N := 46) S hK hG (fun w h => List.mem_cons_of_mem _ (List.mem_append_right _ (h))) b hM.1 rfl 13 (by decide) k6 (fun _ h9 => h9) rfl dX8_passAll_75 ?_
  refine xg_mi (va_runV (As := [.int (I42 13)]) (rest := [.ref (ad b)]) S (mX8_pass l D cI cZ bs ad w40 b A38 I42 L hM (I42 13) (by rw [hq]; exact vp_in_nI (by omega) (by decide))) (cwV 1 hts gX8_passAll_X8_pass rfl rfl rfl (by decide +kernel) ⟨Nat.le_of_ble_eq_true rfl, Nat.le_of_ble_eq_true rfl⟩) (xg_preV hK hG b hM.1 rfl rfl) rfl rfl hl.1 rfl (lv_room (Nat.le_of_ble_eq_true rfl)) dX8_passAll_78 ⟨Nat.zero_le _, Nat.zero_le _⟩) hG (fun r43 w44 H locs hr43 hG => ?_)
  obtain ⟨hr43, hvw44_0, hsw44⟩ := hr43
  replace hr43 := hr43.symm; subst hr43
  have hM : xv_M cI cZ ad w44 b (em_pvA A38 I42 (I42 13)) (em_pvI I42) L := hvw44_0
  obtain ⟨A45, eA45⟩ : ∃ zz : Nat → Nat → Int32, (em_pvA A38 I42 (I42 13)) = zz := ⟨_, rfl⟩
  rw [eA45] at hM
  obtain ⟨I46, eI46⟩ : ∃ zz : Nat → Int32, (em_pvI I42) = zz := ⟨_, rfl⟩
  rw [eI46] at hM
  have hSw44 : xv_S ws w44 b 24 := hSw40.trans (hsw44.mono (by omega) (by omega))
  have hq : I46 44 = nI (q0 + 7) := by rw [← eI46]; unfold em_pvI; rw [va_up_self, hq]; exact nI_1 _
  refine xg_put2 (C := RX8) (T := TX8) (N := 46) (v := .int (em_pv A38 I42 (I42 13))) (ty := .int) S hK hG (fun w h => List.mem_cons_of_mem _ (List.mem_append_right _ (h))) tyX8 tyX8_ok nmX8 b hM.1 rfl 13 (by decide) k6 (fun _ h9 => h9) rfl (by decide +kernel) rfl rfl (Nat.le_of_ble_eq_true rfl) dX8_passAll_81 (fun w47 H locs hw47 hG => ?_)
  have hs48 : xv_S w44 w47 b 1 := by rw [hw47]; exact xv_S.set (by omega) (by omega)
  obtain ⟨I49, eI49⟩ : ∃ zz : Nat → Int32, (va_up I46 13 (em_pv A38 I42 (I42 13))) = zz := ⟨_, rfl⟩
  have hM : xv_M cI cZ ad w47 b A45 I49 L := by rw [hw47, ← eI49]; exact hM.fld (va_up I46 13 (em_pv A38 I42 (I42 13))) L rfl
  have hSw47 : xv_S ws w47 b 24 := hSw44.trans (hs48.mono (by omega) (by omega))
  have hq : I49 44 = nI (q0 + 7) := by rw [← eI49, va_up_ne _ _ (by decide)]; exact hq
  have hp : em_pl em_slots (A, I) = em_pl [14, 18] (A45, I49) := by rw [hp]; rw [em_pl]; unfold em_psI; rw [eA45, eI46, eI49]
  refine lv_aload_n hx hb dX8_passAll_84 rfl (lv_at hl 0 rfl) ?_
  refine lv_aload_n hx hb dX8_passAll_85 rfl (lv_at hl 0 rfl) ?_
  refine lv_aload_n hx hb dX8_passAll_86 rfl (lv_at hl 0 rfl) ?_
  refine xg_get (C := RX8) (T := TX8) (N := 46) S hK hG (fun w h => List.mem_cons_of_mem _ (List.mem_append_right _ (h))) b hM.1 rfl 14 (by decide) k7 (fun _ h9 => h9) rfl dX8_passAll_87 ?_
  refine xg_mi (va_runV (As := [.int (I49 14)]) (rest := [.ref (ad b)]) S (mX8_pass l D cI cZ bs ad w47 b A45 I49 L hM (I49 14) (by rw [hq]; exact vp_in_nI (by omega) (by decide))) (cwV 1 hts gX8_passAll_X8_pass rfl rfl rfl (by decide +kernel) ⟨Nat.le_of_ble_eq_true rfl, Nat.le_of_ble_eq_true rfl⟩) (xg_preV hK hG b hM.1 rfl rfl) rfl rfl hl.1 rfl (lv_room (Nat.le_of_ble_eq_true rfl)) dX8_passAll_90 ⟨Nat.zero_le _, Nat.zero_le _⟩) hG (fun r50 w51 H locs hr50 hG => ?_)
  obtain ⟨hr50, hvw51_0, hsw51⟩ := hr50
  replace hr50 := hr50.symm; subst hr50
  have hM : xv_M cI cZ ad w51 b (em_pvA A45 I49 (I49 14)) (em_pvI I49) L := hvw51_0
  obtain ⟨A52, eA52⟩ : ∃ zz : Nat → Nat → Int32, (em_pvA A45 I49 (I49 14)) = zz := ⟨_, rfl⟩
  rw [eA52] at hM
  obtain ⟨I53, eI53⟩ : ∃ zz : Nat → Int32, (em_pvI I49) = zz := ⟨_, rfl⟩
  rw [eI53] at hM
  have hSw51 : xv_S ws w51 b 24 := hSw47.trans (hsw51.mono (by omega) (by omega))
  have hq : I53 44 = nI (q0 + 8) := by rw [← eI53]; unfold em_pvI; rw [va_up_self, hq]; exact nI_1 _
  refine xg_put2 (C := RX8) (T := TX8) (N := 46) (v := .int (em_pv A45 I49 (I49 14))) (ty := .int) S hK hG (fun w h => List.mem_cons_of_mem _ (List.mem_append_right _ (h))) tyX8 tyX8_ok nmX8 b hM.1 rfl 14 (by decide) k7 (fun _ h9 => h9) rfl (by decide +kernel) rfl rfl (Nat.le_of_ble_eq_true rfl) dX8_passAll_93 (fun w54 H locs hw54 hG => ?_)
  have hs55 : xv_S w51 w54 b 1 := by rw [hw54]; exact xv_S.set (by omega) (by omega)
  obtain ⟨I56, eI56⟩ : ∃ zz : Nat → Int32, (va_up I53 14 (em_pv A45 I49 (I49 14))) = zz := ⟨_, rfl⟩
  have hM : xv_M cI cZ ad w54 b A52 I56 L := by rw [hw54, ← eI56]; exact hM.fld (va_up I53 14 (em_pv A45 I49 (I49 14))) L rfl
  have hSw54 : xv_S ws w54 b 24 := hSw51.trans (hs55.mono (by omega) (by omega))
  have hq : I56 44 = nI (q0 + 8) := by rw [← eI56, va_up_ne _ _ (by decide)]; exact hq
  have hp : em_pl em_slots (A, I) = em_pl [18] (A52, I56) := by rw [hp]; rw [em_pl]; unfold em_psI; rw [eA52, eI53, eI56]
  refine lv_aload_n hx hb dX8_passAll_96 rfl (lv_at hl 0 rfl) ?_
  refine lv_aload_n hx hb dX8_passAll_97 rfl (lv_at hl 0 rfl) ?_
  refine lv_aload_n hx hb dX8_passAll_98 rfl (lv_at hl 0 rfl) ?_
  refine xg_get (C := RX8) (T := TX8) (N := 46) S hK hG (fun w h => List.mem_cons_of_mem _ (List.mem_append_right _ (h))) b hM.1 rfl 18 (by decide) k8 (fun _ h9 => h9) rfl dX8_passAll_99 ?_
  refine xg_mi (va_runV (As := [.int (I56 18)]) (rest := [.ref (ad b)]) S (mX8_pass l D cI cZ bs ad w54 b A52 I56 L hM (I56 18) (by rw [hq]; exact vp_in_nI (by omega) (by decide))) (cwV 1 hts gX8_passAll_X8_pass rfl rfl rfl (by decide +kernel) ⟨Nat.le_of_ble_eq_true rfl, Nat.le_of_ble_eq_true rfl⟩) (xg_preV hK hG b hM.1 rfl rfl) rfl rfl hl.1 rfl (lv_room (Nat.le_of_ble_eq_true rfl)) dX8_passAll_102 ⟨Nat.zero_le _, Nat.zero_le _⟩) hG (fun r57 w58 H locs hr57 hG => ?_)
  obtain ⟨hr57, hvw58_0, hsw58⟩ := hr57
  replace hr57 := hr57.symm; subst hr57
  have hM : xv_M cI cZ ad w58 b (em_pvA A52 I56 (I56 18)) (em_pvI I56) L := hvw58_0
  obtain ⟨A59, eA59⟩ : ∃ zz : Nat → Nat → Int32, (em_pvA A52 I56 (I56 18)) = zz := ⟨_, rfl⟩
  rw [eA59] at hM
  obtain ⟨I60, eI60⟩ : ∃ zz : Nat → Int32, (em_pvI I56) = zz := ⟨_, rfl⟩
  rw [eI60] at hM
  have hSw58 : xv_S ws w58 b 24 := hSw54.trans (hsw58.mono (by omega) (by omega))
  have hq : I60 44 = nI (q0 + 9) := by rw [← eI60]; unfold em_pvI; rw [va_up_self, hq]; exact nI_1 _
  refine xg_put2 (C := RX8) (T := TX8) (N := 46) (v := .int (em_pv A52 I56 (I56 18))) (ty := .int) S hK hG (fun w h => List.mem_cons_of_mem _ (List.mem_append_right _ (h))) tyX8 tyX8_ok nmX8 b hM.1 rfl 18 (by decide) k8 (fun _ h9 => h9) rfl (by decide +kernel) rfl rfl (Nat.le_of_ble_eq_true rfl) dX8_passAll_105 (fun w61 H locs hw61 hG => ?_)
  have hs62 : xv_S w58 w61 b 1 := by rw [hw61]; exact xv_S.set (by omega) (by omega)
  obtain ⟨I63, eI63⟩ : ∃ zz : Nat → Int32, (va_up I60 18 (em_pv A52 I56 (I56 18))) = zz := ⟨_, rfl⟩
  have hM : xv_M cI cZ ad w61 b A59 I63 L := by rw [hw61, ← eI63]; exact hM.fld (va_up I60 18 (em_pv A52 I56 (I56 18))) L rfl
  have hSw61 : xv_S ws w61 b 24 := hSw58.trans (hs62.mono (by omega) (by omega))
  have hq : I63 44 = nI (q0 + 9) := by rw [← eI63, va_up_ne _ _ (by decide)]; exact hq
  have hp : em_pl em_slots (A, I) = em_pl [] (A59, I63) := by rw [hp]; simp only [em_pl]; unfold em_psI; rw [eA59, eI60, eI63]
  refine lv_iconst (v := 0) hx hb dX8_passAll_108 (by decide) ?_
  refine lv_istore_n (lv' := [(1, .int 0), (0, .ref (ad b))]) hx hb dX8_passAll_109 rfl hl (by decide) rfl (fun ls hl => ?_)
  -- the loop at 110
  have lp110 : ∀ (fu : Nat) (k : Nat) (A1 : Nat → Nat → Int32) (I1 : Nat → Int32), (k ≤ 6) → (7 ≤ k + fu) → (I1 44 = nI (q0 + 9 + 10 * k)) → (em_pas A I = em_pk (6 - k) k (A1, I1)) → ∀ y110_1 : Int32, y110_1 = nI k → ∀ (w110 : va_W) (H : Heap) (locs : List Loc), xg_H D bs w110 s.heap H locs → (xv_M cI cZ ad w110 b A1 I1 L) → xv_S ws w110 b 24 → ∀ (ls : Array Slot), lv_has ls 2 [(0, .ref (ad b)), (1, .int y110_1)] → W pg l en ({ frames := 1, cells := 0, slots := 0, locals := 22 } : Room) s m ([.ref (ad b)] : List Value).toArray below meth c H locs 0 0 Q (F0 m 110 ls []) := by
    intro fu
    induction fu with
    | zero =>
      intro k A1 I1 hk hf hq hr2
      exact absurd hf (by omega)
    | succ fu ih110 =>
      intro k A1 I1 hk hf hq hr2 y110_1 ey110_1
      intro w110 H locs hG hM hSw110
      intro ls hl
      replace ey110_1 := ey110_1.symm; subst ey110_1
      refine lv_iload_n hx hb dX8_passAll_110 rfl (lv_at hl 1 rfl) ?_
      refine lv_bipush (v := 6) hx hb dX8_passAll_111 (by decide) ?_
      refine lv_icmp_ge (tgt := 282) hx hb dX8_passAll_113 (by decide) (fun c113 => ?_) (fun c113 => ?_)
      · skip
        have hk9 : k = 6 := by have := xb_le (k := k) (n := 6) (by omega) (by decide) c113; omega
        have hfin : em_pas A I = (A1, I1) := by rw [hr2, hk9]; rfl
        rw [hQ]
        exact xg_emv S hr hlk hK hG ⟨(by rw [hfin]; exact hM), hSw110⟩ dX8_passAll_282
      · skip
        have hk9 : k < 6 := xb_lt (by omega) (by decide) c113
        have hkc : (nI k).toNatClampNeg = k := xb_cl (by omega)
        have hq : I1 44 = nI (q0 + 9 + 10 * k + 0) := hq
        have hp : em_pr k em_rows (A1, I1) = em_pr k [0, 1, 2, 3, 4, 5, 6, 7, 8, 9] (A1, I1) := rfl
        refine lv_aload_n hx hb dX8_passAll_116 rfl (lv_at hl 0 rfl) ?_
        refine xg_get (C := RX8) (T := TX8) (N := 46) S hK hG (fun w h => List.mem_cons_of_mem _ (List.mem_append_right _ (h))) b hM.1 rfl 1 (by decide) k9 (fun _ h9 => h9) rfl dX8_passAll_117 ?_
        refine lv_iload_n hx hb dX8_passAll_120 rfl (lv_at hl 1 rfl) ?_
        refine lv_aload_n hx hb dX8_passAll_121 rfl (lv_at hl 0 rfl) ?_
        refine lv_aload_n hx hb dX8_passAll_122 rfl (lv_at hl 0 rfl) ?_
        refine xg_get (C := RX8) (T := TX8) (N := 46) S hK hG (fun w h => List.mem_cons_of_mem _ (List.mem_append_right _ (h))) b hM.1 rfl 1 (by decide) k9 (fun _ h9 => h9) rfl dX8_passAll_123 ?_
        refine lv_iload_n hx hb dX8_passAll_126 rfl (lv_at hl 1 rfl) ?_
        refine xg_ald S hK hG (b + 1) (show w110[b + 1]? = some (ad (b + 1), .inl (cI, 6, .inl (A1 0))) from hM.2.1 0 (by decide)) (i := nI k) (by first | assumption | exact vp_in_nI (by omega) (by decide)) dX8_passAll_127 ?_
        refine xg_mi (va_runV (As := [.int ((A1 0) ((nI k).toNatClampNeg))]) (rest := [.int (nI k), .ref (ad (b + 1))]) S (mX8_pass l D cI cZ bs ad w110 b A1 I1 L hM ((A1 0) ((nI k).toNatClampNeg)) (by rw [hq]; exact vp_in_nI (by omega) (by decide))) (cwV 1 hts gX8_passAll_X8_pass rfl rfl rfl (by decide +kernel) ⟨Nat.le_of_ble_eq_true rfl, Nat.le_of_ble_eq_true rfl⟩) (xg_preV hK hG b hM.1 rfl rfl) rfl rfl hl.1 rfl (lv_room (Nat.le_of_ble_eq_true rfl)) dX8_passAll_128 ⟨Nat.zero_le _, Nat.zero_le _⟩) hG (fun r64 w65 H locs hr64 hG => ?_)
        obtain ⟨hr64, hvw65_0, hsw65⟩ := hr64
        replace hr64 := hr64.symm; subst hr64
        have hM : xv_M cI cZ ad w65 b (em_pvA A1 I1 ((A1 0) ((nI k).toNatClampNeg))) (em_pvI I1) L := hvw65_0
        obtain ⟨A66, eA66⟩ : ∃ zz : Nat → Nat → Int32, (em_pvA A1 I1 ((A1 0) ((nI k).toNatClampNeg))) = zz := ⟨_, rfl⟩
        rw [eA66] at hM
        obtain ⟨I67, eI67⟩ : ∃ zz : Nat → Int32, (em_pvI I1) = zz := ⟨_, rfl⟩
        rw [eI67] at hM
        have hSw65 : xv_S ws w65 b 24 := hSw110.trans (hsw65.mono (by omega) (by omega))
        have hq : I67 44 = nI (q0 + 9 + 10 * k + 1) := by rw [← eI67]; unfold em_pvI; rw [va_up_self, hq]; exact nI_1 _
        refine xg_ast2 S hK hG (b + 1) (show w65[b + 1]? = some (ad (b + 1), .inl (cI, 6, .inl (A66 0))) from hM.2.1 0 (by decide)) (i := nI k) (x := em_pv A1 I1 ((A1 0) ((nI k).toNatClampNeg))) (by first | assumption | exact vp_in_nI (by omega) (by decide)) dX8_passAll_131 (fun w68 H locs hw68 hG => ?_)
        have hs69 : xv_S w65 w68 (b + 1) 1 := by rw [hw68]; exact xv_S.set (by omega) (by omega)
        obtain ⟨A70, eA70⟩ : ∃ zz : Nat → Nat → Int32, (va_up A66 0 (upd (A66 0) ((nI k).toNatClampNeg) (em_pv A1 I1 ((A1 0) ((nI k).toNatClampNeg))))) = zz := ⟨_, rfl⟩
        have hM : xv_M cI cZ ad w68 b A70 I67 L := by rw [hw68, ← eA70]; exact hM.row 0 (by decide)
        have hSw68 : xv_S ws w68 b 24 := hSw65.trans (hs69.mono (by omega) (by omega))
        rw [hkc] at eA66 eA70
        have hp : em_pr k em_rows (A1, I1) = em_pr k [1, 2, 3, 4, 5, 6, 7, 8, 9] (A70, I67) := by rw [hp]; rw [em_pr]; unfold em_psA; rw [eA66, eI67, eA70]
        refine lv_aload_n hx hb dX8_passAll_132 rfl (lv_at hl 0 rfl) ?_
        refine xg_get (C := RX8) (T := TX8) (N := 46) S hK hG (fun w h => List.mem_cons_of_mem _ (List.mem_append_right _ (h))) b hM.1 rfl 2 (by decide) k10 (fun _ h9 => h9) rfl dX8_passAll_133 ?_
        refine lv_iload_n hx hb dX8_passAll_136 rfl (lv_at hl 1 rfl) ?_
        refine lv_aload_n hx hb dX8_passAll_137 rfl (lv_at hl 0 rfl) ?_
        refine lv_aload_n hx hb dX8_passAll_138 rfl (lv_at hl 0 rfl) ?_
        refine xg_get (C := RX8) (T := TX8) (N := 46) S hK hG (fun w h => List.mem_cons_of_mem _ (List.mem_append_right _ (h))) b hM.1 rfl 2 (by decide) k10 (fun _ h9 => h9) rfl dX8_passAll_139 ?_
        refine lv_iload_n hx hb dX8_passAll_142 rfl (lv_at hl 1 rfl) ?_
        refine xg_ald S hK hG (b + 2) (show w68[b + 2]? = some (ad (b + 2), .inl (cI, 6, .inl (A70 1))) from hM.2.1 1 (by decide)) (i := nI k) (by first | assumption | exact vp_in_nI (by omega) (by decide)) dX8_passAll_143 ?_
        refine xg_mi (va_runV (As := [.int ((A70 1) ((nI k).toNatClampNeg))]) (rest := [.int (nI k), .ref (ad (b + 2))]) S (mX8_pass l D cI cZ bs ad w68 b A70 I67 L hM ((A70 1) ((nI k).toNatClampNeg)) (by rw [hq]; exact vp_in_nI (by omega) (by decide))) (cwV 1 hts gX8_passAll_X8_pass rfl rfl rfl (by decide +kernel) ⟨Nat.le_of_ble_eq_true rfl, Nat.le_of_ble_eq_true rfl⟩) (xg_preV hK hG b hM.1 rfl rfl) rfl rfl hl.1 rfl (lv_room (Nat.le_of_ble_eq_true rfl)) dX8_passAll_144 ⟨Nat.zero_le _, Nat.zero_le _⟩) hG (fun r71 w72 H locs hr71 hG => ?_)
        obtain ⟨hr71, hvw72_0, hsw72⟩ := hr71
        replace hr71 := hr71.symm; subst hr71
        have hM : xv_M cI cZ ad w72 b (em_pvA A70 I67 ((A70 1) ((nI k).toNatClampNeg))) (em_pvI I67) L := hvw72_0
        obtain ⟨A73, eA73⟩ : ∃ zz : Nat → Nat → Int32, (em_pvA A70 I67 ((A70 1) ((nI k).toNatClampNeg))) = zz := ⟨_, rfl⟩
        rw [eA73] at hM
        obtain ⟨I74, eI74⟩ : ∃ zz : Nat → Int32, (em_pvI I67) = zz := ⟨_, rfl⟩
        rw [eI74] at hM
        have hSw72 : xv_S ws w72 b 24 := hSw68.trans (hsw72.mono (by omega) (by omega))
        have hq : I74 44 = nI (q0 + 9 + 10 * k + 2) := by rw [← eI74]; unfold em_pvI; rw [va_up_self, hq]; exact nI_1 _
        refine xg_ast2 S hK hG (b + 2) (show w72[b + 2]? = some (ad (b + 2), .inl (cI, 6, .inl (A73 1))) from hM.2.1 1 (by decide)) (i := nI k) (x := em_pv A70 I67 ((A70 1) ((nI k).toNatClampNeg))) (by first | assumption | exact vp_in_nI (by omega) (by decide)) dX8_passAll_147 (fun w75 H locs hw75 hG => ?_)
        have hs76 : xv_S w72 w75 (b + 2) 1 := by rw [hw75]; exact xv_S.set (by omega) (by omega)
        obtain ⟨A77, eA77⟩ : ∃ zz : Nat → Nat → Int32, (va_up A73 1 (upd (A73 1) ((nI k).toNatClampNeg) (em_pv A70 I67 ((A70 1) ((nI k).toNatClampNeg))))) = zz := ⟨_, rfl⟩
        have hM : xv_M cI cZ ad w75 b A77 I74 L := by rw [hw75, ← eA77]; exact hM.row 1 (by decide)
        have hSw75 : xv_S ws w75 b 24 := hSw72.trans (hs76.mono (by omega) (by omega))
        rw [hkc] at eA73 eA77
        have hp : em_pr k em_rows (A1, I1) = em_pr k [2, 3, 4, 5, 6, 7, 8, 9] (A77, I74) := by rw [hp]; rw [em_pr]; unfold em_psA; rw [eA73, eI74, eA77]
        refine lv_aload_n hx hb dX8_passAll_148 rfl (lv_at hl 0 rfl) ?_
        refine xg_get (C := RX8) (T := TX8) (N := 46) S hK hG (fun w h => List.mem_cons_of_mem _ (List.mem_append_right _ (h))) b hM.1 rfl 3 (by decide) k11 (fun _ h9 => h9) rfl dX8_passAll_149 ?_
        refine lv_iload_n hx hb dX8_passAll_152 rfl (lv_at hl 1 rfl) ?_
        refine lv_aload_n hx hb dX8_passAll_153 rfl (lv_at hl 0 rfl) ?_
        refine lv_aload_n hx hb dX8_passAll_154 rfl (lv_at hl 0 rfl) ?_
        refine xg_get (C := RX8) (T := TX8) (N := 46) S hK hG (fun w h => List.mem_cons_of_mem _ (List.mem_append_right _ (h))) b hM.1 rfl 3 (by decide) k11 (fun _ h9 => h9) rfl dX8_passAll_155 ?_
        refine lv_iload_n hx hb dX8_passAll_158 rfl (lv_at hl 1 rfl) ?_
        refine xg_ald S hK hG (b + 3) (show w75[b + 3]? = some (ad (b + 3), .inl (cI, 6, .inl (A77 2))) from hM.2.1 2 (by decide)) (i := nI k) (by first | assumption | exact vp_in_nI (by omega) (by decide)) dX8_passAll_159 ?_
        refine xg_mi (va_runV (As := [.int ((A77 2) ((nI k).toNatClampNeg))]) (rest := [.int (nI k), .ref (ad (b + 3))]) S (mX8_pass l D cI cZ bs ad w75 b A77 I74 L hM ((A77 2) ((nI k).toNatClampNeg)) (by rw [hq]; exact vp_in_nI (by omega) (by decide))) (cwV 1 hts gX8_passAll_X8_pass rfl rfl rfl (by decide +kernel) ⟨Nat.le_of_ble_eq_true rfl, Nat.le_of_ble_eq_true rfl⟩) (xg_preV hK hG b hM.1 rfl rfl) rfl rfl hl.1 rfl (lv_room (Nat.le_of_ble_eq_true rfl)) dX8_passAll_160 ⟨Nat.zero_le _, Nat.zero_le _⟩) hG (fun r78 w79 H locs hr78 hG => ?_)
        obtain ⟨hr78, hvw79_0, hsw79⟩ := hr78
        replace hr78 := hr78.symm; subst hr78
        have hM : xv_M cI cZ ad w79 b (em_pvA A77 I74 ((A77 2) ((nI k).toNatClampNeg))) (em_pvI I74) L := hvw79_0
        obtain ⟨A80, eA80⟩ : ∃ zz : Nat → Nat → Int32, (em_pvA A77 I74 ((A77 2) ((nI k).toNatClampNeg))) = zz := ⟨_, rfl⟩
        rw [eA80] at hM
        obtain ⟨I81, eI81⟩ : ∃ zz : Nat → Int32, (em_pvI I74) = zz := ⟨_, rfl⟩
        rw [eI81] at hM
        have hSw79 : xv_S ws w79 b 24 := hSw75.trans (hsw79.mono (by omega) (by omega))
        have hq : I81 44 = nI (q0 + 9 + 10 * k + 3) := by rw [← eI81]; unfold em_pvI; rw [va_up_self, hq]; exact nI_1 _
        refine xg_ast2 S hK hG (b + 3) (show w79[b + 3]? = some (ad (b + 3), .inl (cI, 6, .inl (A80 2))) from hM.2.1 2 (by decide)) (i := nI k) (x := em_pv A77 I74 ((A77 2) ((nI k).toNatClampNeg))) (by first | assumption | exact vp_in_nI (by omega) (by decide)) dX8_passAll_163 (fun w82 H locs hw82 hG => ?_)
        have hs83 : xv_S w79 w82 (b + 3) 1 := by rw [hw82]; exact xv_S.set (by omega) (by omega)
        obtain ⟨A84, eA84⟩ : ∃ zz : Nat → Nat → Int32, (va_up A80 2 (upd (A80 2) ((nI k).toNatClampNeg) (em_pv A77 I74 ((A77 2) ((nI k).toNatClampNeg))))) = zz := ⟨_, rfl⟩
        have hM : xv_M cI cZ ad w82 b A84 I81 L := by rw [hw82, ← eA84]; exact hM.row 2 (by decide)
        have hSw82 : xv_S ws w82 b 24 := hSw79.trans (hs83.mono (by omega) (by omega))
        rw [hkc] at eA80 eA84
        have hp : em_pr k em_rows (A1, I1) = em_pr k [3, 4, 5, 6, 7, 8, 9] (A84, I81) := by rw [hp]; rw [em_pr]; unfold em_psA; rw [eA80, eI81, eA84]
        refine lv_aload_n hx hb dX8_passAll_164 rfl (lv_at hl 0 rfl) ?_
        refine xg_get (C := RX8) (T := TX8) (N := 46) S hK hG (fun w h => List.mem_cons_of_mem _ (List.mem_append_right _ (h))) b hM.1 rfl 4 (by decide) k12 (fun _ h9 => h9) rfl dX8_passAll_165 ?_
        refine lv_iload_n hx hb dX8_passAll_168 rfl (lv_at hl 1 rfl) ?_
        refine lv_aload_n hx hb dX8_passAll_169 rfl (lv_at hl 0 rfl) ?_
        refine lv_aload_n hx hb dX8_passAll_170 rfl (lv_at hl 0 rfl) ?_
        refine xg_get (C := RX8) (T := TX8) (N := 46) S hK hG (fun w h => List.mem_cons_of_mem _ (List.mem_append_right _ (h))) b hM.1 rfl 4 (by decide) k12 (fun _ h9 => h9) rfl dX8_passAll_171 ?_
        refine lv_iload_n hx hb dX8_passAll_174 rfl (lv_at hl 1 rfl) ?_
        refine xg_ald S hK hG (b + 4) (show w82[b + 4]? = some (ad (b + 4), .inl (cI, 6, .inl (A84 3))) from hM.2.1 3 (by decide)) (i := nI k) (by first | assumption | exact vp_in_nI (by omega) (by decide)) dX8_passAll_175 ?_
        refine xg_mi (va_runV (As := [.int ((A84 3) ((nI k).toNatClampNeg))]) (rest := [.int (nI k), .ref (ad (b + 4))]) S (mX8_pass l D cI cZ bs ad w82 b A84 I81 L hM ((A84 3) ((nI k).toNatClampNeg)) (by rw [hq]; exact vp_in_nI (by omega) (by decide))) (cwV 1 hts gX8_passAll_X8_pass rfl rfl rfl (by decide +kernel) ⟨Nat.le_of_ble_eq_true rfl, Nat.le_of_ble_eq_true rfl⟩) (xg_preV hK hG b hM.1 rfl rfl) rfl rfl hl.1 rfl (lv_room (Nat.le_of_ble_eq_true rfl)) dX8_passAll_176 ⟨Nat.zero_le _, Nat.zero_le _⟩) hG (fun r85 w86 H locs hr85 hG => ?_)
        obtain ⟨hr85, hvw86_0, hsw86⟩ := hr85
        replace hr85 := hr85.symm; subst hr85
        have hM : xv_M cI cZ ad w86 b (em_pvA A84 I81 ((A84 3) ((nI k).toNatClampNeg))) (em_pvI I81) L := hvw86_0
        obtain ⟨A87, eA87⟩ : ∃ zz : Nat → Nat → Int32, (em_pvA A84 I81 ((A84 3) ((nI k).toNatClampNeg))) = zz := ⟨_, rfl⟩
        rw [eA87] at hM
        obtain ⟨I88, eI88⟩ : ∃ zz : Nat → Int32, (em_pvI I81) = zz := ⟨_, rfl⟩
        rw [eI88] at hM
        have hSw86 : xv_S ws w86 b 24 := hSw82.trans (hsw86.mono (by omega) (by omega))
        have hq : I88 44 = nI (q0 + 9 + 10 * k + 4) := by rw [← eI88]; unfold em_pvI; rw [va_up_self, hq]; exact nI_1 _
        refine xg_ast2 S hK hG (b + 4) (show w86[b + 4]? = some (ad (b + 4), .inl (cI, 6, .inl (A87 3))) from hM.2.1 3 (by decide)) (i := nI k) (x := em_pv A84 I81 ((A84 3) ((nI k).toNatClampNeg))) (by first | assumption | exact vp_in_nI (by omega) (by decide)) dX8_passAll_179 (fun w89 H locs hw89 hG => ?_)
        have hs90 : xv_S w86 w89 (b + 4) 1 := by rw [hw89]; exact xv_S.set (by omega) (by omega)
        obtain ⟨A91, eA91⟩ : ∃ zz : Nat → Nat → Int32, (va_up A87 3 (upd (A87 3) ((nI k).toNatClampNeg) (em_pv A84 I81 ((A84 3) ((nI k).toNatClampNeg))))) = zz := ⟨_, rfl⟩
        have hM : xv_M cI cZ ad w89 b A91 I88 L := by rw [hw89, ← eA91]; exact hM.row 3 (by decide)
        have hSw89 : xv_S ws w89 b 24 := hSw86.trans (hs90.mono (by omega) (by omega))
        rw [hkc] at eA87 eA91
        have hp : em_pr k em_rows (A1, I1) = em_pr k [4, 5, 6, 7, 8, 9] (A91, I88) := by rw [hp]; rw [em_pr]; unfold em_psA; rw [eA87, eI88, eA91]
        refine lv_aload_n hx hb dX8_passAll_180 rfl (lv_at hl 0 rfl) ?_
        refine xg_get (C := RX8) (T := TX8) (N := 46) S hK hG (fun w h => List.mem_cons_of_mem _ (List.mem_append_right _ (h))) b hM.1 rfl 5 (by decide) k13 (fun _ h9 => h9) rfl dX8_passAll_181 ?_
        refine lv_iload_n hx hb dX8_passAll_184 rfl (lv_at hl 1 rfl) ?_
        refine lv_aload_n hx hb dX8_passAll_185 rfl (lv_at hl 0 rfl) ?_
        refine lv_aload_n hx hb dX8_passAll_186 rfl (lv_at hl 0 rfl) ?_
        refine xg_get (C := RX8) (T := TX8) (N := 46) S hK hG (fun w h => List.mem_cons_of_mem _ (List.mem_append_right _ (h))) b hM.1 rfl 5 (by decide) k13 (fun _ h9 => h9) rfl dX8_passAll_187 ?_
        refine lv_iload_n hx hb dX8_passAll_190 rfl (lv_at hl 1 rfl) ?_
        refine xg_ald S hK hG (b + 5) (show w89[b + 5]? = some (ad (b + 5), .inl (cI, 6, .inl (A91 4))) from hM.2.1 4 (by decide)) (i := nI k) (by first | assumption | exact vp_in_nI (by omega) (by decide)) dX8_passAll_191 ?_
        refine xg_mi (va_runV (As := [.int ((A91 4) ((nI k).toNatClampNeg))]) (rest := [.int (nI k), .ref (ad (b + 5))]) S (mX8_pass l D cI cZ bs ad w89 b A91 I88 L hM ((A91 4) ((nI k).toNatClampNeg)) (by rw [hq]; exact vp_in_nI (by omega) (by decide))) (cwV 1 hts gX8_passAll_X8_pass rfl rfl rfl (by decide +kernel) ⟨Nat.le_of_ble_eq_true rfl, Nat.le_of_ble_eq_true rfl⟩) (xg_preV hK hG b hM.1 rfl rfl) rfl rfl hl.1 rfl (lv_room (Nat.le_of_ble_eq_true rfl)) dX8_passAll_192 ⟨Nat.zero_le _, Nat.zero_le _⟩) hG (fun r92 w93 H locs hr92 hG => ?_)
        obtain ⟨hr92, hvw93_0, hsw93⟩ := hr92
        replace hr92 := hr92.symm; subst hr92
        have hM : xv_M cI cZ ad w93 b (em_pvA A91 I88 ((A91 4) ((nI k).toNatClampNeg))) (em_pvI I88) L := hvw93_0
        obtain ⟨A94, eA94⟩ : ∃ zz : Nat → Nat → Int32, (em_pvA A91 I88 ((A91 4) ((nI k).toNatClampNeg))) = zz := ⟨_, rfl⟩
        rw [eA94] at hM
        obtain ⟨I95, eI95⟩ : ∃ zz : Nat → Int32, (em_pvI I88) = zz := ⟨_, rfl⟩
        rw [eI95] at hM
        have hSw93 : xv_S ws w93 b 24 := hSw89.trans (hsw93.mono (by omega) (by omega))
        have hq : I95 44 = nI (q0 + 9 + 10 * k + 5) := by rw [← eI95]; unfold em_pvI; rw [va_up_self, hq]; exact nI_1 _
        refine xg_ast2 S hK hG (b + 5) (show w93[b + 5]? = some (ad (b + 5), .inl (cI, 6, .inl (A94 4))) from hM.2.1 4 (by decide)) (i := nI k) (x := em_pv A91 I88 ((A91 4) ((nI k).toNatClampNeg))) (by first | assumption | exact vp_in_nI (by omega) (by decide)) dX8_passAll_195 (fun w96 H locs hw96 hG => ?_)
        have hs97 : xv_S w93 w96 (b + 5) 1 := by rw [hw96]; exact xv_S.set (by omega) (by omega)
        obtain ⟨A98, eA98⟩ : ∃ zz : Nat → Nat → Int32, (va_up A94 4 (upd (A94 4) ((nI k).toNatClampNeg) (em_pv A91 I88 ((A91 4) ((nI k).toNatClampNeg))))) = zz := ⟨_, rfl⟩
        have hM : xv_M cI cZ ad w96 b A98 I95 L := by rw [hw96, ← eA98]; exact hM.row 4 (by decide)
        have hSw96 : xv_S ws w96 b 24 := hSw93.trans (hs97.mono (by omega) (by omega))
        rw [hkc] at eA94 eA98
        have hp : em_pr k em_rows (A1, I1) = em_pr k [5, 6, 7, 8, 9] (A98, I95) := by rw [hp]; rw [em_pr]; unfold em_psA; rw [eA94, eI95, eA98]
        refine lv_aload_n hx hb dX8_passAll_196 rfl (lv_at hl 0 rfl) ?_
        refine xg_get (C := RX8) (T := TX8) (N := 46) S hK hG (fun w h => List.mem_cons_of_mem _ (List.mem_append_right _ (h))) b hM.1 rfl 6 (by decide) k14 (fun _ h9 => h9) rfl dX8_passAll_197 ?_
        refine lv_iload_n hx hb dX8_passAll_200 rfl (lv_at hl 1 rfl) ?_
        refine lv_aload_n hx hb dX8_passAll_201 rfl (lv_at hl 0 rfl) ?_
        refine lv_aload_n hx hb dX8_passAll_202 rfl (lv_at hl 0 rfl) ?_
        refine xg_get (C := RX8) (T := TX8) (N := 46) S hK hG (fun w h => List.mem_cons_of_mem _ (List.mem_append_right _ (h))) b hM.1 rfl 6 (by decide) k14 (fun _ h9 => h9) rfl dX8_passAll_203 ?_
        refine lv_iload_n hx hb dX8_passAll_206 rfl (lv_at hl 1 rfl) ?_
        refine xg_ald S hK hG (b + 6) (show w96[b + 6]? = some (ad (b + 6), .inl (cI, 6, .inl (A98 5))) from hM.2.1 5 (by decide)) (i := nI k) (by first | assumption | exact vp_in_nI (by omega) (by decide)) dX8_passAll_207 ?_
        refine xg_mi (va_runV (As := [.int ((A98 5) ((nI k).toNatClampNeg))]) (rest := [.int (nI k), .ref (ad (b + 6))]) S (mX8_pass l D cI cZ bs ad w96 b A98 I95 L hM ((A98 5) ((nI k).toNatClampNeg)) (by rw [hq]; exact vp_in_nI (by omega) (by decide))) (cwV 1 hts gX8_passAll_X8_pass rfl rfl rfl (by decide +kernel) ⟨Nat.le_of_ble_eq_true rfl, Nat.le_of_ble_eq_true rfl⟩) (xg_preV hK hG b hM.1 rfl rfl) rfl rfl hl.1 rfl (lv_room (Nat.le_of_ble_eq_true rfl)) dX8_passAll_208 ⟨Nat.zero_le _, Nat.zero_le _⟩) hG (fun r99 w100 H locs hr99 hG => ?_)
        obtain ⟨hr99, hvw100_0, hsw100⟩ := hr99
        replace hr99 := hr99.symm; subst hr99
        have hM : xv_M cI cZ ad w100 b (em_pvA A98 I95 ((A98 5) ((nI k).toNatClampNeg))) (em_pvI I95) L := hvw100_0
        obtain ⟨A101, eA101⟩ : ∃ zz : Nat → Nat → Int32, (em_pvA A98 I95 ((A98 5) ((nI k).toNatClampNeg))) = zz := ⟨_, rfl⟩
        rw [eA101] at hM
        obtain ⟨I102, eI102⟩ : ∃ zz : Nat → Int32, (em_pvI I95) = zz := ⟨_, rfl⟩
        rw [eI102] at hM
        have hSw100 : xv_S ws w100 b 24 := hSw96.trans (hsw100.mono (by omega) (by omega))
        have hq : I102 44 = nI (q0 + 9 + 10 * k + 6) := by rw [← eI102]; unfold em_pvI; rw [va_up_self, hq]; exact nI_1 _
        refine xg_ast2 S hK hG (b + 6) (show w100[b + 6]? = some (ad (b + 6), .inl (cI, 6, .inl (A101 5))) from hM.2.1 5 (by decide)) (i := nI k) (x := em_pv A98 I95 ((A98 5) ((nI k).toNatClampNeg))) (by first | assumption | exact vp_in_nI (by omega) (by decide)) dX8_passAll_211 (fun w103 H locs hw103 hG => ?_)
        have hs104 : xv_S w100 w103 (b + 6) 1 := by rw [hw103]; exact xv_S.set (by omega) (by omega)
        obtain ⟨A105, eA105⟩ : ∃ zz : Nat → Nat → Int32, (va_up A101 5 (upd (A101 5) ((nI k).toNatClampNeg) (em_pv A98 I95 ((A98 5) ((nI k).toNatClampNeg))))) = zz := ⟨_, rfl⟩
        have hM : xv_M cI cZ ad w103 b A105 I102 L := by rw [hw103, ← eA105]; exact hM.row 5 (by decide)
        have hSw103 : xv_S ws w103 b 24 := hSw100.trans (hs104.mono (by omega) (by omega))
        rw [hkc] at eA101 eA105
        have hp : em_pr k em_rows (A1, I1) = em_pr k [6, 7, 8, 9] (A105, I102) := by rw [hp]; rw [em_pr]; unfold em_psA; rw [eA101, eI102, eA105]
        refine lv_aload_n hx hb dX8_passAll_212 rfl (lv_at hl 0 rfl) ?_
        refine xg_get (C := RX8) (T := TX8) (N := 46) S hK hG (fun w h => List.mem_cons_of_mem _ (List.mem_append_right _ (h))) b hM.1 rfl 7 (by decide) k15 (fun _ h9 => h9) rfl dX8_passAll_213 ?_
        refine lv_iload_n hx hb dX8_passAll_216 rfl (lv_at hl 1 rfl) ?_
        refine lv_aload_n hx hb dX8_passAll_217 rfl (lv_at hl 0 rfl) ?_
        refine lv_aload_n hx hb dX8_passAll_218 rfl (lv_at hl 0 rfl) ?_
        refine xg_get (C := RX8) (T := TX8) (N := 46) S hK hG (fun w h => List.mem_cons_of_mem _ (List.mem_append_right _ (h))) b hM.1 rfl 7 (by decide) k15 (fun _ h9 => h9) rfl dX8_passAll_219 ?_
        refine lv_iload_n hx hb dX8_passAll_222 rfl (lv_at hl 1 rfl) ?_
        refine xg_ald S hK hG (b + 7) (show w103[b + 7]? = some (ad (b + 7), .inl (cI, 6, .inl (A105 6))) from hM.2.1 6 (by decide)) (i := nI k) (by first | assumption | exact vp_in_nI (by omega) (by decide)) dX8_passAll_223 ?_
        refine xg_mi (va_runV (As := [.int ((A105 6) ((nI k).toNatClampNeg))]) (rest := [.int (nI k), .ref (ad (b + 7))]) S (mX8_pass l D cI cZ bs ad w103 b A105 I102 L hM ((A105 6) ((nI k).toNatClampNeg)) (by rw [hq]; exact vp_in_nI (by omega) (by decide))) (cwV 1 hts gX8_passAll_X8_pass rfl rfl rfl (by decide +kernel) ⟨Nat.le_of_ble_eq_true rfl, Nat.le_of_ble_eq_true rfl⟩) (xg_preV hK hG b hM.1 rfl rfl) rfl rfl hl.1 rfl (lv_room (Nat.le_of_ble_eq_true rfl)) dX8_passAll_224 ⟨Nat.zero_le _, Nat.zero_le _⟩) hG (fun r106 w107 H locs hr106 hG => ?_)
        obtain ⟨hr106, hvw107_0, hsw107⟩ := hr106
        replace hr106 := hr106.symm; subst hr106
        have hM : xv_M cI cZ ad w107 b (em_pvA A105 I102 ((A105 6) ((nI k).toNatClampNeg))) (em_pvI I102) L := hvw107_0
        obtain ⟨A108, eA108⟩ : ∃ zz : Nat → Nat → Int32, (em_pvA A105 I102 ((A105 6) ((nI k).toNatClampNeg))) = zz := ⟨_, rfl⟩
        rw [eA108] at hM
        obtain ⟨I109, eI109⟩ : ∃ zz : Nat → Int32, (em_pvI I102) = zz := ⟨_, rfl⟩
        rw [eI109] at hM
        have hSw107 : xv_S ws w107 b 24 := hSw103.trans (hsw107.mono (by omega) (by omega))
        have hq : I109 44 = nI (q0 + 9 + 10 * k + 7) := by rw [← eI109]; unfold em_pvI; rw [va_up_self, hq]; exact nI_1 _
        refine xg_ast2 S hK hG (b + 7) (show w107[b + 7]? = some (ad (b + 7), .inl (cI, 6, .inl (A108 6))) from hM.2.1 6 (by decide)) (i := nI k) (x := em_pv A105 I102 ((A105 6) ((nI k).toNatClampNeg))) (by first | assumption | exact vp_in_nI (by omega) (by decide)) dX8_passAll_227 (fun w110 H locs hw110 hG => ?_)
        have hs111 : xv_S w107 w110 (b + 7) 1 := by rw [hw110]; exact xv_S.set (by omega) (by omega)
        obtain ⟨A112, eA112⟩ : ∃ zz : Nat → Nat → Int32, (va_up A108 6 (upd (A108 6) ((nI k).toNatClampNeg) (em_pv A105 I102 ((A105 6) ((nI k).toNatClampNeg))))) = zz := ⟨_, rfl⟩
        have hM : xv_M cI cZ ad w110 b A112 I109 L := by rw [hw110, ← eA112]; exact hM.row 6 (by decide)
        have hSw110 : xv_S ws w110 b 24 := hSw107.trans (hs111.mono (by omega) (by omega))
        rw [hkc] at eA108 eA112
        have hp : em_pr k em_rows (A1, I1) = em_pr k [7, 8, 9] (A112, I109) := by rw [hp]; rw [em_pr]; unfold em_psA; rw [eA108, eI109, eA112]
        refine lv_aload_n hx hb dX8_passAll_228 rfl (lv_at hl 0 rfl) ?_
        refine xg_get (C := RX8) (T := TX8) (N := 46) S hK hG (fun w h => List.mem_cons_of_mem _ (List.mem_append_right _ (h))) b hM.1 rfl 15 (by decide) k16 (fun _ h9 => h9) rfl dX8_passAll_229 ?_
        refine lv_iload_n hx hb dX8_passAll_232 rfl (lv_at hl 1 rfl) ?_
        refine lv_aload_n hx hb dX8_passAll_233 rfl (lv_at hl 0 rfl) ?_
        refine lv_aload_n hx hb dX8_passAll_234 rfl (lv_at hl 0 rfl) ?_
        refine xg_get (C := RX8) (T := TX8) (N := 46) S hK hG (fun w h => List.mem_cons_of_mem _ (List.mem_append_right _ (h))) b hM.1 rfl 15 (by decide) k16 (fun _ h9 => h9) rfl dX8_passAll_235 ?_
        refine lv_iload_n hx hb dX8_passAll_238 rfl (lv_at hl 1 rfl) ?_
        refine xg_ald S hK hG (b + 8) (show w110[b + 8]? = some (ad (b + 8), .inl (cI, 6, .inl (A112 7))) from hM.2.1 7 (by decide)) (i := nI k) (by first | assumption | exact vp_in_nI (by omega) (by decide)) dX8_passAll_239 ?_
        refine xg_mi (va_runV (As := [.int ((A112 7) ((nI k).toNatClampNeg))]) (rest := [.int (nI k), .ref (ad (b + 8))]) S (mX8_pass l D cI cZ bs ad w110 b A112 I109 L hM ((A112 7) ((nI k).toNatClampNeg)) (by rw [hq]; exact vp_in_nI (by omega) (by decide))) (cwV 1 hts gX8_passAll_X8_pass rfl rfl rfl (by decide +kernel) ⟨Nat.le_of_ble_eq_true rfl, Nat.le_of_ble_eq_true rfl⟩) (xg_preV hK hG b hM.1 rfl rfl) rfl rfl hl.1 rfl (lv_room (Nat.le_of_ble_eq_true rfl)) dX8_passAll_240 ⟨Nat.zero_le _, Nat.zero_le _⟩) hG (fun r113 w114 H locs hr113 hG => ?_)
        obtain ⟨hr113, hvw114_0, hsw114⟩ := hr113
        replace hr113 := hr113.symm; subst hr113
        have hM : xv_M cI cZ ad w114 b (em_pvA A112 I109 ((A112 7) ((nI k).toNatClampNeg))) (em_pvI I109) L := hvw114_0
        obtain ⟨A115, eA115⟩ : ∃ zz : Nat → Nat → Int32, (em_pvA A112 I109 ((A112 7) ((nI k).toNatClampNeg))) = zz := ⟨_, rfl⟩
        rw [eA115] at hM
        obtain ⟨I116, eI116⟩ : ∃ zz : Nat → Int32, (em_pvI I109) = zz := ⟨_, rfl⟩
        rw [eI116] at hM
        have hSw114 : xv_S ws w114 b 24 := hSw110.trans (hsw114.mono (by omega) (by omega))
        have hq : I116 44 = nI (q0 + 9 + 10 * k + 8) := by rw [← eI116]; unfold em_pvI; rw [va_up_self, hq]; exact nI_1 _
        refine xg_ast2 S hK hG (b + 8) (show w114[b + 8]? = some (ad (b + 8), .inl (cI, 6, .inl (A115 7))) from hM.2.1 7 (by decide)) (i := nI k) (x := em_pv A112 I109 ((A112 7) ((nI k).toNatClampNeg))) (by first | assumption | exact vp_in_nI (by omega) (by decide)) dX8_passAll_243 (fun w117 H locs hw117 hG => ?_)
        have hs118 : xv_S w114 w117 (b + 8) 1 := by rw [hw117]; exact xv_S.set (by omega) (by omega)
        obtain ⟨A119, eA119⟩ : ∃ zz : Nat → Nat → Int32, (va_up A115 7 (upd (A115 7) ((nI k).toNatClampNeg) (em_pv A112 I109 ((A112 7) ((nI k).toNatClampNeg))))) = zz := ⟨_, rfl⟩
        have hM : xv_M cI cZ ad w117 b A119 I116 L := by rw [hw117, ← eA119]; exact hM.row 7 (by decide)
        have hSw117 : xv_S ws w117 b 24 := hSw114.trans (hs118.mono (by omega) (by omega))
        rw [hkc] at eA115 eA119
        have hp : em_pr k em_rows (A1, I1) = em_pr k [8, 9] (A119, I116) := by rw [hp]; rw [em_pr]; unfold em_psA; rw [eA115, eI116, eA119]
        refine lv_aload_n hx hb dX8_passAll_244 rfl (lv_at hl 0 rfl) ?_
        refine xg_get (C := RX8) (T := TX8) (N := 46) S hK hG (fun w h => List.mem_cons_of_mem _ (List.mem_append_right _ (h))) b hM.1 rfl 16 (by decide) k17 (fun _ h9 => h9) rfl dX8_passAll_245 ?_
        refine lv_iload_n hx hb dX8_passAll_248 rfl (lv_at hl 1 rfl) ?_
        refine lv_aload_n hx hb dX8_passAll_249 rfl (lv_at hl 0 rfl) ?_
        refine lv_aload_n hx hb dX8_passAll_250 rfl (lv_at hl 0 rfl) ?_
        refine xg_get (C := RX8) (T := TX8) (N := 46) S hK hG (fun w h => List.mem_cons_of_mem _ (List.mem_append_right _ (h))) b hM.1 rfl 16 (by decide) k17 (fun _ h9 => h9) rfl dX8_passAll_251 ?_
        refine lv_iload_n hx hb dX8_passAll_254 rfl (lv_at hl 1 rfl) ?_
        refine xg_ald S hK hG (b + 9) (show w117[b + 9]? = some (ad (b + 9), .inl (cI, 6, .inl (A119 8))) from hM.2.1 8 (by decide)) (i := nI k) (by first | assumption | exact vp_in_nI (by omega) (by decide)) dX8_passAll_255 ?_
        refine xg_mi (va_runV (As := [.int ((A119 8) ((nI k).toNatClampNeg))]) (rest := [.int (nI k), .ref (ad (b + 9))]) S (mX8_pass l D cI cZ bs ad w117 b A119 I116 L hM ((A119 8) ((nI k).toNatClampNeg)) (by rw [hq]; exact vp_in_nI (by omega) (by decide))) (cwV 1 hts gX8_passAll_X8_pass rfl rfl rfl (by decide +kernel) ⟨Nat.le_of_ble_eq_true rfl, Nat.le_of_ble_eq_true rfl⟩) (xg_preV hK hG b hM.1 rfl rfl) rfl rfl hl.1 rfl (lv_room (Nat.le_of_ble_eq_true rfl)) dX8_passAll_256 ⟨Nat.zero_le _, Nat.zero_le _⟩) hG (fun r120 w121 H locs hr120 hG => ?_)
        obtain ⟨hr120, hvw121_0, hsw121⟩ := hr120
        replace hr120 := hr120.symm; subst hr120
        have hM : xv_M cI cZ ad w121 b (em_pvA A119 I116 ((A119 8) ((nI k).toNatClampNeg))) (em_pvI I116) L := hvw121_0
        obtain ⟨A122, eA122⟩ : ∃ zz : Nat → Nat → Int32, (em_pvA A119 I116 ((A119 8) ((nI k).toNatClampNeg))) = zz := ⟨_, rfl⟩
        rw [eA122] at hM
        obtain ⟨I123, eI123⟩ : ∃ zz : Nat → Int32, (em_pvI I116) = zz := ⟨_, rfl⟩
        rw [eI123] at hM
        have hSw121 : xv_S ws w121 b 24 := hSw117.trans (hsw121.mono (by omega) (by omega))
        have hq : I123 44 = nI (q0 + 9 + 10 * k + 9) := by rw [← eI123]; unfold em_pvI; rw [va_up_self, hq]; exact nI_1 _
        refine xg_ast2 S hK hG (b + 9) (show w121[b + 9]? = some (ad (b + 9), .inl (cI, 6, .inl (A122 8))) from hM.2.1 8 (by decide)) (i := nI k) (x := em_pv A119 I116 ((A119 8) ((nI k).toNatClampNeg))) (by first | assumption | exact vp_in_nI (by omega) (by decide)) dX8_passAll_259 (fun w124 H locs hw124 hG => ?_)
        have hs125 : xv_S w121 w124 (b + 9) 1 := by rw [hw124]; exact xv_S.set (by omega) (by omega)
        obtain ⟨A126, eA126⟩ : ∃ zz : Nat → Nat → Int32, (va_up A122 8 (upd (A122 8) ((nI k).toNatClampNeg) (em_pv A119 I116 ((A119 8) ((nI k).toNatClampNeg))))) = zz := ⟨_, rfl⟩
        have hM : xv_M cI cZ ad w124 b A126 I123 L := by rw [hw124, ← eA126]; exact hM.row 8 (by decide)
        have hSw124 : xv_S ws w124 b 24 := hSw121.trans (hs125.mono (by omega) (by omega))
        rw [hkc] at eA122 eA126
        have hp : em_pr k em_rows (A1, I1) = em_pr k [9] (A126, I123) := by rw [hp]; rw [em_pr]; unfold em_psA; rw [eA122, eI123, eA126]
        refine lv_aload_n hx hb dX8_passAll_260 rfl (lv_at hl 0 rfl) ?_
        refine xg_get (C := RX8) (T := TX8) (N := 46) S hK hG (fun w h => List.mem_cons_of_mem _ (List.mem_append_right _ (h))) b hM.1 rfl 17 (by decide) k18 (fun _ h9 => h9) rfl dX8_passAll_261 ?_
        refine lv_iload_n hx hb dX8_passAll_264 rfl (lv_at hl 1 rfl) ?_
        refine lv_aload_n hx hb dX8_passAll_265 rfl (lv_at hl 0 rfl) ?_
        refine lv_aload_n hx hb dX8_passAll_266 rfl (lv_at hl 0 rfl) ?_
        refine xg_get (C := RX8) (T := TX8) (N := 46) S hK hG (fun w h => List.mem_cons_of_mem _ (List.mem_append_right _ (h))) b hM.1 rfl 17 (by decide) k18 (fun _ h9 => h9) rfl dX8_passAll_267 ?_
        refine lv_iload_n hx hb dX8_passAll_270 rfl (lv_at hl 1 rfl) ?_
        refine xg_ald S hK hG (b + 10) (show w124[b + 10]? = some (ad (b + 10), .inl (cI, 6, .inl (A126 9))) from hM.2.1 9 (by decide)) (i := nI k) (by first | assumption | exact vp_in_nI (by omega) (by decide)) dX8_passAll_271 ?_
        refine xg_mi (va_runV (As := [.int ((A126 9) ((nI k).toNatClampNeg))]) (rest := [.int (nI k), .ref (ad (b + 10))]) S (mX8_pass l D cI cZ bs ad w124 b A126 I123 L hM ((A126 9) ((nI k).toNatClampNeg)) (by rw [hq]; exact vp_in_nI (by omega) (by decide))) (cwV 1 hts gX8_passAll_X8_pass rfl rfl rfl (by decide +kernel) ⟨Nat.le_of_ble_eq_true rfl, Nat.le_of_ble_eq_true rfl⟩) (xg_preV hK hG b hM.1 rfl rfl) rfl rfl hl.1 rfl (lv_room (Nat.le_of_ble_eq_true rfl)) dX8_passAll_272 ⟨Nat.zero_le _, Nat.zero_le _⟩) hG (fun r127 w128 H locs hr127 hG => ?_)
        obtain ⟨hr127, hvw128_0, hsw128⟩ := hr127
        replace hr127 := hr127.symm; subst hr127
        have hM : xv_M cI cZ ad w128 b (em_pvA A126 I123 ((A126 9) ((nI k).toNatClampNeg))) (em_pvI I123) L := hvw128_0
        obtain ⟨A129, eA129⟩ : ∃ zz : Nat → Nat → Int32, (em_pvA A126 I123 ((A126 9) ((nI k).toNatClampNeg))) = zz := ⟨_, rfl⟩
        rw [eA129] at hM
        obtain ⟨I130, eI130⟩ : ∃ zz : Nat → Int32, (em_pvI I123) = zz := ⟨_, rfl⟩
        rw [eI130] at hM
        have hSw128 : xv_S ws w128 b 24 := hSw124.trans (hsw128.mono (by omega) (by omega))
        have hq : I130 44 = nI (q0 + 9 + 10 * k + 10) := by rw [← eI130]; unfold em_pvI; rw [va_up_self, hq]; exact nI_1 _
        refine xg_ast2 S hK hG (b + 10) (show w128[b + 10]? = some (ad (b + 10), .inl (cI, 6, .inl (A129 9))) from hM.2.1 9 (by decide)) (i := nI k) (x := em_pv A126 I123 ((A126 9) ((nI k).toNatClampNeg))) (by first | assumption | exact vp_in_nI (by omega) (by decide)) dX8_passAll_275 (fun w131 H locs hw131 hG => ?_)
        have hs132 : xv_S w128 w131 (b + 10) 1 := by rw [hw131]; exact xv_S.set (by omega) (by omega)
        obtain ⟨A133, eA133⟩ : ∃ zz : Nat → Nat → Int32, (va_up A129 9 (upd (A129 9) ((nI k).toNatClampNeg) (em_pv A126 I123 ((A126 9) ((nI k).toNatClampNeg))))) = zz := ⟨_, rfl⟩
        have hM : xv_M cI cZ ad w131 b A133 I130 L := by rw [hw131, ← eA133]; exact hM.row 9 (by decide)
        have hSw131 : xv_S ws w131 b 24 := hSw128.trans (hs132.mono (by omega) (by omega))
        rw [hkc] at eA129 eA133
        have hp : em_pr k em_rows (A1, I1) = em_pr k [] (A133, I130) := by rw [hp]; simp only [em_pr]; unfold em_psA; rw [eA129, eI130, eA133]
        obtain ⟨x134, ex134⟩ : ∃ zz : Int32, ((nI k) + 1) = zz := ⟨_, rfl⟩
        refine lv_iinc (v := x134) (lv' := [(1, .int x134), (0, .ref (ad b))]) hx hb dX8_passAll_276 hl (k := 1) rfl (by rw [← ex134]; rfl) (by decide) rfl (fun ls hl => ?_)
        refine lv_goto (tgt := 110) hx hb dX8_passAll_279 (by decide) ?_
        exact ih110 (k + 1) A133 I130 (by omega) (by omega) (by rw [hq]; exact congrArg nI (by omega)) (by rw [hr2, show 6 - k = (6 - (k + 1)) + 1 by omega, em_pk, hp]; rfl) x134 (by rw [← ex134]; exact nI_1 k) w131 _ _ hG hM hSw131 ls (lv_sub hl [1, 0] rfl)
  exact lp110 7 0 A59 I63 (by omega) (by omega) hq (by unfold em_pas; rw [hp]; rfl) 0 rfl w61 _ _ hG hM hSw61 ls (lv_sub hl [1, 0] rfl)
