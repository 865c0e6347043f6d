set_option maxHeartbeats 4000000 in
set_option maxRecDepth 100000 in
theorem mX7_enough (l : Launch) (D : va_G) (cI cZ : ClassId) (bs : Nat) (ad : Nat → Nat) (ws : va_W) (b : Nat) (fk : Int32) (sk : Int32) (hO : ws[b]? = some (ad b, .inr (7, [.ref (ad (b + 1)), .ref (ad (b + 14)), .ref (ad (b + 27)), .int fk, .int sk, .ref (ad (b + 40)), .ref (ad (b + 42)), .ref (ad (b + 58)), .ref (ad (b + 60)), .ref (ad (b + 61))]))) (T : Nat → Nat → Int32) (hT : xv_T cI ad ws (b + 1) T) (p : Int32) : Met l yX7_enough wsX7_enough ({ frames := 4, cells := 0, slots := 0, locals := 89 } : Room) (va_Pc [.ref (ad b), .int p] (fun U => xg_W D cI cZ bs ws U)) (xg_Ri (fun r : Int32 => r = dj_eno T p)) 0 0 xg_F := by
  refine xg_met cX7_enough 2 (some .int) RX7 (by decide) rfl rfl (Nat.le_of_ble_eq_true rfl) ?_
  intro pg en s m below meth c ls S hr hlk hnm hB hl
  have hK := hB.1
  have hG := xg_start hB
  obtain ⟨hx, hb, hml, hown, hts⟩ := id S
  have hl : lv_has ls 2 [(0, .ref (ad b)), (1, .int p)] := hl
  obtain ⟨Q, hQ⟩ : ∃ Q, Q = MQ below (xg_Ri (fun r : Int32 => r = dj_eno T p)) ([.ref (ad b), .int p] : List Value).toArray s 0 0 xg_F := ⟨_, rfl⟩
  rw [← hQ]
  have k0 := hts (.fieldLink RX7 10 "DareBridge" "now" "LDareBridge$Town;") (List.mem_of_getElem? (i := 1) rfl)
  refine lv_aload_n hx hb dX7_enough_0 rfl (lv_at hl 0 rfl) ?_
  refine xg_get (C := RX7) (T := TX7) (N := 10) S hK hG (fun w h => List.mem_cons_of_mem _ (List.mem_append_left _ (List.mem_append_right _ (h)))) b hO rfl 0 (by decide) k0 (fun _ h9 => h9) rfl dX7_enough_1 ?_
  refine lv_iload_n hx hb dX7_enough_4 rfl (lv_at hl 1 rfl) ?_
  refine xg_ri (va_runV (As := [.int p]) (rest := []) S (mX5_isThere l D cI cZ bs ad ws (b + 1) T hT p) (cwV 1 hts gX7_enough_X5_isThere rfl rfl rfl (by decide +kernel) ⟨Nat.le_of_ble_eq_true rfl, Nat.le_of_ble_eq_true rfl⟩) (xg_preV hK hG (b + 1) hT.1 rfl rfl) rfl rfl hl.1 rfl (lv_room (Nat.le_of_ble_eq_true rfl)) dX7_enough_5 ⟨Nat.zero_le _, Nat.zero_le _⟩) (fun r1 hr1 => ?_)
  replace hr1 := hr1.symm; subst hr1
  refine xb_ifeq (tgt := 24) S dX7_enough_8 (by decide) (fun c8 => ?_) (fun c8 => ?_)
  · skip
    refine lv_iconst (v := (-1)) hx hb dX7_enough_24 (by decide) ?_
    rw [hQ]
    exact xg_eri S hr hlk (by skip; simp only [dj_eno, c8, if_true, if_false, Bool.false_eq_true]) dX7_enough_25
  · skip
    refine lv_aload_n hx hb dX7_enough_11 rfl (lv_at hl 0 rfl) ?_
    refine xg_get (C := RX7) (T := TX7) (N := 10) S hK hG (fun w h => List.mem_cons_of_mem _ (List.mem_append_left _ (List.mem_append_right _ (h)))) b hO rfl 0 (by decide) k0 (fun _ h9 => h9) rfl dX7_enough_12 ?_
    refine lv_iconst (v := 1) hx hb dX7_enough_15 (by decide) ?_
    refine lv_iload_n hx hb dX7_enough_16 rfl (lv_at hl 1 rfl) ?_
    refine lv_ishl hx hb dX7_enough_17 ?_
    refine xg_ri (va_runV (As := [.int (1 <<< (p &&& 31))]) (rest := []) S (mX5_joined l D cI cZ bs ad ws (b + 1) T hT (1 <<< (p &&& 31))) (cwV 1 hts gX7_enough_X5_joined rfl rfl rfl (by decide +kernel) ⟨Nat.le_of_ble_eq_true rfl, Nat.le_of_ble_eq_true rfl⟩) (xg_preV hK hG (b + 1) hT.1 rfl rfl) rfl rfl hl.1 rfl (lv_room (Nat.le_of_ble_eq_true rfl)) dX7_enough_18 ⟨Nat.zero_le _, Nat.zero_le _⟩) (fun r2 hr2 => ?_)
    replace hr2 := hr2.symm; subst hr2
    refine lv_goto (tgt := 25) hx hb dX7_enough_21 (by decide) ?_
    rw [hQ]
    exact xg_eri S hr hlk (by skip; simp only [dj_eno, c8, if_true, if_false, Bool.false_eq_true]) dX7_enough_25
set_option maxHeartbeats 4000000 in
set_option maxRecDepth 100000 in
theorem mX7_holds (l : Launch) (D : va_G) (cI cZ : ClassId) (bs : Nat) (ad : Nat → Nat) (ws : va_W) (b : Nat) (fk : Int32) (sk : Int32) (hO : ws[b]? = some (ad b, .inr (7, [.ref (ad (b + 1)), .ref (ad (b + 14)), .ref (ad (b + 27)), .int fk, .int sk, .ref (ad (b + 40)), .ref (ad (b + 42)), .ref (ad (b + 58)), .ref (ad (b + 60)), .ref (ad (b + 61))]))) (T : Nat → Nat → Int32) (hT : xv_T cI ad ws (b + 1) T) (p : Int32) : Met l yX7_holds wsX7_holds ({ frames := 4, cells := 0, slots := 0, locals := 89 } : Room) (va_Pc [.ref (ad b), .int p] (fun U => xg_W D cI cZ bs ws U)) (xg_Ri (fun r : Int32 => r = dj_hol T p)) 0 0 xg_F := by
  refine xg_met cX7_holds 2 (some .int) RX7 (by decide) rfl rfl (Nat.le_of_ble_eq_true rfl) ?_
  intro pg en s m below meth c ls S hr hlk hnm hB hl
  have hK := hB.1
  have hG := xg_start hB
  obtain ⟨hx, hb, hml, hown, hts⟩ := id S
  have hl : lv_has ls 2 [(0, .ref (ad b)), (1, .int p)] := hl
  obtain ⟨Q, hQ⟩ : ∃ Q, Q = MQ below (xg_Ri (fun r : Int32 => r = dj_hol T p)) ([.ref (ad b), .int p] : List Value).toArray s 0 0 xg_F := ⟨_, rfl⟩
  rw [← hQ]
  have k0 := hts (.fieldLink RX7 10 "DareBridge" "now" "LDareBridge$Town;") (List.mem_of_getElem? (i := 1) rfl)
  refine lv_aload_n hx hb dX7_holds_0 rfl (lv_at hl 0 rfl) ?_
  refine xg_get (C := RX7) (T := TX7) (N := 10) S hK hG (fun w h => List.mem_cons_of_mem _ (List.mem_append_left _ (List.mem_append_right _ (h)))) b hO rfl 0 (by decide) k0 (fun _ h9 => h9) rfl dX7_holds_1 ?_
  refine lv_iload_n hx hb dX7_holds_4 rfl (lv_at hl 1 rfl) ?_
  refine xg_ri (va_runV (As := [.int p]) (rest := []) S (mX5_isThere l D cI cZ bs ad ws (b + 1) T hT p) (cwV 1 hts gX7_holds_X5_isThere rfl rfl rfl (by decide +kernel) ⟨Nat.le_of_ble_eq_true rfl, Nat.le_of_ble_eq_true rfl⟩) (xg_preV hK hG (b + 1) hT.1 rfl rfl) rfl rfl hl.1 rfl (lv_room (Nat.le_of_ble_eq_true rfl)) dX7_holds_5 ⟨Nat.zero_le _, Nat.zero_le _⟩) (fun r1 hr1 => ?_)
  replace hr1 := hr1.symm; subst hr1
  refine xb_ifne (tgt := 13) S dX7_holds_8 (by decide) (fun c8 => ?_) (fun c8 => ?_)
  · skip
    refine lv_aload_n hx hb dX7_holds_13 rfl (lv_at hl 0 rfl) ?_
    refine xg_get (C := RX7) (T := TX7) (N := 10) S hK hG (fun w h => List.mem_cons_of_mem _ (List.mem_append_left _ (List.mem_append_right _ (h)))) b hO rfl 0 (by decide) k0 (fun _ h9 => h9) rfl dX7_holds_14 ?_
    refine lv_aload_n hx hb dX7_holds_17 rfl (lv_at hl 0 rfl) ?_
    refine xg_get (C := RX7) (T := TX7) (N := 10) S hK hG (fun w h => List.mem_cons_of_mem _ (List.mem_append_left _ (List.mem_append_right _ (h)))) b hO rfl 0 (by decide) k0 (fun _ h9 => h9) rfl dX7_holds_18 ?_
    refine lv_iconst (v := 1) hx hb dX7_holds_21 (by decide) ?_
    refine lv_iload_n hx hb dX7_holds_22 rfl (lv_at hl 1 rfl) ?_
    refine lv_ishl hx hb dX7_holds_23 ?_
    refine xg_ri (va_runV (As := [.int (1 <<< (p &&& 31))]) (rest := [.ref (ad (b + 1))]) S (mX5_joined l D cI cZ bs ad ws (b + 1) T hT (1 <<< (p &&& 31))) (cwV 1 hts gX7_holds_X5_joined rfl rfl rfl (by decide +kernel) ⟨Nat.le_of_ble_eq_true rfl, Nat.le_of_ble_eq_true rfl⟩) (xg_preV hK hG (b + 1) hT.1 rfl rfl) rfl rfl hl.1 rfl (lv_room (Nat.le_of_ble_eq_true rfl)) dX7_holds_24 ⟨Nat.zero_le _, Nat.zero_le _⟩) (fun r2 hr2 => ?_)
    replace hr2 := hr2.symm; subst hr2
    refine xg_ri (va_runV (As := [.int (dt_joi T (1 <<< (p &&& 31)))]) (rest := []) S (mX5_isMost l D cI cZ bs ad ws (b + 1) T hT (dt_joi T (1 <<< (p &&& 31)))) (cwV 1 hts gX7_holds_X5_isMost rfl rfl rfl (by decide +kernel) ⟨Nat.le_of_ble_eq_true rfl, Nat.le_of_ble_eq_true rfl⟩) (xg_preV hK hG (b + 1) hT.1 rfl rfl) rfl rfl hl.1 rfl (lv_room (Nat.le_of_ble_eq_true rfl)) dX7_holds_27 ⟨Nat.zero_le _, Nat.zero_le _⟩) (fun r3 hr3 => ?_)
    replace hr3 := hr3.symm; subst hr3
    refine xb_ifeq (tgt := 37) S dX7_holds_30 (by decide) (fun c30 => ?_) (fun c30 => ?_)
    · skip
      refine lv_iconst (v := 0) hx hb dX7_holds_37 (by decide) ?_
      rw [hQ]
      exact xg_eri S hr hlk (by skip; simp only [dj_hol, c8, c30, if_true, if_false, Bool.false_eq_true]) dX7_holds_38
    · skip
      refine lv_iconst (v := 1) hx hb dX7_holds_33 (by decide) ?_
      refine lv_goto (tgt := 38) hx hb dX7_holds_34 (by decide) ?_
      rw [hQ]
      exact xg_eri S hr hlk (by skip; simp only [dj_hol, c8, c30, if_true, if_false, Bool.false_eq_true]) dX7_holds_38
  · skip
    refine lv_iconst (v := (-1)) hx hb dX7_holds_11 (by decide) ?_
    rw [hQ]
    exact xg_eri S hr hlk (by skip; simp only [dj_hol, c8, if_true, if_false, Bool.false_eq_true]) dX7_holds_12
set_option maxHeartbeats 4000000 in
set_option maxRecDepth 100000 in
theorem mX7_won (l : Launch) (D : va_G) (cI cZ : ClassId) (bs : Nat) (ad : Nat → Nat) (ws : va_W) (b : Nat) (fk : Int32) (sk : Int32) (hO : ws[b]? = some (ad b, .inr (7, [.ref (ad (b + 1)), .ref (ad (b + 14)), .ref (ad (b + 27)), .int fk, .int sk, .ref (ad (b + 40)), .ref (ad (b + 42)), .ref (ad (b + 58)), .ref (ad (b + 60)), .ref (ad (b + 61))]))) (T : Nat → Nat → Int32) (hT : xv_T cI ad ws (b + 1) T) (w9 : Int32) : Met l yX7_won wsX7_won ({ frames := 5, cells := 0, slots := 0, locals := 113 } : Room) (va_Pc [.ref (ad b), .int w9] (fun U => xg_W D cI cZ bs ws U)) (xg_Ri (fun r : Int32 => r = dj_won T w9)) 0 0 xg_F := by
  refine xg_met cX7_won 3 (some .int) RX7 (by decide) rfl rfl (Nat.le_of_ble_eq_true rfl) ?_
  intro pg en s m below meth c ls S hr hlk hnm hB hl
  have hK := hB.1
  have hG := xg_start hB
  obtain ⟨hx, hb, hml, hown, hts⟩ := id S
  have hl : lv_has ls 3 [(0, .ref (ad b)), (1, .int w9)] := hl
  obtain ⟨Q, hQ⟩ : ∃ Q, Q = MQ below (xg_Ri (fun r : Int32 => r = dj_won T w9)) ([.ref (ad b), .int w9] : List Value).toArray s 0 0 xg_F := ⟨_, rfl⟩
  rw [← hQ]
  have k0 := hts (.fieldLink RX7 10 "DareBridge" "now" "LDareBridge$Town;") (List.mem_of_getElem? (i := 1) rfl)
  refine lv_iload_n hx hb dX7_won_0 rfl (lv_at hl 1 rfl) ?_
  refine lv_iconst (v := 0) hx hb dX7_won_1 (by decide) ?_
  refine lv_iconst (v := 1) hx hb dX7_won_2 (by decide) ?_
  refine xg_ri (va_runS (As := [.int w9, .int 0, .int 1]) (rest := []) S (mX7_within l D cI cZ bs ad ws w9 0 1) (va_cwS 3 hts gX7_won_X7_within rfl rfl rfl (by decide +kernel) ⟨Nat.le_of_ble_eq_true rfl, Nat.le_of_ble_eq_true rfl⟩) (xg_preS hK hG) rfl rfl hl.1 rfl (lv_room (Nat.le_of_ble_eq_true rfl)) dX7_won_3 ⟨Nat.zero_le _, Nat.zero_le _⟩) (fun r1 hr1 => ?_)
  replace hr1 := hr1.symm; subst hr1
  refine xb_ifne (tgt := 12) S dX7_won_6 (by decide) (fun c6 => ?_) (fun c6 => ?_)
  · skip
    refine lv_aload_n hx hb dX7_won_12 rfl (lv_at hl 0 rfl) ?_
    refine xg_get (C := RX7) (T := TX7) (N := 10) S hK hG (fun w h => List.mem_cons_of_mem _ (List.mem_append_left _ (List.mem_append_right _ (h)))) b hO rfl 0 (by decide) k0 (fun _ h9 => h9) rfl dX7_won_13 ?_
    refine xg_ri (va_runV (As := []) (rest := []) S (mX5_fewestToHold l D cI cZ bs ad ws (b + 1) T hT) (cwV 0 hts gX7_won_X5_fewestToHold rfl rfl rfl (by decide +kernel) ⟨Nat.le_of_ble_eq_true rfl, Nat.le_of_ble_eq_true rfl⟩) (xg_preV hK hG (b + 1) hT.1 rfl rfl) rfl rfl hl.1 rfl (lv_room (Nat.le_of_ble_eq_true rfl)) dX7_won_16 ⟨Nat.zero_le _, Nat.zero_le _⟩) (fun r2 hr2 => ?_)
    replace hr2 := hr2.symm; subst hr2
    refine lv_topi (fun x3 ex3 => ?_)
    replace ex3 := ex3.symm
    refine lv_istore_n (lv' := [(2, .int x3), (0, .ref (ad b)), (1, .int w9)]) hx hb dX7_won_19 rfl hl (by decide) rfl (fun ls hl => ?_)
    refine lv_iload_n hx hb dX7_won_20 rfl (lv_at hl 0 rfl) ?_
    refine lv_if_ne (tgt := 27) hx hb dX7_won_21 (by decide) (fun c21 => ?_) (fun c21 => ?_)
    · skip
      refine lv_iload_n hx hb dX7_won_27 rfl (lv_at hl 2 rfl) ?_
      refine lv_if_ne (tgt := 38) hx hb dX7_won_28 (by decide) (fun c28 => ?_) (fun c28 => ?_)
      · skip
        refine lv_iload_n hx hb dX7_won_38 rfl (lv_at hl 0 rfl) ?_
        rw [hQ]
        exact xg_eri S hr hlk (by subst ex3; first | (simp only [dj_won, c6, c21, c28, if_true, if_false, Bool.false_eq_true]; done) | (unfold dj_won; rw [if_pos c6]; simp only [c6, c21, c28, if_true, if_false])) dX7_won_39
      · skip
        refine lv_iload_n hx hb dX7_won_31 rfl (lv_at hl 0 rfl) ?_
        refine xg_ri (va_runS (As := [.int x3]) (rest := []) S (mJ6_bitCount_0f7a4 l D cI cZ bs ad ws x3) (va_cwS 1 hts gX7_won_J6_bitCount_0f7a4 rfl rfl rfl (by decide +kernel) ⟨Nat.le_of_ble_eq_true rfl, Nat.le_of_ble_eq_true rfl⟩) (xg_preS hK hG) rfl rfl hl.1 rfl (lv_room (Nat.le_of_ble_eq_true rfl)) dX7_won_32 ⟨Nat.zero_le _, Nat.zero_le _⟩) (fun r4 hr4 => ?_)
        replace hr4 := hr4.symm; subst hr4
        refine lv_goto (tgt := 39) hx hb dX7_won_35 (by decide) ?_
        rw [hQ]
        exact xg_eri S hr hlk (by subst ex3; first | (simp only [dj_won, c6, c21, c28, if_true, if_false, Bool.false_eq_true]; done) | (unfold dj_won; rw [if_pos c6]; simp only [c6, c21, c28, if_true, if_false])) dX7_won_39
    · skip
      refine lv_bipush (v := (-6)) hx hb dX7_won_24 (by decide) ?_
      rw [hQ]
      exact xg_eri S hr hlk (by subst ex3; first | (simp only [dj_won, c6, c21, if_true, if_false, Bool.false_eq_true]; done) | (unfold dj_won; rw [if_pos c6]; simp only [c6, c21, if_true, if_false])) dX7_won_26
  · skip
    refine lv_bipush (v := (-2)) hx hb dX7_won_9 (by decide) ?_
    rw [hQ]
    exact xg_eri S hr hlk (by skip; first | (simp only [dj_won, c6, if_true, if_false, Bool.false_eq_true]; done) | (unfold dj_won; rw [if_pos c6]; simp only [c6, if_true, if_false])) dX7_won_11
set_option maxHeartbeats 4000000 in
set_option maxRecDepth 100000 in
theorem mX7_refuser (l : Launch) (D : va_G) (cI cZ : ClassId) (bs : Nat) (ad : Nat → Nat) (ws : va_W) (b : Nat) (fk : Int32) (sk : Int32) (hO : ws[b]? = some (ad b, .inr (7, [.ref (ad (b + 1)), .ref (ad (b + 14)), .ref (ad (b + 27)), .int fk, .int sk, .ref (ad (b + 40)), .ref (ad (b + 42)), .ref (ad (b + 58)), .ref (ad (b + 60)), .ref (ad (b + 61))]))) (T : Nat → Nat → Int32) (hT : xv_T cI ad ws (b + 1) T) (p : Int32) (y : Int32) : Met l yX7_refuser wsX7_refuser ({ frames := 5, cells := 0, slots := 0, locals := 116 } : Room) (va_Pc [.ref (ad b), .int p, .int y] (fun U => xg_W D cI cZ bs ws U)) (xg_Ri (fun r : Int32 => r = dj_rfs T p y)) 0 0 xg_F := by
  refine xg_met cX7_refuser 5 (some .int) RX7 (by decide) rfl rfl (Nat.le_of_ble_eq_true rfl) ?_
  intro pg en s m below meth c ls S hr hlk hnm hB hl
  have hK := hB.1
  have hG := xg_start hB
  obtain ⟨hx, hb, hml, hown, hts⟩ := id S
  have hl : lv_has ls 5 [(0, .ref (ad b)), (1, .int p), (2, .int y)] := hl
  obtain ⟨Q, hQ⟩ : ∃ Q, Q = MQ below (xg_Ri (fun r : Int32 => r = dj_rfs T p y)) ([.ref (ad b), .int p, .int y] : List Value).toArray s 0 0 xg_F := ⟨_, rfl⟩
  rw [← hQ]
  have k0 := hts (.fieldLink RX7 10 "DareBridge" "now" "LDareBridge$Town;") (List.mem_of_getElem? (i := 1) rfl)
  refine lv_aload_n hx hb dX7_refuser_0 rfl (lv_at hl 0 rfl) ?_
  refine lv_iload_n hx hb dX7_refuser_1 rfl (lv_at hl 1 rfl) ?_
  refine lv_iload_n hx hb dX7_refuser_2 rfl (lv_at hl 2 rfl) ?_
  refine xg_ri (va_runV (As := [.int p, .int y]) (rest := []) S (mX7_refusalOfHeight l D cI cZ bs ad ws b fk sk hO T hT p y) (cwV 2 hts gX7_refuser_X7_refusalOfHeight rfl rfl rfl (by decide +kernel) ⟨Nat.le_of_ble_eq_true rfl, Nat.le_of_ble_eq_true rfl⟩) (xg_preV hK hG b hO rfl rfl) rfl rfl hl.1 rfl (lv_room (Nat.le_of_ble_eq_true rfl)) dX7_refuser_3 ⟨Nat.zero_le _, Nat.zero_le _⟩) (fun r1 hr1 => ?_)
  replace hr1 := hr1.symm; subst hr1
  refine lv_topi (fun x2 ex2 => ?_)
  replace ex2 := ex2.symm
  refine lv_istore_n (lv' := [(3, .int x2), (0, .ref (ad b)), (1, .int p), (2, .int y)]) hx hb dX7_refuser_6 rfl hl (by decide) rfl (fun ls hl => ?_)
  refine lv_iload_n hx hb dX7_refuser_7 rfl (lv_at hl 0 rfl) ?_
  refine lv_if_eq (tgt := 13) hx hb dX7_refuser_8 (by decide) (fun c8 => ?_) (fun c8 => ?_)
  · skip
    refine lv_iconst (v := 0) hx hb dX7_refuser_13 (by decide) ?_
    refine lv_istore (lv' := [(4, .int 0), (3, .int x2), (0, .ref (ad b)), (1, .int p), (2, .int y)]) hx hb dX7_refuser_14 hl (by decide) rfl (fun ls hl => ?_)
    -- the loop at 16
    have lp16 : ∀ (fu : Nat) (k : Nat), (k ≤ 6) → (7 ≤ k + fu) → (xw_first (dj_rfd T p y) 6 0 = xw_first (dj_rfd T p y) (6 - k) k) → ∀ y16_4 : Int32, y16_4 = nI k → ∀ (ls : Array Slot), lv_has ls 5 [(0, .ref (ad b)), (1, .int p), (2, .int y), (3, .int x2), (4, .int y16_4)] → W pg l en ({ frames := 5, cells := 0, slots := 0, locals := 116 } : Room) s m ([.ref (ad b), .int p, .int y] : List Value).toArray below meth c s.heap [] 0 0 Q (F0 m 16 ls []) := by
      intro fu
      induction fu with
      | zero =>
        intro k hk hf hr2
        exact absurd hf (by omega)
      | succ fu ih16 =>
        intro k hk hf hr2 y16_4 ey16_4
        intro ls hl
        replace ey16_4 := ey16_4.symm; subst ey16_4
        refine lv_iload hx hb dX7_refuser_16 (lv_at hl 4 rfl) ?_
        refine lv_bipush (v := 6) hx hb dX7_refuser_18 (by decide) ?_
        refine lv_icmp_ge (tgt := 51) hx hb dX7_refuser_20 (by decide) (fun c20 => ?_) (fun c20 => ?_)
        · skip
          have hk9 : k = 6 := by have := xb_le (k := k) (n := 6) (by omega) (by decide) c20; omega
          refine lv_bipush (v := (-6)) hx hb dX7_refuser_51 (by decide) ?_
          have hfk : xw_first (dj_rfd T p y) 6 0 = 6 := by rw [hr2, hk9]; rfl
          rw [hQ]
          exact xg_eri S hr hlk (by subst ex2; unfold dj_rfs; rw [if_pos c8, hfk, if_neg (by decide)]) dX7_refuser_53
        · skip
          have hk9 : k < 6 := xb_lt (by omega) (by decide) c20
          refine lv_iload hx hb dX7_refuser_23 (lv_at hl 4 rfl) ?_
          refine lv_iload_n hx hb dX7_refuser_25 rfl (lv_at hl 1 rfl) ?_
          refine lv_icmp_eq (tgt := 45) hx hb dX7_refuser_26 (by decide) (fun c26 => ?_) (fun c26 => ?_)
          · skip
            obtain ⟨x3, ex3⟩ : ∃ zz : Int32, ((nI k) + 1) = zz := ⟨_, rfl⟩
            refine lv_iinc (v := x3) (lv' := [(4, .int x3), (0, .ref (ad b)), (1, .int p), (2, .int y), (3, .int x2)]) hx hb dX7_refuser_45 hl (k := 4) rfl (by rw [← ex3]; rfl) (by decide) rfl (fun ls hl => ?_)
            refine lv_goto (tgt := 16) hx hb dX7_refuser_48 (by decide) ?_
            exact ih16 (k + 1) (by omega) (by omega) (by subst ex2 ex3; rw [hr2, show 6 - k = (6 - (k + 1)) + 1 by omega, xw_first, if_pos (by simp only [dj_rfd, c8, c20, c26, if_true, if_false, Bool.not_false])]) x3 (by subst ex2 ex3; exact nI_1 k) ls (lv_sub hl [1, 2, 3, 4, 0] rfl)
          · skip
            refine lv_aload_n hx hb dX7_refuser_29 rfl (lv_at hl 0 rfl) ?_
            refine xg_get (C := RX7) (T := TX7) (N := 10) S hK hG (fun w h => List.mem_cons_of_mem _ (List.mem_append_left _ (List.mem_append_right _ (h)))) b hO rfl 0 (by decide) k0 (fun _ h9 => h9) rfl dX7_refuser_30 ?_
            refine lv_iload hx hb dX7_refuser_33 (lv_at hl 4 rfl) ?_
            refine lv_iload_n hx hb dX7_refuser_35 rfl (lv_at hl 2 rfl) ?_
            refine xg_ri (va_runV (As := [.int (nI k), .int y]) (rest := []) S (mX5_wouldRefuse l D cI cZ bs ad ws (b + 1) T hT (nI k) y) (cwV 2 hts gX7_refuser_X5_wouldRefuse rfl rfl rfl (by decide +kernel) ⟨Nat.le_of_ble_eq_true rfl, Nat.le_of_ble_eq_true rfl⟩) (xg_preV hK hG (b + 1) hT.1 rfl rfl) rfl rfl hl.1 rfl (lv_room (Nat.le_of_ble_eq_true rfl)) dX7_refuser_36 ⟨Nat.zero_le _, Nat.zero_le _⟩) (fun r4 hr4 => ?_)
            replace hr4 := hr4.symm; subst hr4
            refine xb_ifeq (tgt := 45) S dX7_refuser_39 (by decide) (fun c39 => ?_) (fun c39 => ?_)
            · skip
              obtain ⟨x5, ex5⟩ : ∃ zz : Int32, ((nI k) + 1) = zz := ⟨_, rfl⟩
              refine lv_iinc (v := x5) (lv' := [(4, .int x5), (0, .ref (ad b)), (1, .int p), (2, .int y), (3, .int x2)]) hx hb dX7_refuser_45 hl (k := 4) rfl (by rw [← ex5]; rfl) (by decide) rfl (fun ls hl => ?_)
              refine lv_goto (tgt := 16) hx hb dX7_refuser_48 (by decide) ?_
              exact ih16 (k + 1) (by omega) (by omega) (by subst ex2 ex5; rw [hr2, show 6 - k = (6 - (k + 1)) + 1 by omega, xw_first, if_pos (by simp only [dj_rfd, c8, c20, c26, c39, if_true, if_false, Bool.not_false])]) x5 (by subst ex2 ex5; exact nI_1 k) ls (lv_sub hl [1, 2, 3, 4, 0] rfl)
            · skip
              refine lv_iload hx hb dX7_refuser_42 (lv_at hl 4 rfl) ?_
              have hfk : xw_first (dj_rfd T p y) 6 0 = k := by rw [hr2, show 6 - k = (6 - (k + 1)) + 1 by omega, xw_first, if_neg (by simp only [dj_rfd, c8, c20, c26, c39, if_true, if_false, Bool.not_true, Bool.false_eq_true, not_false_eq_true])]
              rw [hQ]
              exact xg_eri S hr hlk (by subst ex2; unfold dj_rfs; rw [if_pos c8, hfk, if_pos hk9]) dX7_refuser_44
    exact lp16 7 0 (by omega) (by omega) rfl 0 (by subst ex2; rfl) ls (lv_sub hl [2, 3, 4, 1, 0] rfl)
  · skip
    refine lv_iload_n hx hb dX7_refuser_11 rfl (lv_at hl 0 rfl) ?_
    rw [hQ]
    exact xg_eri S hr hlk (by subst ex2; simp only [dj_rfs, c8, if_true, if_false, Bool.false_eq_true]) dX7_refuser_12
set_option maxHeartbeats 4000000 in
set_option maxRecDepth 100000 in
theorem mX7_likely (l : Launch) (D : va_G) (cI cZ : ClassId) (bs : Nat) (ad : Nat → Nat) (ws : va_W) (b : Nat) (fk : Int32) (sk : Int32) (hO : ws[b]? = some (ad b, .inr (7, [.ref (ad (b + 1)), .ref (ad (b + 14)), .ref (ad (b + 27)), .int fk, .int sk, .ref (ad (b + 40)), .ref (ad (b + 42)), .ref (ad (b + 58)), .ref (ad (b + 60)), .ref (ad (b + 61))]))) (T : Nat → Nat → Int32) (hT : xv_T cI ad ws (b + 1) T) (p : Int32) (y : Int32) : Met l yX7_likely wsX7_likely ({ frames := 4, cells := 0, slots := 0, locals := 94 } : Room) (va_Pc [.ref (ad b), .int p, .int y] (fun U => xg_W D cI cZ bs ws U)) (xg_Ri (fun r : Int32 => r = dj_lik T p y)) 0 0 xg_F := by
  refine xg_met cX7_likely 6 (some .int) RX7 (by decide) rfl rfl (Nat.le_of_ble_eq_true rfl) ?_
  intro pg en s m below meth c ls S hr hlk hnm hB hl
  have hK := hB.1
  have hG := xg_start hB
  obtain ⟨hx, hb, hml, hown, hts⟩ := id S
  have hl : lv_has ls 6 [(0, .ref (ad b)), (1, .int p), (2, .int y)] := hl
  obtain ⟨Q, hQ⟩ : ∃ Q, Q = MQ below (xg_Ri (fun r : Int32 => r = dj_lik T p y)) ([.ref (ad b), .int p, .int y] : List Value).toArray s 0 0 xg_F := ⟨_, rfl⟩
  rw [← hQ]
  have k0 := hts (.fieldLink RX7 10 "DareBridge" "now" "LDareBridge$Town;") (List.mem_of_getElem? (i := 1) rfl)
  refine lv_aload_n hx hb dX7_likely_0 rfl (lv_at hl 0 rfl) ?_
  refine lv_iload_n hx hb dX7_likely_1 rfl (lv_at hl 1 rfl) ?_
  refine lv_iload_n hx hb dX7_likely_2 rfl (lv_at hl 2 rfl) ?_
  refine xg_ri (va_runV (As := [.int p, .int y]) (rest := []) S (mX7_refusalOfHeight l D cI cZ bs ad ws b fk sk hO T hT p y) (cwV 2 hts gX7_likely_X7_refusalOfHeight rfl rfl rfl (by decide +kernel) ⟨Nat.le_of_ble_eq_true rfl, Nat.le_of_ble_eq_true rfl⟩) (xg_preV hK hG b hO rfl rfl) rfl rfl hl.1 rfl (lv_room (Nat.le_of_ble_eq_true rfl)) dX7_likely_3 ⟨Nat.zero_le _, Nat.zero_le _⟩) (fun r1 hr1 => ?_)
  replace hr1 := hr1.symm; subst hr1
  refine lv_topi (fun x2 ex2 => ?_)
  replace ex2 := ex2.symm
  refine lv_istore_n (lv' := [(3, .int x2), (0, .ref (ad b)), (1, .int p), (2, .int y)]) hx hb dX7_likely_6 rfl hl (by decide) rfl (fun ls hl => ?_)
  refine lv_iload_n hx hb dX7_likely_7 rfl (lv_at hl 0 rfl) ?_
  refine lv_if_eq (tgt := 13) hx hb dX7_likely_8 (by decide) (fun c8 => ?_) (fun c8 => ?_)
  · skip
    refine lv_iconst (v := 0) hx hb dX7_likely_13 (by decide) ?_
    refine lv_istore (lv' := [(4, .int 0), (3, .int x2), (0, .ref (ad b)), (1, .int p), (2, .int y)]) hx hb dX7_likely_14 hl (by decide) rfl (fun ls hl => ?_)
    refine lv_iconst (v := 0) hx hb dX7_likely_16 (by decide) ?_
    refine lv_istore (lv' := [(5, .int 0), (4, .int 0), (3, .int x2), (0, .ref (ad b)), (1, .int p), (2, .int y)]) hx hb dX7_likely_17 hl (by decide) rfl (fun ls hl => ?_)
    -- the loop at 19
    have lp19 : ∀ (fu : Nat) (k : Nat), (k ≤ 10) → (11 ≤ k + fu) → ∀ y19_4 : Int32, y19_4 = dj_lkk T p y k → ∀ y19_5 : Int32, y19_5 = nI k → ∀ (ls : Array Slot), lv_has ls 6 [(0, .ref (ad b)), (1, .int p), (2, .int y), (3, .int x2), (4, .int y19_4), (5, .int y19_5)] → W pg l en ({ frames := 4, cells := 0, slots := 0, locals := 94 } : Room) s m ([.ref (ad b), .int p, .int y] : List Value).toArray below meth c s.heap [] 0 0 Q (F0 m 19 ls []) := by
      intro fu
      induction fu with
      | zero =>
        intro k hk hf
        exact absurd hf (by omega)
      | succ fu ih19 =>
        intro k hk hf y19_4 ey19_4 y19_5 ey19_5
        intro ls hl
        replace ey19_4 := ey19_4.symm; subst ey19_4
        replace ey19_5 := ey19_5.symm; subst ey19_5
        refine lv_iload hx hb dX7_likely_19 (lv_at hl 5 rfl) ?_
        refine lv_bipush (v := 9) hx hb dX7_likely_21 (by decide) ?_
        refine lv_icmp_gt (tgt := 49) hx hb dX7_likely_23 (by decide) (fun c23 => ?_) (fun c23 => ?_)
        · skip
          have hk9 : k = 10 := by have := xb_gt (k := k) (n := 9) (by omega) (by decide) c23; omega
          refine lv_iload hx hb dX7_likely_49 (lv_at hl 4 rfl) ?_
          rw [hQ]
          exact xg_eri S hr hlk (by subst ex2; unfold dj_lik; rw [if_pos c8, hk9]) dX7_likely_51
        · skip
          have hk9 : k ≤ 9 := xb_ngt (k := k) (n := 9) (by omega) (by decide) c23
          refine lv_aload_n hx hb dX7_likely_26 rfl (lv_at hl 0 rfl) ?_
          refine xg_get (C := RX7) (T := TX7) (N := 10) S hK hG (fun w h => List.mem_cons_of_mem _ (List.mem_append_left _ (List.mem_append_right _ (h)))) b hO rfl 0 (by decide) k0 (fun _ h9 => h9) rfl dX7_likely_27 ?_
          refine lv_iload_n hx hb dX7_likely_30 rfl (lv_at hl 1 rfl) ?_
          refine lv_iload_n hx hb dX7_likely_31 rfl (lv_at hl 2 rfl) ?_
          refine lv_iload hx hb dX7_likely_32 (lv_at hl 5 rfl) ?_
          refine xg_ri (va_runV (As := [.int p, .int y, .int (nI k)]) (rest := []) S (mX5_dares l D cI cZ bs ad ws (b + 1) T hT p y (nI k)) (cwV 3 hts gX7_likely_X5_dares rfl rfl rfl (by decide +kernel) ⟨Nat.le_of_ble_eq_true rfl, Nat.le_of_ble_eq_true rfl⟩) (xg_preV hK hG (b + 1) hT.1 rfl rfl) rfl rfl hl.1 rfl (lv_room (Nat.le_of_ble_eq_true rfl)) dX7_likely_34 ⟨Nat.zero_le _, Nat.zero_le _⟩) (fun r3 hr3 => ?_)
          replace hr3 := hr3.symm; subst hr3
          refine xb_ifeq (tgt := 43) S dX7_likely_37 (by decide) (fun c37 => ?_) (fun c37 => ?_)
          · skip
            obtain ⟨x4, ex4⟩ : ∃ zz : Int32, ((nI k) + 1) = zz := ⟨_, rfl⟩
            refine lv_iinc (v := x4) (lv' := [(5, .int x4), (0, .ref (ad b)), (1, .int p), (2, .int y), (3, .int x2), (4, .int (dj_lkk T p y k))]) hx hb dX7_likely_43 hl (k := 5) rfl (by rw [← ex4]; rfl) (by decide) rfl (fun ls hl => ?_)
            refine lv_goto (tgt := 19) hx hb dX7_likely_46 (by decide) ?_
            exact ih19 (k + 1) (by omega) (by omega) (dj_lkk T p y k) (by subst ex2 ex4; simp only [dj_lkk, c8, c23, c37, if_true, if_false, Bool.false_eq_true]) x4 (by subst ex2 ex4; exact nI_1 k) ls (lv_sub hl [1, 2, 3, 4, 5, 0] rfl)
          · skip
            obtain ⟨x5, ex5⟩ : ∃ zz : Int32, ((dj_lkk T p y k) + 1) = zz := ⟨_, rfl⟩
            refine lv_iinc (v := x5) (lv' := [(4, .int x5), (0, .ref (ad b)), (1, .int p), (2, .int y), (3, .int x2), (5, .int (nI k))]) hx hb dX7_likely_40 hl (k := 4) rfl (by rw [← ex5]; rfl) (by decide) rfl (fun ls hl => ?_)
            obtain ⟨x6, ex6⟩ : ∃ zz : Int32, ((nI k) + 1) = zz := ⟨_, rfl⟩
            refine lv_iinc (v := x6) (lv' := [(5, .int x6), (4, .int x5), (0, .ref (ad b)), (1, .int p), (2, .int y), (3, .int x2)]) hx hb dX7_likely_43 hl (k := 5) rfl (by rw [← ex6]; rfl) (by decide) rfl (fun ls hl => ?_)
            refine lv_goto (tgt := 19) hx hb dX7_likely_46 (by decide) ?_
            exact ih19 (k + 1) (by omega) (by omega) x5 (by subst ex2 ex5 ex6; simp only [dj_lkk, c8, c23, c37, if_true, if_false, Bool.false_eq_true]) x6 (by subst ex2 ex5 ex6; exact nI_1 k) ls (lv_sub hl [2, 3, 4, 5, 1, 0] rfl)
    exact lp19 11 0 (by omega) (by omega) 0 (by subst ex2; rfl) 0 (by subst ex2; rfl) ls (lv_sub hl [3, 4, 5, 2, 1, 0] rfl)
  · skip
    refine lv_iload_n hx hb dX7_likely_11 rfl (lv_at hl 0 rfl) ?_
    rw [hQ]
    exact xg_eri S hr hlk (by subst ex2; simp only [dj_lik, c8, if_true, if_false, Bool.false_eq_true]) dX7_likely_12
set_option maxHeartbeats 4000000 in
set_option maxRecDepth 100000 in
theorem mX7_seen (l : Launch) (D : va_G) (cI cZ : ClassId) (bs : Nat) (ad : Nat → Nat) (ws : va_W) (b : Nat) (fk : Int32) (sk : Int32) (hO : ws[b]? = some (ad b, .inr (7, [.ref (ad (b + 1)), .ref (ad (b + 14)), .ref (ad (b + 27)), .int fk, .int sk, .ref (ad (b + 40)), .ref (ad (b + 42)), .ref (ad (b + 58)), .ref (ad (b + 60)), .ref (ad (b + 61))]))) (T : Nat → Nat → Int32) (hT : xv_T cI ad ws (b + 1) T) (p : Int32) (y : Int32) (d : Int32) : Met l yX7_seen wsX7_seen ({ frames := 3, cells := 0, slots := 0, locals := 64 } : Room) (va_Pc [.ref (ad b), .int p, .int y, .int d] (fun U => xg_W D cI cZ bs ws U)) (va_Qi (fun (r : Int32) (w : va_W) => r = dj_seeR T p y d ∧ w[b]? = some (ad b, .inr (7, [.ref (ad (b + 1)), .ref (ad (b + 14)), .ref (ad (b + 27)), .int fk, .int sk, .ref (ad (b + 40)), .ref (ad (b + 42)), .ref (ad (b + 58)), .ref (ad (b + 60)), .ref (ad (b + 61))])) ∧ xv_T cI ad w (b + 1) (dj_seeT T p y d) ∧ xv_S ws w (b + 1) 13) (fun w t => xg_W D cI cZ bs w t) (xg_A bs)) 0 0 (xg_A bs) := by
  refine xg_met cX7_seen 5 (some .int) RX7 (by decide) rfl rfl (Nat.le_of_ble_eq_true rfl) ?_
  intro pg en s m below meth c ls S hr hlk hnm hB hl
  have hK := hB.1
  have hG := xg_start hB
  obtain ⟨hx, hb, hml, hown, hts⟩ := id S
  have hl : lv_has ls 5 [(0, .ref (ad b)), (1, .int p), (2, .int y), (3, .int d)] := hl
  obtain ⟨Q, hQ⟩ : ∃ Q, Q = MQ below (va_Qi (fun (r : Int32) (w : va_W) => r = dj_seeR T p y d ∧ w[b]? = some (ad b, .inr (7, [.ref (ad (b + 1)), .ref (ad (b + 14)), .ref (ad (b + 27)), .int fk, .int sk, .ref (ad (b + 40)), .ref (ad (b + 42)), .ref (ad (b + 58)), .ref (ad (b + 60)), .ref (ad (b + 61))])) ∧ xv_T cI ad w (b + 1) (dj_seeT T p y d) ∧ xv_S ws w (b + 1) 13) (fun w t => xg_W D cI cZ bs w t) (xg_A bs)) ([.ref (ad b), .int p, .int y, .int d] : List Value).toArray s 0 0 (xg_A bs) := ⟨_, rfl⟩
  rw [← hQ]
  have k0 := hts (.fieldLink RX7 10 "DareBridge" "now" "LDareBridge$Town;") (List.mem_of_getElem? (i := 1) rfl)
  have k1 := hts (.fieldLink RX7 250 "DareBridge$Town" "sights" "I") (List.mem_of_getElem? (i := 2) rfl)
  refine lv_aload_n hx hb dX7_seen_0 rfl (lv_at hl 0 rfl) ?_
  refine lv_iload_n hx hb dX7_seen_1 rfl (lv_at hl 1 rfl) ?_
  refine lv_iload_n hx hb dX7_seen_2 rfl (lv_at hl 2 rfl) ?_
  refine xg_ri (va_runV (As := [.int p, .int y]) (rest := []) S (mX7_refusalOfHeight l D cI cZ bs ad ws b fk sk hO T hT p y) (cwV 2 hts gX7_seen_X7_refusalOfHeight rfl rfl rfl (by decide +kernel) ⟨Nat.le_of_ble_eq_true rfl, Nat.le_of_ble_eq_true rfl⟩) (xg_preV hK hG b hO rfl rfl) rfl rfl hl.1 rfl (lv_room (Nat.le_of_ble_eq_true rfl)) dX7_seen_3 ⟨Nat.zero_le _, Nat.zero_le _⟩) (fun r1 hr1 => ?_)
  replace hr1 := hr1.symm; subst hr1
  refine lv_topi (fun x2 ex2 => ?_)
  replace ex2 := ex2.symm
  refine lv_istore (lv' := [(4, .int x2), (0, .ref (ad b)), (1, .int p), (2, .int y), (3, .int d)]) hx hb dX7_seen_6 hl (by decide) rfl (fun ls hl => ?_)
  refine lv_iload hx hb dX7_seen_8 (lv_at hl 0 rfl) ?_
  refine lv_if_eq (tgt := 16) hx hb dX7_seen_10 (by decide) (fun c10 => ?_) (fun c10 => ?_)
  · skip
    refine lv_iload_n hx hb dX7_seen_16 rfl (lv_at hl 4 rfl) ?_
    refine lv_iconst (v := 0) hx hb dX7_seen_17 (by decide) ?_
    refine lv_iconst (v := 1) hx hb dX7_seen_18 (by decide) ?_
    refine xg_ri (va_runS (As := [.int d, .int 0, .int 1]) (rest := []) S (mX7_within l D cI cZ bs ad ws d 0 1) (va_cwS 3 hts gX7_seen_X7_within rfl rfl rfl (by decide +kernel) ⟨Nat.le_of_ble_eq_true rfl, Nat.le_of_ble_eq_true rfl⟩) (xg_preS hK hG) rfl rfl hl.1 rfl (lv_room (Nat.le_of_ble_eq_true rfl)) dX7_seen_19 ⟨Nat.zero_le _, Nat.zero_le _⟩) (fun r3 hr3 => ?_)
    replace hr3 := hr3.symm; subst hr3
    refine xb_ifne (tgt := 28) S dX7_seen_22 (by decide) (fun c22 => ?_) (fun c22 => ?_)
    · skip
      refine lv_aload_n hx hb dX7_seen_28 rfl (lv_at hl 1 rfl) ?_
      refine xg_get (C := RX7) (T := TX7) (N := 10) S hK hG (fun w h => List.mem_cons_of_mem _ (List.mem_append_left _ (List.mem_append_right _ (h)))) b hO rfl 0 (by decide) k0 (fun _ h9 => h9) rfl dX7_seen_29 ?_
      refine lv_iload_n hx hb dX7_seen_32 rfl (lv_at hl 2 rfl) ?_
      refine lv_iload_n hx hb dX7_seen_33 rfl (lv_at hl 3 rfl) ?_
      refine lv_iload_n hx hb dX7_seen_34 rfl (lv_at hl 4 rfl) ?_
      refine xg_mi (va_runV (As := [.int p, .int y, .int d]) (rest := []) S (mX5_see l D cI cZ bs ad ws (b + 1) T hT p y d) (cwV 3 hts gX7_seen_X5_see rfl rfl rfl (by decide +kernel) ⟨Nat.le_of_ble_eq_true rfl, Nat.le_of_ble_eq_true rfl⟩) (xg_preV hK hG (b + 1) hT.1 rfl rfl) rfl rfl hl.1 rfl (lv_room (Nat.le_of_ble_eq_true rfl)) dX7_seen_35 ⟨Nat.zero_le _, Nat.zero_le _⟩) hG (fun r4 w5 H locs hr4 hG => ?_)
      obtain ⟨hr4, hvw5_0, hsw5⟩ := hr4
      replace hr4 := hr4.symm; subst hr4
      have hT : xv_T cI ad w5 (b + 1) (dt_see T p y d) := hvw5_0
      obtain ⟨T6, eT6⟩ : ∃ zz : Nat → Nat → Int32, (dt_see T p y d) = zz := ⟨_, rfl⟩
      rw [eT6] at hT
      have hO : w5[b]? = some (ad b, .inr (7, [.ref (ad (b + 1)), .ref (ad (b + 14)), .ref (ad (b + 27)), .int fk, .int sk, .ref (ad (b + 40)), .ref (ad (b + 42)), .ref (ad (b + 58)), .ref (ad (b + 60)), .ref (ad (b + 61))])) := hsw5.at hO (by omega)
      have hSw5 : xv_S ws w5 (b + 1) 13 := hsw5.mono (by omega) (by omega)
      refine xb_ifeq (tgt := 51) S dX7_seen_38 (by decide) (fun c38 => ?_) (fun c38 => ?_)
      · skip
        replace c38 := of_decide_eq_false c38
        refine lv_bipush (v := (-4)) hx hb dX7_seen_51 (by decide) ?_
        rw [hQ]
        exact xg_emi S hr hlk hK hG ⟨(by subst ex2 eT6; simp only [dj_seeR, c10, c22, c38, if_true, if_false, Bool.false_eq_true]), hO, (by rw [show (dj_seeT T p y d) = T6 from (by subst ex2 eT6; simp only [dj_seeT, c10, c22, c38, if_true, if_false, Bool.false_eq_true])]; exact hT), hSw5⟩ dX7_seen_53
      · skip
        replace c38 := of_decide_eq_true c38
        refine lv_aload_n hx hb dX7_seen_41 rfl (lv_at hl 1 rfl) ?_
        refine xg_get (C := RX7) (T := TX7) (N := 10) S hK hG (fun w h => List.mem_cons_of_mem _ (List.mem_append_left _ (List.mem_append_right _ (h)))) b hO rfl 0 (by decide) k0 (fun _ h9 => h9) rfl dX7_seen_42 ?_
        refine xg_get (C := RX5) (T := TX5) (N := 13) S hK hG (fun w h => List.mem_cons_of_mem _ (List.mem_append_right _ (h))) (b + 1) hT.1 rfl 12 (by decide) k1 (fun _ h9 => h9) rfl dX7_seen_45 ?_
        refine lv_goto (tgt := 53) hx hb dX7_seen_48 (by decide) ?_
        rw [hQ]
        exact xg_emi S hr hlk hK hG ⟨(by subst ex2 eT6; simp only [dj_seeR, c10, c22, c38, if_true, if_false, Bool.false_eq_true]), hO, (by rw [show (dj_seeT T p y d) = T6 from (by subst ex2 eT6; simp only [dj_seeT, c10, c22, c38, if_true, if_false, Bool.false_eq_true])]; exact hT), hSw5⟩ dX7_seen_53
    · skip
      refine lv_bipush (v := (-2)) hx hb dX7_seen_25 (by decide) ?_
      rw [hQ]
      exact xg_emi S hr hlk hK hG ⟨(by subst ex2; simp only [dj_seeR, c10, c22, if_true, if_false, Bool.false_eq_true]), hO, (by rw [show (dj_seeT T p y d) = T from (by subst ex2; simp only [dj_seeT, c10, c22, if_true, if_false, Bool.false_eq_true])]; exact hT), xv_S.rf⟩ dX7_seen_27
  · skip
    refine lv_iload hx hb dX7_seen_13 (lv_at hl 0 rfl) ?_
    rw [hQ]
    exact xg_emi S hr hlk hK hG ⟨(by subst ex2; simp only [dj_seeR, c10, if_true, if_false, Bool.false_eq_true]), hO, (by rw [show (dj_seeT T p y d) = T from (by subst ex2; simp only [dj_seeT, c10, if_true, if_false, Bool.false_eq_true])]; exact hT), xv_S.rf⟩ dX7_seen_15
set_option maxHeartbeats 4000000 in
set_option maxRecDepth 100000 in
theorem mX7_forget (l : Launch) (D : va_G) (cI cZ : ClassId) (bs : Nat) (ad : Nat → Nat) (ws : va_W) (b : Nat) (fk : Int32) (sk : Int32) (hO : ws[b]? = some (ad b, .inr (7, [.ref (ad (b + 1)), .ref (ad (b + 14)), .ref (ad (b + 27)), .int fk, .int sk, .ref (ad (b + 40)), .ref (ad (b + 42)), .ref (ad (b + 58)), .ref (ad (b + 60)), .ref (ad (b + 61))]))) (T : Nat → Nat → Int32) (hT : xv_T cI ad ws (b + 1) T) : Met l yX7_forget wsX7_forget ({ frames := 0, cells := 0, slots := 0, locals := 0 } : Room) (va_Pc [.ref (ad b)] (fun U => xg_W D cI cZ bs ws U)) (va_Qi (fun (r : Int32) (w : va_W) => r = T 12 0 ∧ w[b]? = some (ad b, .inr (7, [.ref (ad (b + 1)), .ref (ad (b + 14)), .ref (ad (b + 27)), .int fk, .int sk, .ref (ad (b + 40)), .ref (ad (b + 42)), .ref (ad (b + 58)), .ref (ad (b + 60)), .ref (ad (b + 61))])) ∧ xv_T cI ad w (b + 1) (va_up T 12 (fun _ => 0)) ∧ xv_S ws w (b + 1) 13) (fun w t => xg_W D cI cZ bs w t) (xg_A bs)) 0 0 (xg_A bs) := by
  refine xg_met cX7_forget 2 (some .int) RX7 (by decide) rfl rfl (Nat.le_of_ble_eq_true rfl) ?_
  intro pg en s m below meth c ls S hr hlk hnm hB hl
  have hK := hB.1
  have hG := xg_start hB
  obtain ⟨hx, hb, hml, hown, hts⟩ := id S
  have hl : lv_has ls 2 [(0, .ref (ad b))] := hl
  obtain ⟨Q, hQ⟩ : ∃ Q, Q = MQ below (va_Qi (fun (r : Int32) (w : va_W) => r = T 12 0 ∧ w[b]? = some (ad b, .inr (7, [.ref (ad (b + 1)), .ref (ad (b + 14)), .ref (ad (b + 27)), .int fk, .int sk, .ref (ad (b + 40)), .ref (ad (b + 42)), .ref (ad (b + 58)), .ref (ad (b + 60)), .ref (ad (b + 61))])) ∧ xv_T cI ad w (b + 1) (va_up T 12 (fun _ => 0)) ∧ xv_S ws w (b + 1) 13) (fun w t => xg_W D cI cZ bs w t) (xg_A bs)) ([.ref (ad b)] : List Value).toArray s 0 0 (xg_A bs) := ⟨_, rfl⟩
  rw [← hQ]
  have k0 := hts (.fieldLink RX7 10 "DareBridge" "now" "LDareBridge$Town;") (List.mem_of_getElem? (i := 1) rfl)
  have k1 := hts (.fieldLink RX7 250 "DareBridge$Town" "sights" "I") (List.mem_of_getElem? (i := 2) rfl)
  refine lv_aload_n hx hb dX7_forget_0 rfl (lv_at hl 0 rfl) ?_
  refine xg_get (C := RX7) (T := TX7) (N := 10) S hK hG (fun w h => List.mem_cons_of_mem _ (List.mem_append_left _ (List.mem_append_right _ (h)))) b hO rfl 0 (by decide) k0 (fun _ h9 => h9) rfl dX7_forget_1 ?_
  refine xg_get (C := RX5) (T := TX5) (N := 13) S hK hG (fun w h => List.mem_cons_of_mem _ (List.mem_append_right _ (h))) (b + 1) hT.1 rfl 12 (by decide) k1 (fun _ h9 => h9) rfl dX7_forget_4 ?_
  refine lv_topi (fun x1 ex1 => ?_)
  replace ex1 := ex1.symm
  refine lv_istore_n (lv' := [(1, .int x1), (0, .ref (ad b))]) hx hb dX7_forget_7 rfl hl (by decide) rfl (fun ls hl => ?_)
  refine lv_aload_n hx hb dX7_forget_8 rfl (lv_at hl 1 rfl) ?_
  refine xg_get (C := RX7) (T := TX7) (N := 10) S hK hG (fun w h => List.mem_cons_of_mem _ (List.mem_append_left _ (List.mem_append_right _ (h)))) b hO rfl 0 (by decide) k0 (fun _ h9 => h9) rfl dX7_forget_9 ?_
  refine lv_iconst (v := 0) hx hb dX7_forget_12 (by decide) ?_
  refine xg_put2 (C := RX5) (T := TX5) (N := 13) (v := .int 0) (ty := .int) S hK hG (fun w h => List.mem_cons_of_mem _ (List.mem_append_right _ (h))) tyX5 tyX5_ok nmX5 (b + 1) hT.1 rfl 12 (by decide) k1 (fun _ h9 => h9) rfl (by decide +kernel) rfl rfl (Nat.le_of_ble_eq_true rfl) dX7_forget_13 (fun w2 H locs hw2 hG => ?_)
  have hs3 : xv_S ws w2 (b + 1) 1 := by rw [hw2]; exact xv_S.set (by omega) (by omega)
  obtain ⟨T4, eT4⟩ : ∃ zz : Nat → Nat → Int32, (va_up T 12 (fun _ => 0)) = zz := ⟨_, rfl⟩
  have hT : xv_T cI ad w2 (b + 1) T4 := by rw [hw2, ← eT4]; exact hT.sights
  have hO : w2[b]? = some (ad b, .inr (7, [.ref (ad (b + 1)), .ref (ad (b + 14)), .ref (ad (b + 27)), .int fk, .int sk, .ref (ad (b + 40)), .ref (ad (b + 42)), .ref (ad (b + 58)), .ref (ad (b + 60)), .ref (ad (b + 61))])) := hs3.at hO (by omega)
  have hSw2 : xv_S ws w2 (b + 1) 13 := hs3.mono (by omega) (by omega)
  refine lv_iload_n hx hb dX7_forget_16 rfl (lv_at hl 0 rfl) ?_
  rw [hQ]
  exact xg_emi S hr hlk hK hG ⟨(by subst ex1 eT4; rfl), hO, (by rw [show (va_up T 12 (fun _ => 0)) = T4 from (by subst ex1 eT4; rfl)]; exact hT), hSw2⟩ dX7_forget_17
set_option maxHeartbeats 4000000 in
set_option maxRecDepth 100000 in
theorem mX7_prides (l : Launch) (D : va_G) (cI cZ : ClassId) (bs : Nat) (ad : Nat → Nat) (ws : va_W) (b : Nat) (fk : Int32) (sk : Int32) (hO : ws[b]? = some (ad b, .inr (7, [.ref (ad (b + 1)), .ref (ad (b + 14)), .ref (ad (b + 27)), .int fk, .int sk, .ref (ad (b + 40)), .ref (ad (b + 42)), .ref (ad (b + 58)), .ref (ad (b + 60)), .ref (ad (b + 61))]))) (T : Nat → Nat → Int32) (hT : xv_T cI ad ws (b + 1) T) (p : Int32) (w9 : Int32) (ns : Nat) (hns : T 12 0 = nI ns) (hn6 : ns ≤ 6) : Met l yX7_prides wsX7_prides ({ frames := 5, cells := 0, slots := 0, locals := 118 } : Room) (va_Pc [.ref (ad b), .int p, .int w9] (fun U => xg_W D cI cZ bs ws U)) (xg_Ri (fun r : Int32 => r = dj_pri T p w9 ns)) 0 0 xg_F := by
  refine xg_met cX7_prides 7 (some .int) RX7 (by decide) rfl rfl (Nat.le_of_ble_eq_true rfl) ?_
  intro pg en s m below meth c ls S hr hlk hnm hB hl
  have hK := hB.1
  have hG := xg_start hB
  obtain ⟨hx, hb, hml, hown, hts⟩ := id S
  have hl : lv_has ls 7 [(0, .ref (ad b)), (1, .int p), (2, .int w9)] := hl
  obtain ⟨Q, hQ⟩ : ∃ Q, Q = MQ below (xg_Ri (fun r : Int32 => r = dj_pri T p w9 ns)) ([.ref (ad b), .int p, .int w9] : List Value).toArray s 0 0 xg_F := ⟨_, rfl⟩
  rw [← hQ]
  have k0 := hts (.fieldLink RX7 10 "DareBridge" "now" "LDareBridge$Town;") (List.mem_of_getElem? (i := 1) rfl)
  refine lv_aload_n hx hb dX7_prides_0 rfl (lv_at hl 0 rfl) ?_
  refine xg_get (C := RX7) (T := TX7) (N := 10) S hK hG (fun w h => List.mem_cons_of_mem _ (List.mem_append_left _ (List.mem_append_right _ (h)))) b hO rfl 0 (by decide) k0 (fun _ h9 => h9) rfl dX7_prides_1 ?_
  refine lv_iload_n hx hb dX7_prides_4 rfl (lv_at hl 1 rfl) ?_
  refine xg_ri (va_runV (As := [.int p]) (rest := []) S (mX5_isThere l D cI cZ bs ad ws (b + 1) T hT p) (cwV 1 hts gX7_prides_X5_isThere rfl rfl rfl (by decide +kernel) ⟨Nat.le_of_ble_eq_true rfl, Nat.le_of_ble_eq_true rfl⟩) (xg_preV hK hG (b + 1) hT.1 rfl rfl) rfl rfl hl.1 rfl (lv_room (Nat.le_of_ble_eq_true rfl)) dX7_prides_5 ⟨Nat.zero_le _, Nat.zero_le _⟩) (fun r1 hr1 => ?_)
  replace hr1 := hr1.symm; subst hr1
  refine xb_ifne (tgt := 13) S dX7_prides_8 (by decide) (fun c8 => ?_) (fun c8 => ?_)
  · skip
    refine lv_iload_n hx hb dX7_prides_13 rfl (lv_at hl 2 rfl) ?_
    refine lv_iconst (v := 0) hx hb dX7_prides_14 (by decide) ?_
    refine lv_iconst (v := 2) hx hb dX7_prides_15 (by decide) ?_
    refine xg_ri (va_runS (As := [.int w9, .int 0, .int 2]) (rest := []) S (mX7_within l D cI cZ bs ad ws w9 0 2) (va_cwS 3 hts gX7_prides_X7_within rfl rfl rfl (by decide +kernel) ⟨Nat.le_of_ble_eq_true rfl, Nat.le_of_ble_eq_true rfl⟩) (xg_preS hK hG) rfl rfl hl.1 rfl (lv_room (Nat.le_of_ble_eq_true rfl)) dX7_prides_16 ⟨Nat.zero_le _, Nat.zero_le _⟩) (fun r2 hr2 => ?_)
    replace hr2 := hr2.symm; subst hr2
    refine xb_ifne (tgt := 25) S dX7_prides_19 (by decide) (fun c19 => ?_) (fun c19 => ?_)
    · skip
      refine lv_iconst (v := 0) hx hb dX7_prides_25 (by decide) ?_
      refine lv_istore_n (lv' := [(3, .int 0), (0, .ref (ad b)), (1, .int p), (2, .int w9)]) hx hb dX7_prides_26 rfl hl (by decide) rfl (fun ls hl => ?_)
      refine lv_bipush (v := (-6)) hx hb dX7_prides_27 (by decide) ?_
      refine lv_istore (lv' := [(4, .int (-6)), (3, .int 0), (0, .ref (ad b)), (1, .int p), (2, .int w9)]) hx hb dX7_prides_29 hl (by decide) rfl (fun ls hl => ?_)
      refine lv_bipush (v := (-6)) hx hb dX7_prides_31 (by decide) ?_
      refine lv_istore (lv' := [(5, .int (-6)), (4, .int (-6)), (3, .int 0), (0, .ref (ad b)), (1, .int p), (2, .int w9)]) hx hb dX7_prides_33 hl (by decide) rfl (fun ls hl => ?_)
      refine lv_iconst (v := 0) hx hb dX7_prides_35 (by decide) ?_
      refine lv_istore (lv' := [(6, .int 0), (5, .int (-6)), (4, .int (-6)), (3, .int 0), (0, .ref (ad b)), (1, .int p), (2, .int w9)]) hx hb dX7_prides_36 hl (by decide) rfl (fun ls hl => ?_)
      -- the loop at 38
      have lp38 : ∀ (fu : Nat) (k : Nat), (k ≤ 10) → (11 ≤ k + fu) → ∀ y38_3 : Int32, y38_3 = (dj_prk T p ns k).1 → ∀ y38_4 : Int32, y38_4 = (dj_prk T p ns k).2.1 → ∀ y38_5 : Int32, y38_5 = (dj_prk T p ns k).2.2 → ∀ y38_6 : Int32, y38_6 = nI k → ∀ (ls : Array Slot), lv_has ls 7 [(0, .ref (ad b)), (1, .int p), (2, .int w9), (3, .int y38_3), (4, .int y38_4), (5, .int y38_5), (6, .int y38_6)] → W pg l en ({ frames := 5, cells := 0, slots := 0, locals := 118 } : Room) s m ([.ref (ad b), .int p, .int w9] : List Value).toArray below meth c s.heap [] 0 0 Q (F0 m 38 ls []) := by
        intro fu
        induction fu with
        | zero =>
          intro k hk hf
          exact absurd hf (by omega)
        | succ fu ih38 =>
          intro k hk hf y38_3 ey38_3 y38_4 ey38_4 y38_5 ey38_5 y38_6 ey38_6
          intro ls hl
          replace ey38_3 := ey38_3.symm; subst ey38_3
          replace ey38_4 := ey38_4.symm; subst ey38_4
          replace ey38_5 := ey38_5.symm; subst ey38_5
          replace ey38_6 := ey38_6.symm; subst ey38_6
          refine lv_iload hx hb dX7_prides_38 (lv_at hl 6 rfl) ?_
          refine lv_bipush (v := 9) hx hb dX7_prides_40 (by decide) ?_
          refine lv_icmp_gt (tgt := 84) hx hb dX7_prides_42 (by decide) (fun c42 => ?_) (fun c42 => ?_)
          · skip
            have hk9 : k = 10 := by have := xb_gt (k := k) (n := 9) (by omega) (by decide) c42; omega
            refine lv_iload_n hx hb dX7_prides_84 rfl (lv_at hl 2 rfl) ?_
            refine lv_if_ne (tgt := 90) hx hb dX7_prides_85 (by decide) (fun c85 => ?_) (fun c85 => ?_)
            · skip
              refine lv_iload_n hx hb dX7_prides_90 rfl (lv_at hl 2 rfl) ?_
              refine lv_iconst (v := 1) hx hb dX7_prides_91 (by decide) ?_
              refine lv_icmp_ne (tgt := 100) hx hb dX7_prides_92 (by decide) (fun c92 => ?_) (fun c92 => ?_)
              · skip
                refine lv_iload hx hb dX7_prides_100 (lv_at hl 5 rfl) ?_
                rw [hQ]
                exact xg_eri S hr hlk (by skip; rw [hk9]; first | (simp only [dj_pri, c8, c19, c42, c85, c92, if_true, if_false, Bool.false_eq_true]; done) | (unfold dj_pri; rw [if_pos c8, if_pos c19]; simp only [c8, c19, c42, c85, c92, xs_10, if_true, if_false])) dX7_prides_102
              · skip
                refine lv_iload hx hb dX7_prides_95 (lv_at hl 4 rfl) ?_
                refine lv_goto (tgt := 102) hx hb dX7_prides_97 (by decide) ?_
                rw [hQ]
                exact xg_eri S hr hlk (by skip; rw [hk9]; first | (simp only [dj_pri, c8, c19, c42, c85, c92, if_true, if_false, Bool.false_eq_true]; done) | (unfold dj_pri; rw [if_pos c8, if_pos c19]; simp only [c8, c19, c42, c85, c92, xs_10, if_true, if_false])) dX7_prides_102
            · skip
              refine lv_iload_n hx hb dX7_prides_88 rfl (lv_at hl 3 rfl) ?_
              rw [hQ]
              exact xg_eri S hr hlk (by skip; rw [hk9]; first | (simp only [dj_pri, c8, c19, c42, c85, if_true, if_false, Bool.false_eq_true]; done) | (unfold dj_pri; rw [if_pos c8, if_pos c19]; simp only [c8, c19, c42, c85, xs_10, if_true, if_false])) dX7_prides_89
          · skip
            have hk9 : k ≤ 9 := xb_ngt (k := k) (n := 9) (by omega) (by decide) c42
            refine lv_aload_n hx hb dX7_prides_45 rfl (lv_at hl 0 rfl) ?_
            refine xg_get (C := RX7) (T := TX7) (N := 10) S hK hG (fun w h => List.mem_cons_of_mem _ (List.mem_append_left _ (List.mem_append_right _ (h)))) b hO rfl 0 (by decide) k0 (fun _ h9 => h9) rfl dX7_prides_46 ?_
            refine lv_iload_n hx hb dX7_prides_49 rfl (lv_at hl 1 rfl) ?_
            refine lv_iload hx hb dX7_prides_50 (lv_at hl 6 rfl) ?_
            refine xg_ri (va_runV (As := [.int p, .int (nI k)]) (rest := []) S (mX5_fitsSights l D cI cZ bs ad ws (b + 1) T hT p (nI k) ns (by first | assumption | omega) (by first | assumption | omega)) (cwV 2 hts gX7_prides_X5_fitsSights rfl rfl rfl (by decide +kernel) ⟨Nat.le_of_ble_eq_true rfl, Nat.le_of_ble_eq_true rfl⟩) (xg_preV hK hG (b + 1) hT.1 rfl rfl) rfl rfl hl.1 rfl (lv_room (Nat.le_of_ble_eq_true rfl)) dX7_prides_52 ⟨Nat.zero_le _, Nat.zero_le _⟩) (fun r3 hr3 => ?_)
            replace hr3 := hr3.symm; subst hr3
            refine xb_ifeq (tgt := 78) S dX7_prides_55 (by decide) (fun c55 => ?_) (fun c55 => ?_)
            · skip
              obtain ⟨x4, ex4⟩ : ∃ zz : Int32, ((nI k) + 1) = zz := ⟨_, rfl⟩
              refine lv_iinc (v := x4) (lv' := [(6, .int x4), (0, .ref (ad b)), (1, .int p), (2, .int w9), (3, .int ((dj_prk T p ns k).1)), (4, .int ((dj_prk T p ns k).2.1)), (5, .int ((dj_prk T p ns k).2.2))]) hx hb dX7_prides_78 hl (k := 6) rfl (by rw [← ex4]; rfl) (by decide) rfl (fun ls hl => ?_)
              refine lv_goto (tgt := 38) hx hb dX7_prides_81 (by decide) ?_
              exact ih38 (k + 1) (by omega) (by omega) ((dj_prk T p ns k).1) (by subst ex4; simp only [dj_prk, c8, c19, c42, c55, if_true, if_false, Bool.false_eq_true]) ((dj_prk T p ns k).2.1) (by subst ex4; simp only [dj_prk, c8, c19, c42, c55, if_true, if_false, Bool.false_eq_true]) ((dj_prk T p ns k).2.2) (by subst ex4; simp only [dj_prk, c8, c19, c42, c55, if_true, if_false, Bool.false_eq_true]) x4 (by subst ex4; exact nI_1 k) ls (lv_sub hl [1, 2, 3, 4, 5, 6, 0] rfl)
            · skip
              refine lv_iload_n hx hb dX7_prides_58 rfl (lv_at hl 3 rfl) ?_
              have jn69_5 : ∀ v5 : Int32, v5 = ((if ((dj_prk T p ns k).1) = 0 then nI k else (dj_prk T p ns k).2.1) : Int32) → W pg l en ({ frames := 5, cells := 0, slots := 0, locals := 118 } : Room) s m ([.ref (ad b), .int p, .int w9] : List Value).toArray below meth c s.heap [] 0 0 Q (F0 m 69 ls [.int v5]) := by
                intro v5 ev5
                replace ev5 := ev5.symm
                refine lv_istore (lv' := [(4, .int v5), (0, .ref (ad b)), (1, .int p), (2, .int w9), (3, .int ((dj_prk T p ns k).1)), (5, .int ((dj_prk T p ns k).2.2)), (6, .int (nI k))]) hx hb dX7_prides_69 hl (by decide) rfl (fun ls hl => ?_)
                refine lv_iload hx hb dX7_prides_71 (lv_at hl 6 rfl) ?_
                refine lv_istore (lv' := [(5, .int (nI k)), (4, .int v5), (0, .ref (ad b)), (1, .int p), (2, .int w9), (3, .int ((dj_prk T p ns k).1)), (6, .int (nI k))]) hx hb dX7_prides_73 hl (by decide) rfl (fun ls hl => ?_)
                obtain ⟨x6, ex6⟩ : ∃ zz : Int32, (((dj_prk T p ns k).1) + 1) = zz := ⟨_, rfl⟩
                refine lv_iinc (v := x6) (lv' := [(3, .int x6), (5, .int (nI k)), (4, .int v5), (0, .ref (ad b)), (1, .int p), (2, .int w9), (6, .int (nI k))]) hx hb dX7_prides_75 hl (k := 5) rfl (by rw [← ex6]; rfl) (by decide) rfl (fun ls hl => ?_)
                obtain ⟨x7, ex7⟩ : ∃ zz : Int32, ((nI k) + 1) = zz := ⟨_, rfl⟩
                refine lv_iinc (v := x7) (lv' := [(6, .int x7), (3, .int x6), (5, .int (nI k)), (4, .int v5), (0, .ref (ad b)), (1, .int p), (2, .int w9)]) hx hb dX7_prides_78 hl (k := 6) rfl (by rw [← ex7]; rfl) (by decide) rfl (fun ls hl => ?_)
                refine lv_goto (tgt := 38) hx hb dX7_prides_81 (by decide) ?_
                exact ih38 (k + 1) (by omega) (by omega) x6 (by subst ev5 ex6 ex7; simp only [dj_prk, c8, c19, c42, c55, if_true, if_false, Bool.false_eq_true]) v5 (by subst ev5 ex6 ex7; simp only [dj_prk, c8, c19, c42, c55, if_true, if_false, Bool.false_eq_true]) (nI k) (by subst ev5 ex6 ex7; simp only [dj_prk, c8, c19, c42, c55, if_true, if_false, Bool.false_eq_true]) x7 (by subst ev5 ex6 ex7; exact nI_1 k) ls (lv_sub hl [4, 5, 6, 1, 3, 2, 0] rfl)
              refine lv_if_ne (tgt := 67) hx hb dX7_prides_59 (by decide) (fun c59 => ?_) (fun c59 => ?_)
              · skip
                refine lv_iload hx hb dX7_prides_67 (lv_at hl 4 rfl) ?_
                exact jn69_5 _ (by rw [if_neg c59])
              · skip
                refine lv_iload hx hb dX7_prides_62 (lv_at hl 6 rfl) ?_
                refine lv_goto (tgt := 69) hx hb dX7_prides_64 (by decide) ?_
                exact jn69_5 _ (by rw [if_pos c59])
      exact lp38 11 0 (by omega) (by omega) 0 (by skip; rfl) (-6) (by skip; rfl) (-6) (by skip; rfl) 0 (by skip; rfl) ls (lv_sub hl [4, 5, 6, 3, 2, 1, 0] rfl)
    · skip
      refine lv_bipush (v := (-2)) hx hb dX7_prides_22 (by decide) ?_
      rw [hQ]
      exact xg_eri S hr hlk (by skip; simp only [dj_pri, c8, c19, if_true, if_false, Bool.false_eq_true]) dX7_prides_24
  · skip
    refine lv_iconst (v := (-1)) hx hb dX7_prides_11 (by decide) ?_
    rw [hQ]
    exact xg_eri S hr hlk (by skip; simp only [dj_pri, c8, if_true, if_false, Bool.false_eq_true]) dX7_prides_12
set_option maxHeartbeats 4000000 in
set_option maxRecDepth 100000 in
theorem mX7_year (l : Launch) (D : va_G) (cI cZ : ClassId) (bs : Nat) (ad : Nat → Nat) (ws : va_W) (b : Nat) (fk : Int32) (sk : Int32) (hO : ws[b]? = some (ad b, .inr (7, [.ref (ad (b + 1)), .ref (ad (b + 14)), .ref (ad (b + 27)), .int fk, .int sk, .ref (ad (b + 40)), .ref (ad (b + 42)), .ref (ad (b + 58)), .ref (ad (b + 60)), .ref (ad (b + 61))]))) (T : Nat → Nat → Int32) (hT : xv_T cI ad ws (b + 1) T) (dn0 : Int32) (rf0 : Int32) (hu0 : Int32) (hYo : ws[b + 61]? = some (ad (b + 61), .inr (6, [.ref (ad (b + 62)), .int dn0, .int rf0, .int hu0]))) (TY : Nat → Nat → Int32) (hYt : xv_T cI ad ws (b + 62) TY) (s9 : Int32) (n9 : Int32) (w9 : Int32) : Met l yX7_year wsX7_year ({ frames := 6, cells := 0, slots := 0, locals := 142 } : Room) (va_Pc [.ref (ad b), .int s9, .int n9, .int w9] (fun U => xg_W D cI cZ bs ws U)) (va_Qi (fun (r : Int32) (w : va_W) => r = dj_yea T s9 n9 w9 ∧ w[b]? = some (ad b, .inr (7, [.ref (ad (b + 1)), .ref (ad (b + 14)), .ref (ad (b + 27)), .int fk, .int sk, .ref (ad (b + 40)), .ref (ad (b + 42)), .ref (ad (b + 58)), .ref (ad (b + 60)), .ref (ad (b + 61))])) ∧ xv_T cI ad w (b + 1) T ∧ (∃ (dn0 : Int32) (rf0 : Int32) (hu0 : Int32), w[b + 61]? = some (ad (b + 61), .inr (6, [.ref (ad (b + 62)), .int dn0, .int rf0, .int hu0]))) ∧ (∃ (TY : Nat → Nat → Int32), xv_T cI ad w (b + 62) TY) ∧ xv_S ws w (b + 61) 14) (fun w t => xg_W D cI cZ bs w t) (xg_A bs)) 0 0 (xg_A bs) := by
  refine xg_met cX7_year 4 (some .int) RX7 (by decide) rfl rfl (Nat.le_of_ble_eq_true rfl) ?_
  intro pg en s m below meth c ls S hr hlk hnm hB hl
  have hK := hB.1
  have hG := xg_start hB
  obtain ⟨hx, hb, hml, hown, hts⟩ := id S
  have hl : lv_has ls 4 [(0, .ref (ad b)), (1, .int s9), (2, .int n9), (3, .int w9)] := hl
  obtain ⟨Q, hQ⟩ : ∃ Q, Q = MQ below (va_Qi (fun (r : Int32) (w : va_W) => r = dj_yea T s9 n9 w9 ∧ w[b]? = some (ad b, .inr (7, [.ref (ad (b + 1)), .ref (ad (b + 14)), .ref (ad (b + 27)), .int fk, .int sk, .ref (ad (b + 40)), .ref (ad (b + 42)), .ref (ad (b + 58)), .ref (ad (b + 60)), .ref (ad (b + 61))])) ∧ xv_T cI ad w (b + 1) T ∧ (∃ (dn0 : Int32) (rf0 : Int32) (hu0 : Int32), w[b + 61]? = some (ad (b + 61), .inr (6, [.ref (ad (b + 62)), .int dn0, .int rf0, .int hu0]))) ∧ (∃ (TY : Nat → Nat → Int32), xv_T cI ad w (b + 62) TY) ∧ xv_S ws w (b + 61) 14) (fun w t => xg_W D cI cZ bs w t) (xg_A bs)) ([.ref (ad b), .int s9, .int n9, .int w9] : List Value).toArray s 0 0 (xg_A bs) := ⟨_, rfl⟩
  rw [← hQ]
  have k0 := hts (.fieldLink RX7 98 "DareBridge" "RULE_MOST" "[I") (List.mem_of_getElem? (i := 1) rfl)
  have k1 := hts (.fieldLink RX7 60 "DareBridge" "years" "LDareBridge$Year;") (List.mem_of_getElem? (i := 2) rfl)
  have k2 := hts (.fieldLink RX7 10 "DareBridge" "now" "LDareBridge$Town;") (List.mem_of_getElem? (i := 3) rfl)
  have k3 := hts (.fieldLink RX7 260 "DareBridge$Year" "done" "I") (List.mem_of_getElem? (i := 4) rfl)
  have k4 := hts (.fieldLink RX7 261 "DareBridge$Year" "refused" "I") (List.mem_of_getElem? (i := 5) rfl)
  have k5 := hts (.fieldLink RX7 262 "DareBridge$Year" "hurt" "I") (List.mem_of_getElem? (i := 6) rfl)
  refine lv_iload_n hx hb dX7_year_0 rfl (lv_at hl 1 rfl) ?_
  refine lv_iconst (v := 0) hx hb dX7_year_1 (by decide) ?_
  obtain ⟨sr1, hsr1, hZsr1, hXsr1⟩ := hK.2.2.2.2.2
  refine va_gets hx hb hZsr1 hG.2.2 hown k0 (fun _ h9 => h9) dX7_year_2 ?_
  refine lv_bipush (v := 6) hx hb dX7_year_5 (by decide) ?_
  refine xg_ri (va_runS (As := [.ref sr1, .int 6]) (rest := [.int 0, .int s9]) S (mX7_atX l sr1 7 xg_f2 6 (by decide)) (va_cwS 2 hts gX7_year_X7_at rfl rfl rfl (by decide +kernel) ⟨Nat.le_of_ble_eq_true rfl, Nat.le_of_ble_eq_true rfl⟩) (xg_preSX hK hG hsr1 hXsr1) rfl rfl hl.1 rfl (lv_room (Nat.le_of_ble_eq_true rfl)) dX7_year_7 ⟨Nat.zero_le _, Nat.zero_le _⟩) (fun r2 hr2 => ?_)
  replace hr2 := hr2.symm; subst hr2
  refine xg_ri (va_runS (As := [.int s9, .int 0, .int (xb_at 7 xg_f2 6)]) (rest := []) S (mX7_within l D cI cZ bs ad ws s9 0 (xb_at 7 xg_f2 6)) (va_cwS 3 hts gX7_year_X7_within rfl rfl rfl (by decide +kernel) ⟨Nat.le_of_ble_eq_true rfl, Nat.le_of_ble_eq_true rfl⟩) (xg_preS hK hG) rfl rfl hl.1 rfl (lv_room (Nat.le_of_ble_eq_true rfl)) dX7_year_10 ⟨Nat.zero_le _, Nat.zero_le _⟩) (fun r3 hr3 => ?_)
  replace hr3 := hr3.symm; subst hr3
  refine xb_ifeq (tgt := 35) S dX7_year_13 (by decide) (fun c13 => ?_) (fun c13 => ?_)
  · skip
    refine lv_bipush (v := (-2)) hx hb dX7_year_35 (by decide) ?_
    rw [hQ]
    exact xg_emi S hr hlk hK hG ⟨(by skip; first | (simp only [dj_yea, c13, if_true, if_false, Bool.false_eq_true]; done) | (unfold dj_yea; rw [if_pos c13, if_pos c23, if_pos c32]; simp only [c13, xs_10, if_true, if_false])), hO, hT, ⟨_, _, _, hYo⟩, ⟨_, hYt⟩, xv_S.rf⟩ dX7_year_37
  · skip
    refine lv_iload_n hx hb dX7_year_16 rfl (lv_at hl 2 rfl) ?_
    refine lv_iconst (v := 1) hx hb dX7_year_17 (by decide) ?_
    refine lv_bipush (v := 99) hx hb dX7_year_18 (by decide) ?_
    refine xg_ri (va_runS (As := [.int n9, .int 1, .int 99]) (rest := []) S (mX7_within l D cI cZ bs ad ws n9 1 99) (va_cwS 3 hts gX7_year_X7_within rfl rfl rfl (by decide +kernel) ⟨Nat.le_of_ble_eq_true rfl, Nat.le_of_ble_eq_true rfl⟩) (xg_preS hK hG) rfl rfl hl.1 rfl (lv_room (Nat.le_of_ble_eq_true rfl)) dX7_year_20 ⟨Nat.zero_le _, Nat.zero_le _⟩) (fun r4 hr4 => ?_)
    replace hr4 := hr4.symm; subst hr4
    refine xb_ifeq (tgt := 35) S dX7_year_23 (by decide) (fun c23 => ?_) (fun c23 => ?_)
    · skip
      refine lv_bipush (v := (-2)) hx hb dX7_year_35 (by decide) ?_
      rw [hQ]
      exact xg_emi S hr hlk hK hG ⟨(by skip; first | (simp only [dj_yea, c13, c23, if_true, if_false, Bool.false_eq_true]; done) | (unfold dj_yea; rw [if_pos c13, if_pos c23, if_pos c32]; simp only [c13, c23, xs_10, if_true, if_false])), hO, hT, ⟨_, _, _, hYo⟩, ⟨_, hYt⟩, xv_S.rf⟩ dX7_year_37
    · skip
      obtain ⟨hq1, hq2, hq3⟩ := xw_inN (a := 1) (c := 99) c23 (by decide) (by decide)
      refine lv_iload_n hx hb dX7_year_26 rfl (lv_at hl 3 rfl) ?_
      refine lv_iconst (v := 0) hx hb dX7_year_27 (by decide) ?_
      refine lv_iconst (v := 2) hx hb dX7_year_28 (by decide) ?_
      refine xg_ri (va_runS (As := [.int w9, .int 0, .int 2]) (rest := []) S (mX7_within l D cI cZ bs ad ws w9 0 2) (va_cwS 3 hts gX7_year_X7_within rfl rfl rfl (by decide +kernel) ⟨Nat.le_of_ble_eq_true rfl, Nat.le_of_ble_eq_true rfl⟩) (xg_preS hK hG) rfl rfl hl.1 rfl (lv_room (Nat.le_of_ble_eq_true rfl)) dX7_year_29 ⟨Nat.zero_le _, Nat.zero_le _⟩) (fun r5 hr5 => ?_)
      replace hr5 := hr5.symm; subst hr5
      refine xb_ifne (tgt := 38) S dX7_year_32 (by decide) (fun c32 => ?_) (fun c32 => ?_)
      · skip
        refine lv_aload_n hx hb dX7_year_38 rfl (lv_at hl 0 rfl) ?_
        refine xg_get (C := RX7) (T := TX7) (N := 10) S hK hG (fun w h => List.mem_cons_of_mem _ (List.mem_append_left _ (List.mem_append_left _ (List.mem_append_right _ (h))))) b hO rfl 9 (by decide) k1 (fun _ h9 => h9) rfl dX7_year_39 ?_
        refine lv_aload_n hx hb dX7_year_42 rfl (lv_at hl 0 rfl) ?_
        refine xg_get (C := RX7) (T := TX7) (N := 10) S hK hG (fun w h => List.mem_cons_of_mem _ (List.mem_append_left _ (List.mem_append_left _ (List.mem_append_right _ (h))))) b hO rfl 0 (by decide) k2 (fun _ h9 => h9) rfl dX7_year_43 ?_
        refine lv_iload_n hx hb dX7_year_46 rfl (lv_at hl 1 rfl) ?_
        refine lv_iload_n hx hb dX7_year_47 rfl (lv_at hl 2 rfl) ?_
        refine xg_mv (va_runV (As := [.ref (ad (b + 1)), .int s9, .int n9]) (rest := []) S (mX6_pass l D cI cZ bs ad ws (b + 61) (b + 1) dn0 rf0 hu0 hYo TY hYt T hT s9 n9 n9.toNatClampNeg hq1 hq3 (by first | assumption | omega)) (cwV 3 hts gX7_year_X6_pass rfl rfl rfl (by decide +kernel) ⟨Nat.le_of_ble_eq_true rfl, Nat.le_of_ble_eq_true rfl⟩) (xg_preV hK hG (b + 61) hYo rfl rfl) rfl rfl hl.1 rfl (lv_room (Nat.le_of_ble_eq_true rfl)) dX7_year_48 ⟨Nat.zero_le _, Nat.zero_le _⟩) hG (fun w7 H locs hr6 hG => ?_)
        obtain ⟨hvw7_0, hvw7_1, hvw7_2, hsw7⟩ := hr6
        have hYo : w7[b + 61]? = some (ad (b + 61), .inr (6, [.ref (ad (b + 62)), .int ((dy_run T s9 n9.toNatClampNeg).2.2.1), .int ((dy_run T s9 n9.toNatClampNeg).2.2.2.1), .int ((dy_run T s9 n9.toNatClampNeg).2.2.2.2)])) := hvw7_0
        obtain ⟨x8, ex8⟩ : ∃ zz : Int32, ((dy_run T s9 n9.toNatClampNeg).2.2.1) = zz := ⟨_, rfl⟩
        rw [ex8] at hYo
        obtain ⟨x9, ex9⟩ : ∃ zz : Int32, ((dy_run T s9 n9.toNatClampNeg).2.2.2.1) = zz := ⟨_, rfl⟩
        rw [ex9] at hYo
        obtain ⟨x10, ex10⟩ : ∃ zz : Int32, ((dy_run T s9 n9.toNatClampNeg).2.2.2.2) = zz := ⟨_, rfl⟩
        rw [ex10] at hYo
        have hYt : xv_T cI ad w7 (b + 62) ((dy_run T s9 n9.toNatClampNeg).2.1) := hvw7_1
        obtain ⟨T11, eT11⟩ : ∃ zz : Nat → Nat → Int32, ((dy_run T s9 n9.toNatClampNeg).2.1) = zz := ⟨_, rfl⟩
        rw [eT11] at hYt
        have hT : xv_T cI ad w7 (b + 1) T := hvw7_2
        have hO : w7[b]? = some (ad b, .inr (7, [.ref (ad (b + 1)), .ref (ad (b + 14)), .ref (ad (b + 27)), .int fk, .int sk, .ref (ad (b + 40)), .ref (ad (b + 42)), .ref (ad (b + 58)), .ref (ad (b + 60)), .ref (ad (b + 61))])) := hsw7.at hO (by omega)
        have hSw7 : xv_S ws w7 (b + 61) 14 := hsw7.mono (by omega) (by omega)
        refine lv_iload_n hx hb dX7_year_51 rfl (lv_at hl 3 rfl) ?_
        by_cases sw12_0 : w9 = 0
        · skip
          refine lv_lookup (off := 28) (tgt := 80) hx hb dX7_year_52 (by decide) (by rw [sw12_0]; rfl) (by decide) ?_
          refine lv_aload_n hx hb dX7_year_80 rfl (lv_at hl 0 rfl) ?_
          refine xg_get (C := RX7) (T := TX7) (N := 10) S hK hG (fun w h => List.mem_cons_of_mem _ (List.mem_append_left _ (List.mem_append_left _ (List.mem_append_right _ (h))))) b hO rfl 9 (by decide) k1 (fun _ h9 => h9) rfl dX7_year_81 ?_
          refine xg_get (C := RX6) (T := TX6) (N := 4) S hK hG (fun w h => List.mem_cons_of_mem _ (List.mem_append_left _ (List.mem_append_right _ (h)))) (b + 61) hYo rfl 1 (by decide) k3 (fun _ h9 => h9) rfl dX7_year_84 ?_
          rw [hQ]
          exact xg_emi S hr hlk hK hG ⟨(by subst ex8 ex9 ex10 eT11; first | (simp only [dj_yea, c13, c23, c32, sw12_0, if_true, if_false, Bool.false_eq_true]; done) | (unfold dj_yea; rw [if_pos c13, if_pos c23, if_pos c32]; simp only [c13, c23, c32, sw12_0, xs_10, if_true, if_false])), hO, hT, ⟨_, _, _, hYo⟩, ⟨_, hYt⟩, hSw7⟩ dX7_year_87
        · skip
          by_cases sw12_1 : w9 = 1
          · skip
            refine lv_lookup (off := 36) (tgt := 88) hx hb dX7_year_52 (by decide) (by rw [sw12_1]; rfl) (by decide) ?_
            refine lv_aload_n hx hb dX7_year_88 rfl (lv_at hl 0 rfl) ?_
            refine xg_get (C := RX7) (T := TX7) (N := 10) S hK hG (fun w h => List.mem_cons_of_mem _ (List.mem_append_left _ (List.mem_append_left _ (List.mem_append_right _ (h))))) b hO rfl 9 (by decide) k1 (fun _ h9 => h9) rfl dX7_year_89 ?_
            refine xg_get (C := RX6) (T := TX6) (N := 4) S hK hG (fun w h => List.mem_cons_of_mem _ (List.mem_append_left _ (List.mem_append_right _ (h)))) (b + 61) hYo rfl 2 (by decide) k4 (fun _ h9 => h9) rfl dX7_year_92 ?_
            rw [hQ]
            exact xg_emi S hr hlk hK hG ⟨(by subst ex8 ex9 ex10 eT11; first | (simp only [dj_yea, c13, c23, c32, sw12_0, sw12_1, if_true, if_false, Bool.false_eq_true]; done) | (unfold dj_yea; rw [if_pos c13, if_pos c23, if_pos c32]; simp only [c13, c23, c32, sw12_0, sw12_1, xs_10, if_true, if_false])), hO, hT, ⟨_, _, _, hYo⟩, ⟨_, hYt⟩, hSw7⟩ dX7_year_95
          · skip
            have tsw12_0 : ¬ ((0 : Int) = (w9 : Int32).toInt) := fun q => sw12_0 (Int32.toInt_inj.mp (by rw [← q]; rfl))
            have tsw12_1 : ¬ ((1 : Int) = (w9 : Int32).toInt) := fun q => sw12_1 (Int32.toInt_inj.mp (by rw [← q]; rfl))
            refine lv_lookup (off := 44) (tgt := 96) hx hb dX7_year_52 (by decide) (by simp [Op.lookupswitch.offset, tsw12_0, tsw12_1]) (by decide) ?_
            refine lv_aload_n hx hb dX7_year_96 rfl (lv_at hl 0 rfl) ?_
            refine xg_get (C := RX7) (T := TX7) (N := 10) S hK hG (fun w h => List.mem_cons_of_mem _ (List.mem_append_left _ (List.mem_append_left _ (List.mem_append_right _ (h))))) b hO rfl 9 (by decide) k1 (fun _ h9 => h9) rfl dX7_year_97 ?_
            refine xg_get (C := RX6) (T := TX6) (N := 4) S hK hG (fun w h => List.mem_cons_of_mem _ (List.mem_append_left _ (List.mem_append_right _ (h)))) (b + 61) hYo rfl 3 (by decide) k5 (fun _ h9 => h9) rfl dX7_year_100 ?_
            rw [hQ]
            exact xg_emi S hr hlk hK hG ⟨(by subst ex8 ex9 ex10 eT11; first | (simp only [dj_yea, c13, c23, c32, sw12_0, sw12_1, if_true, if_false, Bool.false_eq_true]; done) | (unfold dj_yea; rw [if_pos c13, if_pos c23, if_pos c32]; simp only [c13, c23, c32, sw12_0, sw12_1, xs_10, if_true, if_false])), hO, hT, ⟨_, _, _, hYo⟩, ⟨_, hYt⟩, hSw7⟩ dX7_year_103
      · skip
        refine lv_bipush (v := (-2)) hx hb dX7_year_35 (by decide) ?_
        rw [hQ]
        exact xg_emi S hr hlk hK hG ⟨(by skip; first | (simp only [dj_yea, c13, c23, c32, if_true, if_false, Bool.false_eq_true]; done) | (unfold dj_yea; rw [if_pos c13, if_pos c23, if_pos c32]; simp only [c13, c23, c32, xs_10, if_true, if_false])), hO, hT, ⟨_, _, _, hYo⟩, ⟨_, hYt⟩, xv_S.rf⟩ dX7_year_37
set_option maxHeartbeats 4000000 in
set_option maxRecDepth 100000 in
theorem mX7_image (l : Launch) (D : va_G) (cI cZ : ClassId) (bs : Nat) (ad : Nat → Nat) (ws : va_W) (b : Nat) (fk : Int32) (sk : Int32) (hO : ws[b]? = some (ad b, .inr (7, [.ref (ad (b + 1)), .ref (ad (b + 14)), .ref (ad (b + 27)), .int fk, .int sk, .ref (ad (b + 40)), .ref (ad (b + 42)), .ref (ad (b + 58)), .ref (ad (b + 60)), .ref (ad (b + 61))]))) (T : Nat → Nat → Int32) (hT : xv_T cI ad ws (b + 1) T) (TF : Nat → Nat → Int32) (hF : xv_T cI ad ws (b + 14) TF) (TS : Nat → Nat → Int32) (hSd : xv_T cI ad ws (b + 27) TS) (x : Int32) : Met l yX7_image wsX7_image ({ frames := 3, cells := 0, slots := 0, locals := 65 } : Room) (va_Pc [.ref (ad b), .int x] (fun U => xg_W D cI cZ bs ws U)) (va_Qi (fun (r : Int32) (w : va_W) => r = (if xw_in x 0 1 = true then 1 else -2) ∧ w[b]? = some (ad b, .inr (7, [.ref (ad (b + 1)), .ref (ad (b + 14)), .ref (ad (b + 27)), .int (dj_imF x fk), .int (dj_imS x sk), .ref (ad (b + 40)), .ref (ad (b + 42)), .ref (ad (b + 58)), .ref (ad (b + 60)), .ref (ad (b + 61))])) ∧ xv_T cI ad w (b + 1) T ∧ xv_T cI ad w (b + 14) (dj_imT T TF x 0) ∧ xv_T cI ad w (b + 27) (dj_imT T TS x 1) ∧ xv_S ws w b 40) (fun w t => xg_W D cI cZ bs w t) (xg_A bs)) 0 0 (xg_A bs) := by
  refine xg_met cX7_image 2 (some .int) RX7 (by decide) rfl rfl (Nat.le_of_ble_eq_true rfl) ?_
  intro pg en s m below meth c ls S hr hlk hnm hB hl
  have hK := hB.1
  have hG := xg_start hB
  obtain ⟨hx, hb, hml, hown, hts⟩ := id S
  have hl : lv_has ls 2 [(0, .ref (ad b)), (1, .int x)] := hl
  obtain ⟨Q, hQ⟩ : ∃ Q, Q = MQ below (va_Qi (fun (r : Int32) (w : va_W) => r = (if xw_in x 0 1 = true then 1 else -2) ∧ w[b]? = some (ad b, .inr (7, [.ref (ad (b + 1)), .ref (ad (b + 14)), .ref (ad (b + 27)), .int (dj_imF x fk), .int (dj_imS x sk), .ref (ad (b + 40)), .ref (ad (b + 42)), .ref (ad (b + 58)), .ref (ad (b + 60)), .ref (ad (b + 61))])) ∧ xv_T cI ad w (b + 1) T ∧ xv_T cI ad w (b + 14) (dj_imT T TF x 0) ∧ xv_T cI ad w (b + 27) (dj_imT T TS x 1) ∧ xv_S ws w b 40) (fun w t => xg_W D cI cZ bs w t) (xg_A bs)) ([.ref (ad b), .int x] : List Value).toArray s 0 0 (xg_A bs) := ⟨_, rfl⟩
  rw [← hQ]
  have k0 := hts (.fieldLink RX7 19 "DareBridge" "secondImage" "LDareBridge$Town;") (List.mem_of_getElem? (i := 4) rfl)
  have k1 := hts (.fieldLink RX7 10 "DareBridge" "now" "LDareBridge$Town;") (List.mem_of_getElem? (i := 2) rfl)
  have k2 := hts (.fieldLink RX7 26 "DareBridge" "secondKept" "Z") (List.mem_of_getElem? (i := 5) rfl)
  have k3 := hts (.fieldLink RX7 16 "DareBridge" "firstImage" "LDareBridge$Town;") (List.mem_of_getElem? (i := 1) rfl)
  have k4 := hts (.fieldLink RX7 22 "DareBridge" "firstKept" "Z") (List.mem_of_getElem? (i := 3) rfl)
  refine lv_iload_n hx hb dX7_image_0 rfl (lv_at hl 1 rfl) ?_
  refine lv_iconst (v := 0) hx hb dX7_image_1 (by decide) ?_
  refine lv_iconst (v := 1) hx hb dX7_image_2 (by decide) ?_
  refine xg_ri (va_runS (As := [.int x, .int 0, .int 1]) (rest := []) S (mX7_within l D cI cZ bs ad ws x 0 1) (va_cwS 3 hts gX7_image_X7_within rfl rfl rfl (by decide +kernel) ⟨Nat.le_of_ble_eq_true rfl, Nat.le_of_ble_eq_true rfl⟩) (xg_preS hK hG) rfl rfl hl.1 rfl (lv_room (Nat.le_of_ble_eq_true rfl)) dX7_image_3 ⟨Nat.zero_le _, Nat.zero_le _⟩) (fun r1 hr1 => ?_)
  replace hr1 := hr1.symm; subst hr1
  refine xb_ifne (tgt := 12) S dX7_image_6 (by decide) (fun c6 => ?_) (fun c6 => ?_)
  · skip
    refine lv_iload_n hx hb dX7_image_12 rfl (lv_at hl 1 rfl) ?_
    refine lv_if_ne (tgt := 35) hx hb dX7_image_13 (by decide) (fun c13 => ?_) (fun c13 => ?_)
    · skip
      refine lv_aload_n hx hb dX7_image_35 rfl (lv_at hl 0 rfl) ?_
      refine xg_get (C := RX7) (T := TX7) (N := 10) S hK hG (fun w h => List.mem_cons_of_mem _ (List.mem_append_left _ (List.mem_append_right _ (h)))) b hO rfl 2 (by decide) k0 (fun _ h9 => h9) rfl dX7_image_36 ?_
      refine lv_aload_n hx hb dX7_image_39 rfl (lv_at hl 0 rfl) ?_
      refine xg_get (C := RX7) (T := TX7) (N := 10) S hK hG (fun w h => List.mem_cons_of_mem _ (List.mem_append_left _ (List.mem_append_right _ (h)))) b hO rfl 0 (by decide) k1 (fun _ h9 => h9) rfl dX7_image_40 ?_
      refine xg_mv (va_runV (As := [.ref (ad (b + 1))]) (rest := []) S (mX5_copyFrom l D cI cZ bs ad ws (b + 27) (b + 1) TS hSd T hT (by omega)) (cwV 1 hts gX7_image_X5_copyFrom rfl rfl rfl (by decide +kernel) ⟨Nat.le_of_ble_eq_true rfl, Nat.le_of_ble_eq_true rfl⟩) (xg_preV hK hG (b + 27) hSd.1 rfl rfl) rfl rfl hl.1 rfl (lv_room (Nat.le_of_ble_eq_true rfl)) dX7_image_43 ⟨Nat.zero_le _, Nat.zero_le _⟩) hG (fun w3 H locs hr2 hG => ?_)
      obtain ⟨hvw3_0, hvw3_1, hsw3⟩ := hr2
      have hSd : xv_T cI ad w3 (b + 27) T := hvw3_0
      have hT : xv_T cI ad w3 (b + 1) T := hvw3_1
      have hO : w3[b]? = some (ad b, .inr (7, [.ref (ad (b + 1)), .ref (ad (b + 14)), .ref (ad (b + 27)), .int fk, .int sk, .ref (ad (b + 40)), .ref (ad (b + 42)), .ref (ad (b + 58)), .ref (ad (b + 60)), .ref (ad (b + 61))])) := hsw3.at hO (by omega)
      have hF : xv_T cI ad w3 (b + 14) TF := hF.of_S hsw3 (by omega)
      have hSw3 : xv_S ws w3 b 40 := hsw3.mono (by omega) (by omega)
      refine lv_aload_n hx hb dX7_image_46 rfl (lv_at hl 0 rfl) ?_
      refine lv_iconst (v := 1) hx hb dX7_image_47 (by decide) ?_
      refine xg_put2 (C := RX7) (T := TX7) (N := 10) (v := .int 1) (ty := .boolean) S hK hG (fun w h => List.mem_cons_of_mem _ (List.mem_append_left _ (List.mem_append_right _ (h)))) tyX7 tyX7_ok nmX7 b hO rfl 4 (by decide) k2 (fun _ h9 => h9) rfl (by decide +kernel) rfl rfl (Nat.le_of_ble_eq_true rfl) dX7_image_48 (fun w4 H locs hw4 hG => ?_)
      have hs5 : xv_S w3 w4 b 1 := by rw [hw4]; exact xv_S.set (by omega) (by omega)
      have hO : w4[b]? = some (ad b, .inr (7, [.ref (ad (b + 1)), .ref (ad (b + 14)), .ref (ad (b + 27)), .int fk, .int 1, .ref (ad (b + 40)), .ref (ad (b + 42)), .ref (ad (b + 58)), .ref (ad (b + 60)), .ref (ad (b + 61))])) := by rw [hw4]; exact xv_self hO
      have hT : xv_T cI ad w4 (b + 1) T := hT.of_S hs5 (by omega)
      have hF : xv_T cI ad w4 (b + 14) TF := hF.of_S hs5 (by omega)
      have hSd : xv_T cI ad w4 (b + 27) T := hSd.of_S hs5 (by omega)
      have hSw4 : xv_S ws w4 b 40 := hSw3.trans (hs5.mono (by omega) (by omega))
      refine lv_iconst (v := 1) hx hb dX7_image_51 (by decide) ?_
      rw [hQ]
      exact xg_emi S hr hlk hK hG ⟨(by skip; first | exact (if_pos c6).symm | simp only [c6, c13, if_true, if_false, Bool.false_eq_true]), (by rw [show (dj_imF x fk) = fk from (by skip; first | (simp only [dj_imF, dj_imS, c6, c13, if_true, if_false, Bool.false_eq_true]; done) | (simp only [dj_imT, c6, c13, if_false, Bool.false_eq_true]; done) | (unfold dj_imT; rw [if_pos c6]; simp [c6, c13]) | (simp only [dj_imF, dj_imS]; rw [if_pos c6]; simp [c6, c13]))]; rw [show (dj_imS x sk) = 1 from (by skip; first | (simp only [dj_imF, dj_imS, c6, c13, if_true, if_false, Bool.false_eq_true]; done) | (simp only [dj_imT, c6, c13, if_false, Bool.false_eq_true]; done) | (unfold dj_imT; rw [if_pos c6]; simp [c6, c13]) | (simp only [dj_imF, dj_imS]; rw [if_pos c6]; simp [c6, c13]))]; exact hO), hT, (by rw [show (dj_imT T TF x 0) = TF from (by skip; first | (simp only [dj_imF, dj_imS, c6, c13, if_true, if_false, Bool.false_eq_true]; done) | (simp only [dj_imT, c6, c13, if_false, Bool.false_eq_true]; done) | (unfold dj_imT; rw [if_pos c6]; simp [c6, c13]) | (simp only [dj_imF, dj_imS]; rw [if_pos c6]; simp [c6, c13]))]; exact hF), (by rw [show (dj_imT T TS x 1) = T from (by skip; first | (simp only [dj_imF, dj_imS, c6, c13, if_true, if_false, Bool.false_eq_true]; done) | (simp only [dj_imT, c6, c13, if_false, Bool.false_eq_true]; done) | (unfold dj_imT; rw [if_pos c6]; simp [c6, c13]) | (simp only [dj_imF, dj_imS]; rw [if_pos c6]; simp [c6, c13]))]; exact hSd), hSw4⟩ dX7_image_52
    · skip
      refine lv_aload_n hx hb dX7_image_16 rfl (lv_at hl 0 rfl) ?_
      refine xg_get (C := RX7) (T := TX7) (N := 10) S hK hG (fun w h => List.mem_cons_of_mem _ (List.mem_append_left _ (List.mem_append_right _ (h)))) b hO rfl 1 (by decide) k3 (fun _ h9 => h9) rfl dX7_image_17 ?_
      refine lv_aload_n hx hb dX7_image_20 rfl (lv_at hl 0 rfl) ?_
      refine xg_get (C := RX7) (T := TX7) (N := 10) S hK hG (fun w h => List.mem_cons_of_mem _ (List.mem_append_left _ (List.mem_append_right _ (h)))) b hO rfl 0 (by decide) k1 (fun _ h9 => h9) rfl dX7_image_21 ?_
      refine xg_mv (va_runV (As := [.ref (ad (b + 1))]) (rest := []) S (mX5_copyFrom l D cI cZ bs ad ws (b + 14) (b + 1) TF hF T hT (by omega)) (cwV 1 hts gX7_image_X5_copyFrom rfl rfl rfl (by decide +kernel) ⟨Nat.le_of_ble_eq_true rfl, Nat.le_of_ble_eq_true rfl⟩) (xg_preV hK hG (b + 14) hF.1 rfl rfl) rfl rfl hl.1 rfl (lv_room (Nat.le_of_ble_eq_true rfl)) dX7_image_24 ⟨Nat.zero_le _, Nat.zero_le _⟩) hG (fun w7 H locs hr6 hG => ?_)
      obtain ⟨hvw7_0, hvw7_1, hsw7⟩ := hr6
      have hF : xv_T cI ad w7 (b + 14) T := hvw7_0
      have hT : xv_T cI ad w7 (b + 1) T := hvw7_1
      have hO : w7[b]? = some (ad b, .inr (7, [.ref (ad (b + 1)), .ref (ad (b + 14)), .ref (ad (b + 27)), .int fk, .int sk, .ref (ad (b + 40)), .ref (ad (b + 42)), .ref (ad (b + 58)), .ref (ad (b + 60)), .ref (ad (b + 61))])) := hsw7.at hO (by omega)
      have hSd : xv_T cI ad w7 (b + 27) TS := hSd.of_S hsw7 (by omega)
      have hSw7 : xv_S ws w7 b 40 := hsw7.mono (by omega) (by omega)
      refine lv_aload_n hx hb dX7_image_27 rfl (lv_at hl 0 rfl) ?_
      refine lv_iconst (v := 1) hx hb dX7_image_28 (by decide) ?_
      refine xg_put2 (C := RX7) (T := TX7) (N := 10) (v := .int 1) (ty := .boolean) S hK hG (fun w h => List.mem_cons_of_mem _ (List.mem_append_left _ (List.mem_append_right _ (h)))) tyX7 tyX7_ok nmX7 b hO rfl 3 (by decide) k4 (fun _ h9 => h9) rfl (by decide +kernel) rfl rfl (Nat.le_of_ble_eq_true rfl) dX7_image_29 (fun w8 H locs hw8 hG => ?_)
      have hs9 : xv_S w7 w8 b 1 := by rw [hw8]; exact xv_S.set (by omega) (by omega)
      have hO : w8[b]? = some (ad b, .inr (7, [.ref (ad (b + 1)), .ref (ad (b + 14)), .ref (ad (b + 27)), .int 1, .int sk, .ref (ad (b + 40)), .ref (ad (b + 42)), .ref (ad (b + 58)), .ref (ad (b + 60)), .ref (ad (b + 61))])) := by rw [hw8]; exact xv_self hO
      have hT : xv_T cI ad w8 (b + 1) T := hT.of_S hs9 (by omega)
      have hF : xv_T cI ad w8 (b + 14) T := hF.of_S hs9 (by omega)
      have hSd : xv_T cI ad w8 (b + 27) TS := hSd.of_S hs9 (by omega)
      have hSw8 : xv_S ws w8 b 40 := hSw7.trans (hs9.mono (by omega) (by omega))
      refine lv_goto (tgt := 51) hx hb dX7_image_32 (by decide) ?_
      refine lv_iconst (v := 1) hx hb dX7_image_51 (by decide) ?_
      rw [hQ]
      exact xg_emi S hr hlk hK hG ⟨(by skip; first | exact (if_pos c6).symm | simp only [c6, c13, if_true, if_false, Bool.false_eq_true]), (by rw [show (dj_imF x fk) = 1 from (by skip; first | (simp only [dj_imF, dj_imS, c6, c13, if_true, if_false, Bool.false_eq_true]; done) | (simp only [dj_imT, c6, c13, if_false, Bool.false_eq_true]; done) | (unfold dj_imT; rw [if_pos c6]; simp [c6, c13]) | (simp only [dj_imF, dj_imS]; rw [if_pos c6]; simp [c6, c13]))]; rw [show (dj_imS x sk) = sk from (by skip; first | (simp only [dj_imF, dj_imS, c6, c13, if_true, if_false, Bool.false_eq_true]; done) | (simp only [dj_imT, c6, c13, if_false, Bool.false_eq_true]; done) | (unfold dj_imT; rw [if_pos c6]; simp [c6, c13]) | (simp only [dj_imF, dj_imS]; rw [if_pos c6]; simp [c6, c13]))]; exact hO), hT, (by rw [show (dj_imT T TF x 0) = T from (by skip; first | (simp only [dj_imF, dj_imS, c6, c13, if_true, if_false, Bool.false_eq_true]; done) | (simp only [dj_imT, c6, c13, if_false, Bool.false_eq_true]; done) | (unfold dj_imT; rw [if_pos c6]; simp [c6, c13]) | (simp only [dj_imF, dj_imS]; rw [if_pos c6]; simp [c6, c13]))]; exact hF), (by rw [show (dj_imT T TS x 1) = TS from (by skip; first | (simp only [dj_imF, dj_imS, c6, c13, if_true, if_false, Bool.false_eq_true]; done) | (simp only [dj_imT, c6, c13, if_false, Bool.false_eq_true]; done) | (unfold dj_imT; rw [if_pos c6]; simp [c6, c13]) | (simp only [dj_imF, dj_imS]; rw [if_pos c6]; simp [c6, c13]))]; exact hSd), hSw8⟩ dX7_image_52
  · skip
    refine lv_bipush (v := (-2)) hx hb dX7_image_9 (by decide) ?_
    rw [hQ]
    exact xg_emi S hr hlk hK hG ⟨(by skip; first | exact (if_pos c6).symm | simp only [c6, if_true, if_false, Bool.false_eq_true]), (by rw [show (dj_imF x fk) = fk from (by skip; first | (simp only [dj_imF, dj_imS, c6, if_true, if_false, Bool.false_eq_true]; done) | (simp only [dj_imT, c6, if_false, Bool.false_eq_true]; done) | (unfold dj_imT; rw [if_pos c6]; simp [c6]) | (simp only [dj_imF, dj_imS]; rw [if_pos c6]; simp [c6]))]; rw [show (dj_imS x sk) = sk from (by skip; first | (simp only [dj_imF, dj_imS, c6, if_true, if_false, Bool.false_eq_true]; done) | (simp only [dj_imT, c6, if_false, Bool.false_eq_true]; done) | (unfold dj_imT; rw [if_pos c6]; simp [c6]) | (simp only [dj_imF, dj_imS]; rw [if_pos c6]; simp [c6]))]; exact hO), hT, (by rw [show (dj_imT T TF x 0) = TF from (by skip; first | (simp only [dj_imF, dj_imS, c6, if_true, if_false, Bool.false_eq_true]; done) | (simp only [dj_imT, c6, if_false, Bool.false_eq_true]; done) | (unfold dj_imT; rw [if_pos c6]; simp [c6]) | (simp only [dj_imF, dj_imS]; rw [if_pos c6]; simp [c6]))]; exact hF), (by rw [show (dj_imT T TS x 1) = TS from (by skip; first | (simp only [dj_imF, dj_imS, c6, if_true, if_false, Bool.false_eq_true]; done) | (simp only [dj_imT, c6, if_false, Bool.false_eq_true]; done) | (unfold dj_imT; rw [if_pos c6]; simp [c6]) | (simp only [dj_imF, dj_imS]; rw [if_pos c6]; simp [c6]))]; exact hSd), xv_S.rf⟩ dX7_image_11
set_option maxHeartbeats 4000000 in
set_option maxRecDepth 100000 in
theorem mX7_restore (l : Launch) (D : va_G) (cI cZ : ClassId) (bs : Nat) (ad : Nat → Nat) (ws : va_W) (b : Nat) (fk : Int32) (sk : Int32) (hO : ws[b]? = some (ad b, .inr (7, [.ref (ad (b + 1)), .ref (ad (b + 14)), .ref (ad (b + 27)), .int fk, .int sk, .ref (ad (b + 40)), .ref (ad (b + 42)), .ref (ad (b + 58)), .ref (ad (b + 60)), .ref (ad (b + 61))]))) (T : Nat → Nat → Int32) (hT : xv_T cI ad ws (b + 1) T) (TF : Nat → Nat → Int32) (hF : xv_T cI ad ws (b + 14) TF) (TS : Nat → Nat → Int32) (hSd : xv_T cI ad ws (b + 27) TS) (x : Int32) : Met l yX7_restore wsX7_restore ({ frames := 3, cells := 0, slots := 0, locals := 65 } : Room) (va_Pc [.ref (ad b), .int x] (fun U => xg_W D cI cZ bs ws U)) (va_Qi (fun (r : Int32) (w : va_W) => r = dj_rsR x fk sk ∧ w[b]? = some (ad b, .inr (7, [.ref (ad (b + 1)), .ref (ad (b + 14)), .ref (ad (b + 27)), .int fk, .int sk, .ref (ad (b + 40)), .ref (ad (b + 42)), .ref (ad (b + 58)), .ref (ad (b + 60)), .ref (ad (b + 61))])) ∧ xv_T cI ad w (b + 1) (dj_rsT T TF TS x fk sk) ∧ xv_T cI ad w (b + 14) TF ∧ xv_T cI ad w (b + 27) TS ∧ xv_S ws w (b + 1) 13) (fun w t => xg_W D cI cZ bs w t) (xg_A bs)) 0 0 (xg_A bs) := by
  refine xg_met cX7_restore 2 (some .int) RX7 (by decide) rfl rfl (Nat.le_of_ble_eq_true rfl) ?_
  intro pg en s m below meth c ls S hr hlk hnm hB hl
  have hK := hB.1
  have hG := xg_start hB
  obtain ⟨hx, hb, hml, hown, hts⟩ := id S
  have hl : lv_has ls 2 [(0, .ref (ad b)), (1, .int x)] := hl
  obtain ⟨Q, hQ⟩ : ∃ Q, Q = MQ below (va_Qi (fun (r : Int32) (w : va_W) => r = dj_rsR x fk sk ∧ w[b]? = some (ad b, .inr (7, [.ref (ad (b + 1)), .ref (ad (b + 14)), .ref (ad (b + 27)), .int fk, .int sk, .ref (ad (b + 40)), .ref (ad (b + 42)), .ref (ad (b + 58)), .ref (ad (b + 60)), .ref (ad (b + 61))])) ∧ xv_T cI ad w (b + 1) (dj_rsT T TF TS x fk sk) ∧ xv_T cI ad w (b + 14) TF ∧ xv_T cI ad w (b + 27) TS ∧ xv_S ws w (b + 1) 13) (fun w t => xg_W D cI cZ bs w t) (xg_A bs)) ([.ref (ad b), .int x] : List Value).toArray s 0 0 (xg_A bs) := ⟨_, rfl⟩
  rw [← hQ]
  have k0 := hts (.fieldLink RX7 26 "DareBridge" "secondKept" "Z") (List.mem_of_getElem? (i := 2) rfl)
  have k1 := hts (.fieldLink RX7 10 "DareBridge" "now" "LDareBridge$Town;") (List.mem_of_getElem? (i := 3) rfl)
  have k2 := hts (.fieldLink RX7 19 "DareBridge" "secondImage" "LDareBridge$Town;") (List.mem_of_getElem? (i := 5) rfl)
  have k3 := hts (.fieldLink RX7 16 "DareBridge" "firstImage" "LDareBridge$Town;") (List.mem_of_getElem? (i := 4) rfl)
  have k4 := hts (.fieldLink RX7 22 "DareBridge" "firstKept" "Z") (List.mem_of_getElem? (i := 1) rfl)
  refine lv_iload_n hx hb dX7_restore_0 rfl (lv_at hl 1 rfl) ?_
  refine lv_iconst (v := 0) hx hb dX7_restore_1 (by decide) ?_
  refine lv_iconst (v := 1) hx hb dX7_restore_2 (by decide) ?_
  refine xg_ri (va_runS (As := [.int x, .int 0, .int 1]) (rest := []) S (mX7_within l D cI cZ bs ad ws x 0 1) (va_cwS 3 hts gX7_restore_X7_within rfl rfl rfl (by decide +kernel) ⟨Nat.le_of_ble_eq_true rfl, Nat.le_of_ble_eq_true rfl⟩) (xg_preS hK hG) rfl rfl hl.1 rfl (lv_room (Nat.le_of_ble_eq_true rfl)) dX7_restore_3 ⟨Nat.zero_le _, Nat.zero_le _⟩) (fun r1 hr1 => ?_)
  replace hr1 := hr1.symm; subst hr1
  refine xb_ifne (tgt := 12) S dX7_restore_6 (by decide) (fun c6 => ?_) (fun c6 => ?_)
  · skip
    refine lv_iload_n hx hb dX7_restore_12 rfl (lv_at hl 1 rfl) ?_
    refine lv_if_ne (tgt := 26) hx hb dX7_restore_13 (by decide) (fun c13 => ?_) (fun c13 => ?_)
    · skip
      refine lv_aload_n hx hb dX7_restore_26 rfl (lv_at hl 0 rfl) ?_
      refine xg_get (C := RX7) (T := TX7) (N := 10) S hK hG (fun w h => List.mem_cons_of_mem _ (List.mem_append_left _ (List.mem_append_right _ (h)))) b hO rfl 4 (by decide) k0 (fun _ h9 => h9) rfl dX7_restore_27 ?_
      refine lv_if_ne (tgt := 36) hx hb dX7_restore_30 (by decide) (fun c30 => ?_) (fun c30 => ?_)
      · skip
        refine lv_aload_n hx hb dX7_restore_36 rfl (lv_at hl 0 rfl) ?_
        refine xg_get (C := RX7) (T := TX7) (N := 10) S hK hG (fun w h => List.mem_cons_of_mem _ (List.mem_append_left _ (List.mem_append_right _ (h)))) b hO rfl 0 (by decide) k1 (fun _ h9 => h9) rfl dX7_restore_37 ?_
        refine lv_iload_n hx hb dX7_restore_40 rfl (lv_at hl 1 rfl) ?_
        refine lv_if_ne (tgt := 51) hx hb dX7_restore_41 (by decide) (fun c41 => ?_) (fun c41 => ?_)
        · skip
          refine lv_aload_n hx hb dX7_restore_51 rfl (lv_at hl 0 rfl) ?_
          refine xg_get (C := RX7) (T := TX7) (N := 10) S hK hG (fun w h => List.mem_cons_of_mem _ (List.mem_append_left _ (List.mem_append_right _ (h)))) b hO rfl 2 (by decide) k2 (fun _ h9 => h9) rfl dX7_restore_52 ?_
          refine xg_mv (va_runV (As := [.ref (ad (b + 27))]) (rest := []) S (mX5_copyFrom l D cI cZ bs ad ws (b + 1) (b + 27) T hT TS hSd (by omega)) (cwV 1 hts gX7_restore_X5_copyFrom rfl rfl rfl (by decide +kernel) ⟨Nat.le_of_ble_eq_true rfl, Nat.le_of_ble_eq_true rfl⟩) (xg_preV hK hG (b + 1) hT.1 rfl rfl) rfl rfl hl.1 rfl (lv_room (Nat.le_of_ble_eq_true rfl)) dX7_restore_55 ⟨Nat.zero_le _, Nat.zero_le _⟩) hG (fun w3 H locs hr2 hG => ?_)
          obtain ⟨hvw3_0, hvw3_1, hsw3⟩ := hr2
          have hT : xv_T cI ad w3 (b + 1) TS := hvw3_0
          have hSd : xv_T cI ad w3 (b + 27) TS := hvw3_1
          have hO : w3[b]? = some (ad b, .inr (7, [.ref (ad (b + 1)), .ref (ad (b + 14)), .ref (ad (b + 27)), .int fk, .int sk, .ref (ad (b + 40)), .ref (ad (b + 42)), .ref (ad (b + 58)), .ref (ad (b + 60)), .ref (ad (b + 61))])) := hsw3.at hO (by omega)
          have hF : xv_T cI ad w3 (b + 14) TF := hF.of_S hsw3 (by omega)
          have hSw3 : xv_S ws w3 (b + 1) 13 := hsw3.mono (by omega) (by omega)
          refine lv_iconst (v := 1) hx hb dX7_restore_58 (by decide) ?_
          rw [hQ]
          exact xg_emi S hr hlk hK hG ⟨(by skip; first | exact absurd c41 c13 | exact absurd c13 c41 | (simp only [dj_rsR, c6, c13, c30, c41, if_false, Bool.false_eq_true]; done) | (unfold dj_rsR; rw [if_pos c6]; simp [c6, c13, c30, c41])), hO, (by rw [show (dj_rsT T TF TS x fk sk) = TS from (by skip; first | exact absurd c41 c13 | exact absurd c13 c41 | (simp only [dj_rsT, c6, c13, c30, c41, if_false, Bool.false_eq_true]; done) | (unfold dj_rsT; rw [if_pos c6]; simp [c6, c13, c30, c41]))]; exact hT), hF, hSd, hSw3⟩ dX7_restore_59
        · skip
          refine lv_aload_n hx hb dX7_restore_44 rfl (lv_at hl 0 rfl) ?_
          refine xg_get (C := RX7) (T := TX7) (N := 10) S hK hG (fun w h => List.mem_cons_of_mem _ (List.mem_append_left _ (List.mem_append_right _ (h)))) b hO rfl 1 (by decide) k3 (fun _ h9 => h9) rfl dX7_restore_45 ?_
          refine lv_goto (tgt := 55) hx hb dX7_restore_48 (by decide) ?_
          refine xg_mv (va_runV (As := [.ref (ad (b + 14))]) (rest := []) S (mX5_copyFrom l D cI cZ bs ad ws (b + 1) (b + 14) T hT TF hF (by omega)) (cwV 1 hts gX7_restore_X5_copyFrom rfl rfl rfl (by decide +kernel) ⟨Nat.le_of_ble_eq_true rfl, Nat.le_of_ble_eq_true rfl⟩) (xg_preV hK hG (b + 1) hT.1 rfl rfl) rfl rfl hl.1 rfl (lv_room (Nat.le_of_ble_eq_true rfl)) dX7_restore_55 ⟨Nat.zero_le _, Nat.zero_le _⟩) hG (fun w5 H locs hr4 hG => ?_)
          obtain ⟨hvw5_0, hvw5_1, hsw5⟩ := hr4
          have hT : xv_T cI ad w5 (b + 1) TF := hvw5_0
          have hF : xv_T cI ad w5 (b + 14) TF := hvw5_1
          have hO : w5[b]? = some (ad b, .inr (7, [.ref (ad (b + 1)), .ref (ad (b + 14)), .ref (ad (b + 27)), .int fk, .int sk, .ref (ad (b + 40)), .ref (ad (b + 42)), .ref (ad (b + 58)), .ref (ad (b + 60)), .ref (ad (b + 61))])) := hsw5.at hO (by omega)
          have hSd : xv_T cI ad w5 (b + 27) TS := hSd.of_S hsw5 (by omega)
          have hSw5 : xv_S ws w5 (b + 1) 13 := hsw5.mono (by omega) (by omega)
          refine lv_iconst (v := 1) hx hb dX7_restore_58 (by decide) ?_
          rw [hQ]
          exact xg_emi S hr hlk hK hG ⟨(by skip; first | exact absurd c41 c13 | exact absurd c13 c41 | (simp only [dj_rsR, c6, c13, c30, c41, if_false, Bool.false_eq_true]; done) | (unfold dj_rsR; rw [if_pos c6]; simp [c6, c13, c30, c41])), hO, (by rw [show (dj_rsT T TF TS x fk sk) = TF from (by skip; first | exact absurd c41 c13 | exact absurd c13 c41 | (simp only [dj_rsT, c6, c13, c30, c41, if_false, Bool.false_eq_true]; done) | (unfold dj_rsT; rw [if_pos c6]; simp [c6, c13, c30, c41]))]; exact hT), hF, hSd, hSw5⟩ dX7_restore_59
      · skip
        refine lv_bipush (v := (-3)) hx hb dX7_restore_33 (by decide) ?_
        rw [hQ]
        exact xg_emi S hr hlk hK hG ⟨(by skip; first | exact absurd c41 c13 | exact absurd c13 c41 | (simp only [dj_rsR, c6, c13, c30, if_false, Bool.false_eq_true]; done) | (unfold dj_rsR; rw [if_pos c6]; simp [c6, c13, c30])), hO, (by rw [show (dj_rsT T TF TS x fk sk) = T from (by skip; first | exact absurd c41 c13 | exact absurd c13 c41 | (simp only [dj_rsT, c6, c13, c30, if_false, Bool.false_eq_true]; done) | (unfold dj_rsT; rw [if_pos c6]; simp [c6, c13, c30]))]; exact hT), hF, hSd, xv_S.rf⟩ dX7_restore_35
    · skip
      refine lv_aload_n hx hb dX7_restore_16 rfl (lv_at hl 0 rfl) ?_
      refine xg_get (C := RX7) (T := TX7) (N := 10) S hK hG (fun w h => List.mem_cons_of_mem _ (List.mem_append_left _ (List.mem_append_right _ (h)))) b hO rfl 3 (by decide) k4 (fun _ h9 => h9) rfl dX7_restore_17 ?_
      refine lv_if_ne (tgt := 36) hx hb dX7_restore_20 (by decide) (fun c20 => ?_) (fun c20 => ?_)
      · skip
        refine lv_aload_n hx hb dX7_restore_36 rfl (lv_at hl 0 rfl) ?_
        refine xg_get (C := RX7) (T := TX7) (N := 10) S hK hG (fun w h => List.mem_cons_of_mem _ (List.mem_append_left _ (List.mem_append_right _ (h)))) b hO rfl 0 (by decide) k1 (fun _ h9 => h9) rfl dX7_restore_37 ?_
        refine lv_iload_n hx hb dX7_restore_40 rfl (lv_at hl 1 rfl) ?_
        refine lv_if_ne (tgt := 51) hx hb dX7_restore_41 (by decide) (fun c41 => ?_) (fun c41 => ?_)
        · skip
          refine lv_aload_n hx hb dX7_restore_51 rfl (lv_at hl 0 rfl) ?_
          refine xg_get (C := RX7) (T := TX7) (N := 10) S hK hG (fun w h => List.mem_cons_of_mem _ (List.mem_append_left _ (List.mem_append_right _ (h)))) b hO rfl 2 (by decide) k2 (fun _ h9 => h9) rfl dX7_restore_52 ?_
          refine xg_mv (va_runV (As := [.ref (ad (b + 27))]) (rest := []) S (mX5_copyFrom l D cI cZ bs ad ws (b + 1) (b + 27) T hT TS hSd (by omega)) (cwV 1 hts gX7_restore_X5_copyFrom rfl rfl rfl (by decide +kernel) ⟨Nat.le_of_ble_eq_true rfl, Nat.le_of_ble_eq_true rfl⟩) (xg_preV hK hG (b + 1) hT.1 rfl rfl) rfl rfl hl.1 rfl (lv_room (Nat.le_of_ble_eq_true rfl)) dX7_restore_55 ⟨Nat.zero_le _, Nat.zero_le _⟩) hG (fun w7 H locs hr6 hG => ?_)
          obtain ⟨hvw7_0, hvw7_1, hsw7⟩ := hr6
          have hT : xv_T cI ad w7 (b + 1) TS := hvw7_0
          have hSd : xv_T cI ad w7 (b + 27) TS := hvw7_1
          have hO : w7[b]? = some (ad b, .inr (7, [.ref (ad (b + 1)), .ref (ad (b + 14)), .ref (ad (b + 27)), .int fk, .int sk, .ref (ad (b + 40)), .ref (ad (b + 42)), .ref (ad (b + 58)), .ref (ad (b + 60)), .ref (ad (b + 61))])) := hsw7.at hO (by omega)
          have hF : xv_T cI ad w7 (b + 14) TF := hF.of_S hsw7 (by omega)
          have hSw7 : xv_S ws w7 (b + 1) 13 := hsw7.mono (by omega) (by omega)
          refine lv_iconst (v := 1) hx hb dX7_restore_58 (by decide) ?_
          rw [hQ]
          exact xg_emi S hr hlk hK hG ⟨(by skip; first | exact absurd c41 c13 | exact absurd c13 c41 | (simp only [dj_rsR, c6, c13, c20, c41, if_false, Bool.false_eq_true]; done) | (unfold dj_rsR; rw [if_pos c6]; simp [c6, c13, c20, c41])), hO, (by rw [show (dj_rsT T TF TS x fk sk) = TS from (by skip; first | exact absurd c41 c13 | exact absurd c13 c41 | (simp only [dj_rsT, c6, c13, c20, c41, if_false, Bool.false_eq_true]; done) | (unfold dj_rsT; rw [if_pos c6]; simp [c6, c13, c20, c41]))]; exact hT), hF, hSd, hSw7⟩ dX7_restore_59
        · skip
          refine lv_aload_n hx hb dX7_restore_44 rfl (lv_at hl 0 rfl) ?_
          refine xg_get (C := RX7) (T := TX7) (N := 10) S hK hG (fun w h => List.mem_cons_of_mem _ (List.mem_append_left _ (List.mem_append_right _ (h)))) b hO rfl 1 (by decide) k3 (fun _ h9 => h9) rfl dX7_restore_45 ?_
          refine lv_goto (tgt := 55) hx hb dX7_restore_48 (by decide) ?_
          refine xg_mv (va_runV (As := [.ref (ad (b + 14))]) (rest := []) S (mX5_copyFrom l D cI cZ bs ad ws (b + 1) (b + 14) T hT TF hF (by omega)) (cwV 1 hts gX7_restore_X5_copyFrom rfl rfl rfl (by decide +kernel) ⟨Nat.le_of_ble_eq_true rfl, Nat.le_of_ble_eq_true rfl⟩) (xg_preV hK hG (b + 1) hT.1 rfl rfl) rfl rfl hl.1 rfl (lv_room (Nat.le_of_ble_eq_true rfl)) dX7_restore_55 ⟨Nat.zero_le _, Nat.zero_le _⟩) hG (fun w9 H locs hr8 hG => ?_)
          obtain ⟨hvw9_0, hvw9_1, hsw9⟩ := hr8
          have hT : xv_T cI ad w9 (b + 1) TF := hvw9_0
          have hF : xv_T cI ad w9 (b + 14) TF := hvw9_1
          have hO : w9[b]? = some (ad b, .inr (7, [.ref (ad (b + 1)), .ref (ad (b + 14)), .ref (ad (b + 27)), .int fk, .int sk, .ref (ad (b + 40)), .ref (ad (b + 42)), .ref (ad (b + 58)), .ref (ad (b + 60)), .ref (ad (b + 61))])) := hsw9.at hO (by omega)
          have hSd : xv_T cI ad w9 (b + 27) TS := hSd.of_S hsw9 (by omega)
          have hSw9 : xv_S ws w9 (b + 1) 13 := hsw9.mono (by omega) (by omega)
          refine lv_iconst (v := 1) hx hb dX7_restore_58 (by decide) ?_
          rw [hQ]
          exact xg_emi S hr hlk hK hG ⟨(by skip; first | exact absurd c41 c13 | exact absurd c13 c41 | (simp only [dj_rsR, c6, c13, c20, c41, if_false, Bool.false_eq_true]; done) | (unfold dj_rsR; rw [if_pos c6]; simp [c6, c13, c20, c41])), hO, (by rw [show (dj_rsT T TF TS x fk sk) = TF from (by skip; first | exact absurd c41 c13 | exact absurd c13 c41 | (simp only [dj_rsT, c6, c13, c20, c41, if_false, Bool.false_eq_true]; done) | (unfold dj_rsT; rw [if_pos c6]; simp [c6, c13, c20, c41]))]; exact hT), hF, hSd, hSw9⟩ dX7_restore_59
      · skip
        refine lv_goto (tgt := 33) hx hb dX7_restore_23 (by decide) ?_
        refine lv_bipush (v := (-3)) hx hb dX7_restore_33 (by decide) ?_
        rw [hQ]
        exact xg_emi S hr hlk hK hG ⟨(by skip; first | exact absurd c41 c13 | exact absurd c13 c41 | (simp only [dj_rsR, c6, c13, c20, if_false, Bool.false_eq_true]; done) | (unfold dj_rsR; rw [if_pos c6]; simp [c6, c13, c20])), hO, (by rw [show (dj_rsT T TF TS x fk sk) = T from (by skip; first | exact absurd c41 c13 | exact absurd c13 c41 | (simp only [dj_rsT, c6, c13, c20, if_false, Bool.false_eq_true]; done) | (unfold dj_rsT; rw [if_pos c6]; simp [c6, c13, c20]))]; exact hT), hF, hSd, xv_S.rf⟩ dX7_restore_35
  · skip
    refine lv_bipush (v := (-2)) hx hb dX7_restore_9 (by decide) ?_
    rw [hQ]
    exact xg_emi S hr hlk hK hG ⟨(by skip; first | exact absurd c41 c13 | exact absurd c13 c41 | (simp only [dj_rsR, c6, if_false, Bool.false_eq_true]; done) | (unfold dj_rsR; rw [if_pos c6]; simp [c6])), hO, (by rw [show (dj_rsT T TF TS x fk sk) = T from (by skip; first | exact absurd c41 c13 | exact absurd c13 c41 | (simp only [dj_rsT, c6, if_false, Bool.false_eq_true]; done) | (unfold dj_rsT; rw [if_pos c6]; simp [c6]))]; exact hT), hF, hSd, xv_S.rf⟩ dX7_restore_11
set_option maxHeartbeats 4000000 in
set_option maxRecDepth 100000 in
theorem mX7_told (l : Launch) (D : va_G) (cI cZ : ClassId) (bs : Nat) (ad : Nat → Nat) (ws : va_W) (b : Nat) (fk : Int32) (sk : Int32) (hO : ws[b]? = some (ad b, .inr (7, [.ref (ad (b + 1)), .ref (ad (b + 14)), .ref (ad (b + 27)), .int fk, .int sk, .ref (ad (b + 40)), .ref (ad (b + 42)), .ref (ad (b + 58)), .ref (ad (b + 60)), .ref (ad (b + 61))]))) (T : Nat → Nat → Int32) (hT : xv_T cI ad ws (b + 1) T) (n : Int32) (hPo : ws[b + 40]? = some (ad (b + 40), .inr (3, [.ref (ad (b + 41)), .int n]))) (x : Int32) : Met l yX7_told wsX7_told ({ frames := 3, cells := 0, slots := 0, locals := 64 } : Room) (va_Pc [.ref (ad b), .int x] (fun U => xg_W D cI cZ bs ws U)) (xg_Ri (fun r : Int32 => r = dj_tol T n x)) 0 0 xg_F := by
  refine xg_met cX7_told 2 (some .int) RX7 (by decide) rfl rfl (Nat.le_of_ble_eq_true rfl) ?_
  intro pg en s m below meth c ls S hr hlk hnm hB hl
  have hK := hB.1
  have hG := xg_start hB
  obtain ⟨hx, hb, hml, hown, hts⟩ := id S
  have hl : lv_has ls 2 [(0, .ref (ad b)), (1, .int x)] := hl
  obtain ⟨Q, hQ⟩ : ∃ Q, Q = MQ below (xg_Ri (fun r : Int32 => r = dj_tol T n x)) ([.ref (ad b), .int x] : List Value).toArray s 0 0 xg_F := ⟨_, rfl⟩
  rw [← hQ]
  have k0 := hts (.fieldLink RX7 10 "DareBridge" "now" "LDareBridge$Town;") (List.mem_of_getElem? (i := 3) rfl)
  have k1 := hts (.fieldLink RX7 250 "DareBridge$Town" "sights" "I") (List.mem_of_getElem? (i := 4) rfl)
  have k2 := hts (.fieldLink RX7 32 "DareBridge" "pad" "LDareBridge$Pad;") (List.mem_of_getElem? (i := 1) rfl)
  have k3 := hts (.fieldLink RX7 114 "DareBridge$Pad" "count" "I") (List.mem_of_getElem? (i := 2) rfl)
  refine lv_iload_n hx hb dX7_told_0 rfl (lv_at hl 1 rfl) ?_
  refine lv_if_ne (tgt := 12) hx hb dX7_told_1 (by decide) (fun c1 => ?_) (fun c1 => ?_)
  · skip
    refine lv_iload_n hx hb dX7_told_12 rfl (lv_at hl 1 rfl) ?_
    refine lv_iconst (v := 1) hx hb dX7_told_13 (by decide) ?_
    refine lv_icmp_ne (tgt := 25) hx hb dX7_told_14 (by decide) (fun c14 => ?_) (fun c14 => ?_)
    · skip
      refine lv_iload_n hx hb dX7_told_25 rfl (lv_at hl 1 rfl) ?_
      refine lv_iconst (v := 2) hx hb dX7_told_26 (by decide) ?_
      refine lv_bipush (v := 8) hx hb dX7_told_27 (by decide) ?_
      refine xg_ri (va_runS (As := [.int x, .int 2, .int 8]) (rest := []) S (mX7_within l D cI cZ bs ad ws x 2 8) (va_cwS 3 hts gX7_told_X7_within rfl rfl rfl (by decide +kernel) ⟨Nat.le_of_ble_eq_true rfl, Nat.le_of_ble_eq_true rfl⟩) (xg_preS hK hG) rfl rfl hl.1 rfl (lv_room (Nat.le_of_ble_eq_true rfl)) dX7_told_29 ⟨Nat.zero_le _, Nat.zero_le _⟩) (fun r1 hr1 => ?_)
      replace hr1 := hr1.symm; subst hr1
      refine xb_ifeq (tgt := 46) S dX7_told_32 (by decide) (fun c32 => ?_) (fun c32 => ?_)
      · skip
        refine lv_iload_n hx hb dX7_told_46 rfl (lv_at hl 1 rfl) ?_
        refine lv_bipush (v := 9) hx hb dX7_told_47 (by decide) ?_
        refine lv_icmp_ne (tgt := 60) hx hb dX7_told_49 (by decide) (fun c49 => ?_) (fun c49 => ?_)
        · skip
          refine lv_iload_n hx hb dX7_told_60 rfl (lv_at hl 1 rfl) ?_
          refine lv_bipush (v := 10) hx hb dX7_told_61 (by decide) ?_
          refine lv_icmp_ge (tgt := 71) hx hb dX7_told_63 (by decide) (fun c63 => ?_) (fun c63 => ?_)
          · skip
            refine lv_aload_n hx hb dX7_told_71 rfl (lv_at hl 0 rfl) ?_
            refine lv_iload_n hx hb dX7_told_72 rfl (lv_at hl 1 rfl) ?_
            refine lv_bipush (v := 10) hx hb dX7_told_73 (by decide) ?_
            refine lv_idiv hx hb dX7_told_75 (by decide) ?_
            refine lv_iconst (v := 1) hx hb dX7_told_76 (by decide) ?_
            refine lv_isub hx hb dX7_told_77 ?_
            refine lv_iload_n hx hb dX7_told_78 rfl (lv_at hl 1 rfl) ?_
            refine lv_bipush (v := 10) hx hb dX7_told_79 (by decide) ?_
            refine lv_irem hx hb dX7_told_81 (by decide) ?_
            refine xg_ri (va_runV (As := [.int ((x / 10) - 1), .int (x - x / 10 * 10)]) (rest := []) S (mX7_trait l D cI cZ bs ad ws b fk sk hO T hT ((x / 10) - 1) (x - x / 10 * 10)) (cwV 2 hts gX7_told_X7_trait rfl rfl rfl (by decide +kernel) ⟨Nat.le_of_ble_eq_true rfl, Nat.le_of_ble_eq_true rfl⟩) (xg_preV hK hG b hO rfl rfl) rfl rfl hl.1 rfl (lv_room (Nat.le_of_ble_eq_true rfl)) dX7_told_82 ⟨Nat.zero_le _, Nat.zero_le _⟩) (fun r2 hr2 => ?_)
            replace hr2 := hr2.symm; subst hr2
            rw [hQ]
            exact xg_eri S hr hlk (by skip; first | (simp [dj_tol, xw_rem, c1, c14, c32, c49, c63]; done) | (unfold dj_tol; rw [if_neg c1, if_neg c14, if_neg (by rw [c32]; decide), if_pos c49])) dX7_told_85
          · skip
            refine lv_bipush (v := (-2)) hx hb dX7_told_66 (by decide) ?_
            refine lv_goto (tgt := 85) hx hb dX7_told_68 (by decide) ?_
            rw [hQ]
            exact xg_eri S hr hlk (by skip; first | (simp [dj_tol, xw_rem, c1, c14, c32, c49, c63]; done) | (unfold dj_tol; rw [if_neg c1, if_neg c14, if_neg (by rw [c32]; decide), if_pos c49])) dX7_told_85
        · skip
          refine lv_aload_n hx hb dX7_told_52 rfl (lv_at hl 0 rfl) ?_
          refine xg_get (C := RX7) (T := TX7) (N := 10) S hK hG (fun w h => List.mem_cons_of_mem _ (List.mem_append_left _ (List.mem_append_left _ (List.mem_append_right _ (h))))) b hO rfl 0 (by decide) k0 (fun _ h9 => h9) rfl dX7_told_53 ?_
          refine xg_get (C := RX5) (T := TX5) (N := 13) S hK hG (fun w h => List.mem_cons_of_mem _ (List.mem_append_right _ (h))) (b + 1) hT.1 rfl 12 (by decide) k1 (fun _ h9 => h9) rfl dX7_told_56 ?_
          rw [hQ]
          exact xg_eri S hr hlk (by skip; first | (simp [dj_tol, xw_rem, c1, c14, c32, c49]; done) | (unfold dj_tol; rw [if_neg c1, if_neg c14, if_neg (by rw [c32]; decide), if_pos c49])) dX7_told_59
      · skip
        refine lv_aload_n hx hb dX7_told_35 rfl (lv_at hl 0 rfl) ?_
        refine xg_get (C := RX7) (T := TX7) (N := 10) S hK hG (fun w h => List.mem_cons_of_mem _ (List.mem_append_left _ (List.mem_append_left _ (List.mem_append_right _ (h))))) b hO rfl 0 (by decide) k0 (fun _ h9 => h9) rfl dX7_told_36 ?_
        refine lv_iload_n hx hb dX7_told_39 rfl (lv_at hl 1 rfl) ?_
        refine lv_iconst (v := 2) hx hb dX7_told_40 (by decide) ?_
        refine lv_isub hx hb dX7_told_41 ?_
        refine xg_ri (va_runV (As := [.int (x - 2)]) (rest := []) S (mX5_rule l D cI cZ bs ad ws (b + 1) T hT (x - 2)) (cwV 1 hts gX7_told_X5_rule rfl rfl rfl (by decide +kernel) ⟨Nat.le_of_ble_eq_true rfl, Nat.le_of_ble_eq_true rfl⟩) (xg_preV hK hG (b + 1) hT.1 rfl rfl) rfl rfl hl.1 rfl (lv_room (Nat.le_of_ble_eq_true rfl)) dX7_told_42 ⟨Nat.zero_le _, Nat.zero_le _⟩) (fun r3 hr3 => ?_)
        replace hr3 := hr3.symm; subst hr3
        rw [hQ]
        exact xg_eri S hr hlk (by skip; first | (simp [dj_tol, xw_rem, c1, c14, c32]; done) | (unfold dj_tol; rw [if_neg c1, if_neg c14, if_neg (by rw [c32]; decide), if_pos c49])) dX7_told_45
    · skip
      refine lv_aload_n hx hb dX7_told_17 rfl (lv_at hl 0 rfl) ?_
      refine xg_get (C := RX7) (T := TX7) (N := 10) S hK hG (fun w h => List.mem_cons_of_mem _ (List.mem_append_left _ (List.mem_append_left _ (List.mem_append_right _ (h))))) b hO rfl 0 (by decide) k0 (fun _ h9 => h9) rfl dX7_told_18 ?_
      refine xg_ri (va_runV (As := []) (rest := []) S (mX5_bits l D cI cZ bs ad ws (b + 1) T hT) (cwV 0 hts gX7_told_X5_bits rfl rfl rfl (by decide +kernel) ⟨Nat.le_of_ble_eq_true rfl, Nat.le_of_ble_eq_true rfl⟩) (xg_preV hK hG (b + 1) hT.1 rfl rfl) rfl rfl hl.1 rfl (lv_room (Nat.le_of_ble_eq_true rfl)) dX7_told_21 ⟨Nat.zero_le _, Nat.zero_le _⟩) (fun r4 hr4 => ?_)
      replace hr4 := hr4.symm; subst hr4
      rw [hQ]
      exact xg_eri S hr hlk (by skip; first | (simp [dj_tol, xw_rem, c1, c14]; done) | (unfold dj_tol; rw [if_neg c1, if_neg c14, if_neg (by rw [c32]; decide), if_pos c49])) dX7_told_24
  · skip
    refine lv_aload_n hx hb dX7_told_4 rfl (lv_at hl 0 rfl) ?_
    refine xg_get (C := RX7) (T := TX7) (N := 10) S hK hG (fun w h => List.mem_cons_of_mem _ (List.mem_append_left _ (List.mem_append_left _ (List.mem_append_right _ (h))))) b hO rfl 5 (by decide) k2 (fun _ h9 => h9) rfl dX7_told_5 ?_
    refine xg_get (C := RX3) (T := TX3) (N := 2) S hK hG (fun w h => List.mem_cons_of_mem _ (List.mem_append_left _ (List.mem_append_right _ (h)))) (b + 40) hPo rfl 1 (by decide) k3 (fun _ h9 => h9) rfl dX7_told_8 ?_
    rw [hQ]
    exact xg_eri S hr hlk (by skip; first | (simp [dj_tol, xw_rem, c1]; done) | (unfold dj_tol; rw [if_neg c1, if_neg c14, if_neg (by rw [c32]; decide), if_pos c49])) dX7_told_11
