set_option maxHeartbeats 4000000 in
set_option maxRecDepth 100000 in
theorem mX4_reckon (l : Launch) (D : va_G) (cI cZ : ClassId) (bs : Nat) (ad : Nat → Nat) (ws : va_W) (b : Nat) (ev : Int32) (wh : Int32) (dn : Int32) (rf : Int32) (db : Int32) (he : Int32) (hO : ws[b]? = some (ad b, .inr (4, [.ref (ad (b + 1)), .ref (ad (b + 14)), .ref (ad (b + 15)), .int ev, .int wh, .int dn, .int rf, .int db, .int he]))) (T : Nat → Nat → Int32) (hT : xv_T cI ad ws (b + 1) T) (f : Nat → Int32) (hR : ws[b + 14]? = some (ad (b + 14), .inl (cI, 36, .inl f))) (u : Int64) (v : Int64) (hCh : ws[b + 15]? = some (ad (b + 15), .inr (0, [.long u, .long v]))) (p : Int32) (y : Int32) : Met l yX4_reckon wsX4_reckon ({ frames := 2, cells := 0, slots := 0, locals := 47 } : Room) (va_Pc [.ref (ad b), .int p, .int y] (fun U => xg_W D cI cZ bs ws U)) (va_Qv (fun w : va_W => w[b]? = some (ad b, .inr (4, [.ref (ad (b + 1)), .ref (ad (b + 14)), .ref (ad (b + 15)), .int ev, .int wh, .int dn, .int rf, .int db, .int ((ds_rek T p y (he, u, v)).1)])) ∧ xv_T cI ad w (b + 1) T ∧ w[b + 14]? = some (ad (b + 14), .inl (cI, 36, .inl f)) ∧ w[b + 15]? = some (ad (b + 15), .inr (0, [.long ((ds_rek T p y (he, u, v)).2.1), .long ((ds_rek T p y (he, u, v)).2.2)])) ∧ xv_S ws w b 16) (fun w t => xg_W D cI cZ bs w t) (xg_A bs)) 0 0 (xg_A bs) := by
  refine xg_met cX4_reckon 3 none RX4 (by decide) rfl rfl (Nat.le_of_ble_eq_true rfl) ?_
  intro pg en s m below meth c ls S hr hlk hnm hB hl
  have hK := hB.1
  have hG := xg_start hB
  obtain ⟨hx, hb, hml, hown, hts⟩ := id S
  have hl : lv_has ls 3 [(0, .ref (ad b)), (1, .int p), (2, .int y)] := hl
  obtain ⟨Q, hQ⟩ : ∃ Q, Q = MQ below (va_Qv (fun w : va_W => w[b]? = some (ad b, .inr (4, [.ref (ad (b + 1)), .ref (ad (b + 14)), .ref (ad (b + 15)), .int ev, .int wh, .int dn, .int rf, .int db, .int ((ds_rek T p y (he, u, v)).1)])) ∧ xv_T cI ad w (b + 1) T ∧ w[b + 14]? = some (ad (b + 14), .inl (cI, 36, .inl f)) ∧ w[b + 15]? = some (ad (b + 15), .inr (0, [.long ((ds_rek T p y (he, u, v)).2.1), .long ((ds_rek T p y (he, u, v)).2.2)])) ∧ xv_S ws w b 16) (fun w t => xg_W D cI cZ bs w t) (xg_A bs)) ([.ref (ad b), .int p, .int y] : List Value).toArray s 0 0 (xg_A bs) := ⟨_, rfl⟩
  rw [← hQ]
  have k0 := hts (.fieldLink RX4 77 "DareBridge$Summer" "heights" "I") (List.mem_of_getElem? (i := 1) rfl)
  have k1 := hts (.fieldLink RX4 25 "DareBridge$Summer" "luck" "LDareBridge$Chance;") (List.mem_of_getElem? (i := 2) rfl)
  have k2 := hts (.fieldLink RX4 12 "DareBridge$Summer" "after" "LDareBridge$Town;") (List.mem_of_getElem? (i := 3) rfl)
  refine lv_aload_n hx hb dX4_reckon_0 rfl (lv_at hl 0 rfl) ?_
  refine lv_dup hx hb dX4_reckon_1 rfl ?_
  refine xg_get (C := RX4) (T := TX4) (N := 9) S hK hG (fun w h => List.mem_cons_of_mem _ (List.mem_append_left _ (List.mem_append_left _ (List.mem_append_right _ (h))))) b hO rfl 8 (by decide) k0 (fun _ h9 => h9) rfl dX4_reckon_2 ?_
  refine lv_iconst (v := 1) hx hb dX4_reckon_5 (by decide) ?_
  refine lv_iadd hx hb dX4_reckon_6 ?_
  refine xg_put2 (C := RX4) (T := TX4) (N := 9) (v := .int (he + 1)) (ty := .int) S hK hG (fun w h => List.mem_cons_of_mem _ (List.mem_append_left _ (List.mem_append_left _ (List.mem_append_right _ (h))))) tyX4 tyX4_ok nmX4 b hO rfl 8 (by decide) k0 (fun _ h9 => h9) rfl (by decide +kernel) rfl rfl (Nat.le_of_ble_eq_true rfl) dX4_reckon_7 (fun w1 H locs hw1 hG => ?_)
  have hs2 : xv_S ws w1 b 1 := by rw [hw1]; exact xv_S.set (by omega) (by omega)
  obtain ⟨x3, ex3⟩ : ∃ zz : Int32, he + 1 = zz := ⟨_, rfl⟩
  have hO : w1[b]? = some (ad b, .inr (4, [.ref (ad (b + 1)), .ref (ad (b + 14)), .ref (ad (b + 15)), .int ev, .int wh, .int dn, .int rf, .int db, .int x3])) := by rw [hw1, ← ex3]; exact xv_self hO
  have hT : xv_T cI ad w1 (b + 1) T := hT.of_S hs2 (by omega)
  have hR : w1[b + 14]? = some (ad (b + 14), .inl (cI, 36, .inl f)) := hs2.at hR (by omega)
  have hCh : w1[b + 15]? = some (ad (b + 15), .inr (0, [.long u, .long v])) := hs2.at hCh (by omega)
  have hSw1 : xv_S ws w1 b 16 := hs2.mono (by omega) (by omega)
  refine lv_aload_n hx hb dX4_reckon_10 rfl (lv_at hl 0 rfl) ?_
  refine xg_get (C := RX4) (T := TX4) (N := 9) S hK hG (fun w h => List.mem_cons_of_mem _ (List.mem_append_left _ (List.mem_append_left _ (List.mem_append_right _ (h))))) b hO rfl 8 (by decide) k0 (fun _ h9 => h9) rfl dX4_reckon_11 ?_
  refine lv_bipush (v := 15) hx hb dX4_reckon_14 (by decide) ?_
  refine lv_icmp_gt (tgt := 35) hx hb dX4_reckon_16 (by decide) (fun c16 => ?_) (fun c16 => ?_)
  · skip
    rw [hQ]
    exact xg_emv S hr hlk hK hG ⟨(by rw [show ((ds_rek T p y (he, u, v)).1) = x3 from (by subst ex3; simp only [ds_rek, c16, if_true, if_false])]; exact hO), hT, hR, (by rw [show ((ds_rek T p y (he, u, v)).2.1) = u from (by subst ex3; simp only [ds_rek, c16, if_true, if_false])]; rw [show ((ds_rek T p y (he, u, v)).2.2) = v from (by subst ex3; simp only [ds_rek, c16, if_true, if_false])]; exact hCh), hSw1⟩ dX4_reckon_35
  · skip
    refine lv_aload_n hx hb dX4_reckon_19 rfl (lv_at hl 0 rfl) ?_
    refine xg_get (C := RX4) (T := TX4) (N := 9) S hK hG (fun w h => List.mem_cons_of_mem _ (List.mem_append_left _ (List.mem_append_left _ (List.mem_append_right _ (h))))) b hO rfl 2 (by decide) k1 (fun _ h9 => h9) rfl dX4_reckon_20 ?_
    refine lv_aload_n hx hb dX4_reckon_23 rfl (lv_at hl 0 rfl) ?_
    refine xg_get (C := RX4) (T := TX4) (N := 9) S hK hG (fun w h => List.mem_cons_of_mem _ (List.mem_append_left _ (List.mem_append_left _ (List.mem_append_right _ (h))))) b hO rfl 0 (by decide) k2 (fun _ h9 => h9) rfl dX4_reckon_24 ?_
    refine lv_iload_n hx hb dX4_reckon_27 rfl (lv_at hl 1 rfl) ?_
    refine lv_iload_n hx hb dX4_reckon_28 rfl (lv_at hl 2 rfl) ?_
    refine xg_ri (va_runV (As := [.int p, .int y]) (rest := [.ref (ad (b + 15))]) S (mX5_oddsOf l D cI cZ bs ad w1 (b + 1) T hT p y) (cwV 2 hts gX4_reckon_X5_oddsOf rfl rfl rfl (by decide +kernel) ⟨Nat.le_of_ble_eq_true rfl, Nat.le_of_ble_eq_true rfl⟩) (xg_preV hK hG (b + 1) hT.1 rfl rfl) rfl rfl hl.1 rfl (lv_room (Nat.le_of_ble_eq_true rfl)) dX4_reckon_29 ⟨Nat.zero_le _, Nat.zero_le _⟩) (fun r4 hr4 => ?_)
    replace hr4 := hr4.symm; subst hr4
    refine xg_mv (va_runV (As := [.int (dt_odd T p y)]) (rest := []) S (mX0_goesWell l D cI cZ bs ad w1 (b + 15) u v hCh (dt_odd T p y)) (cwV 1 hts gX4_reckon_X0_goesWell rfl rfl rfl (by decide +kernel) ⟨Nat.le_of_ble_eq_true rfl, Nat.le_of_ble_eq_true rfl⟩) (xg_preV hK hG (b + 15) hCh rfl rfl) rfl rfl hl.1 rfl (lv_room (Nat.le_of_ble_eq_true rfl)) dX4_reckon_32 ⟨Nat.zero_le _, Nat.zero_le _⟩) hG (fun w6 H locs hr5 hG => ?_)
    obtain ⟨hvw6_0, hsw6⟩ := hr5
    have hCh : w6[b + 15]? = some (ad (b + 15), .inr (0, [.long (u * (10 - (dt_odd T p y)).toInt64), .long (v * 10)])) := hvw6_0
    obtain ⟨x7, ex7⟩ : ∃ zz : Int64, u * (10 - (dt_odd T p y)).toInt64 = zz := ⟨_, rfl⟩
    rw [ex7] at hCh
    obtain ⟨x8, ex8⟩ : ∃ zz : Int64, v * 10 = zz := ⟨_, rfl⟩
    rw [ex8] at hCh
    have hO : w6[b]? = some (ad b, .inr (4, [.ref (ad (b + 1)), .ref (ad (b + 14)), .ref (ad (b + 15)), .int ev, .int wh, .int dn, .int rf, .int db, .int x3])) := hsw6.at hO (by omega)
    have hT : xv_T cI ad w6 (b + 1) T := hT.of_S hsw6 (by omega)
    have hR : w6[b + 14]? = some (ad (b + 14), .inl (cI, 36, .inl f)) := hsw6.at hR (by omega)
    have hSw6 : xv_S ws w6 b 16 := hSw1.trans (hsw6.mono (by omega) (by omega))
    rw [hQ]
    exact xg_emv S hr hlk hK hG ⟨(by rw [show ((ds_rek T p y (he, u, v)).1) = x3 from (by subst ex3 ex7 ex8; simp only [ds_rek, c16, if_true, if_false])]; exact hO), hT, hR, (by rw [show ((ds_rek T p y (he, u, v)).2.1) = x7 from (by subst ex3 ex7 ex8; simp only [ds_rek, c16, if_true, if_false])]; rw [show ((ds_rek T p y (he, u, v)).2.2) = x8 from (by subst ex3 ex7 ex8; simp only [ds_rek, c16, if_true, if_false])]; exact hCh), hSw6⟩ dX4_reckon_35
set_option maxHeartbeats 4000000 in
set_option maxRecDepth 100000 in
theorem mX4_playDare (l : Launch) (D : va_G) (cI cZ : ClassId) (bs : Nat) (ad : Nat → Nat) (ws : va_W) (b : Nat) (b2 : Nat) (ev : Int32) (wh : Int32) (dn : Int32) (rf : Int32) (db : Int32) (he : Int32) (hO : ws[b]? = some (ad b, .inr (4, [.ref (ad (b + 1)), .ref (ad (b + 14)), .ref (ad (b + 15)), .int ev, .int wh, .int dn, .int rf, .int db, .int he]))) (T : Nat → Nat → Int32) (hT : xv_T cI ad ws (b + 1) T) (f : Nat → Int32) (hR : ws[b + 14]? = some (ad (b + 14), .inl (cI, 36, .inl f))) (u : Int64) (v : Int64) (hCh : ws[b + 15]? = some (ad (b + 15), .inr (0, [.long u, .long v]))) (g : Nat → Int32) (hP : ws[b2]? = some (ad b2, .inl (cI, 60, .inl g))) (x : Int32) (hbc : b + 16 ≤ b2 ∨ b2 + 1 ≤ b) : Met l yX4_playDare wsX4_playDare ({ frames := 3, cells := 0, slots := 0, locals := 70 } : Room) (va_Pc [.ref (ad b), .ref (ad b2), .int x] (fun U => xg_W D cI cZ bs ws U)) (va_Qv (fun w : va_W => w[b]? = some (ad b, .inr (4, [.ref (ad (b + 1)), .ref (ad (b + 14)), .ref (ad (b + 15)), .int ev, .int (ds_why T g x), .int ((ds_dar g x (T, f, (he, u, v), (dn, rf, db))).2.2.2.1), .int ((ds_dar g x (T, f, (he, u, v), (dn, rf, db))).2.2.2.2.1), .int ((ds_dar g x (T, f, (he, u, v), (dn, rf, db))).2.2.2.2.2), .int ((ds_dar g x (T, f, (he, u, v), (dn, rf, db))).2.2.1.1)])) ∧ xv_T cI ad w (b + 1) ((ds_dar g x (T, f, (he, u, v), (dn, rf, db))).1) ∧ w[b + 14]? = some (ad (b + 14), .inl (cI, 36, .inl ((ds_dar g x (T, f, (he, u, v), (dn, rf, db))).2.1))) ∧ w[b + 15]? = some (ad (b + 15), .inr (0, [.long ((ds_dar g x (T, f, (he, u, v), (dn, rf, db))).2.2.1.2.1), .long ((ds_dar g x (T, f, (he, u, v), (dn, rf, db))).2.2.1.2.2)])) ∧ w[b2]? = some (ad b2, .inl (cI, 60, .inl g)) ∧ xv_S ws w b 16) (fun w t => xg_W D cI cZ bs w t) (xg_A bs)) 0 0 (xg_A bs) := by
  refine xg_met cX4_playDare 7 none RX4 (by decide) rfl rfl (Nat.le_of_ble_eq_true rfl) ?_
  intro pg en s m below meth c ls S hr hlk hnm hB hl
  have hK := hB.1
  have hG := xg_start hB
  obtain ⟨hx, hb, hml, hown, hts⟩ := id S
  have hl : lv_has ls 7 [(0, .ref (ad b)), (1, .ref (ad b2)), (2, .int x)] := hl
  obtain ⟨Q, hQ⟩ : ∃ Q, Q = MQ below (va_Qv (fun w : va_W => w[b]? = some (ad b, .inr (4, [.ref (ad (b + 1)), .ref (ad (b + 14)), .ref (ad (b + 15)), .int ev, .int (ds_why T g x), .int ((ds_dar g x (T, f, (he, u, v), (dn, rf, db))).2.2.2.1), .int ((ds_dar g x (T, f, (he, u, v), (dn, rf, db))).2.2.2.2.1), .int ((ds_dar g x (T, f, (he, u, v), (dn, rf, db))).2.2.2.2.2), .int ((ds_dar g x (T, f, (he, u, v), (dn, rf, db))).2.2.1.1)])) ∧ xv_T cI ad w (b + 1) ((ds_dar g x (T, f, (he, u, v), (dn, rf, db))).1) ∧ w[b + 14]? = some (ad (b + 14), .inl (cI, 36, .inl ((ds_dar g x (T, f, (he, u, v), (dn, rf, db))).2.1))) ∧ w[b + 15]? = some (ad (b + 15), .inr (0, [.long ((ds_dar g x (T, f, (he, u, v), (dn, rf, db))).2.2.1.2.1), .long ((ds_dar g x (T, f, (he, u, v), (dn, rf, db))).2.2.1.2.2)])) ∧ w[b2]? = some (ad b2, .inl (cI, 60, .inl g)) ∧ xv_S ws w b 16) (fun w t => xg_W D cI cZ bs w t) (xg_A bs)) ([.ref (ad b), .ref (ad b2), .int x] : List Value).toArray s 0 0 (xg_A bs) := ⟨_, rfl⟩
  rw [← hQ]
  have k0 := hts (.initialized RX7) (List.mem_of_getElem? (i := 8) rfl)
  have k1 := hts (.static yX7_at) (List.mem_of_getElem? (i := 7) rfl)
  have k2 := hts (.fieldLink RX4 12 "DareBridge$Summer" "after" "LDareBridge$Town;") (List.mem_of_getElem? (i := 1) rfl)
  have k3 := hts (.fieldLink RX4 53 "DareBridge$Summer" "why" "I") (List.mem_of_getElem? (i := 2) rfl)
  have k4 := hts (.fieldLink RX4 18 "DareBridge$Summer" "ties" "[I") (List.mem_of_getElem? (i := 3) rfl)
  have k5 := hts (.static yX7_put) (List.mem_of_getElem? (i := 23) rfl)
  have k6 := hts (.fieldLink RX4 68 "DareBridge$Summer" "done" "I") (List.mem_of_getElem? (i := 4) rfl)
  have k7 := hts (.fieldLink RX4 71 "DareBridge$Summer" "refused" "I") (List.mem_of_getElem? (i := 5) rfl)
  have k8 := hts (.fieldLink RX4 74 "DareBridge$Summer" "doubled" "I") (List.mem_of_getElem? (i := 6) rfl)
  refine lv_aload_n hx hb dX4_playDare_0 rfl (lv_at hl 1 rfl) ?_
  refine lv_iload_n hx hb dX4_playDare_1 rfl (lv_at hl 2 rfl) ?_
  refine xg_ri (va_runSN (As := [.ref (ad b2), .int x]) (rest := []) S (mX7_at l D cI cZ bs ad ws b2 60 g hP x (by decide)) ⟨(va_cnB 2 hts gX4_playDare_X7_at_n42 rfl rfl rfl (hK.2.1 _ xg_nest_15) k0 (by decide +kernel) ⟨Nat.le_of_ble_eq_true rfl, Nat.le_of_ble_eq_true rfl⟩), k1, trivial⟩ (xg_preS hK hG) rfl rfl hl.1 rfl (lv_room (Nat.le_of_ble_eq_true rfl)) dX4_playDare_2 ⟨Nat.zero_le _, Nat.zero_le _⟩) (fun r1 hr1 => ?_)
  replace hr1 := hr1.symm; subst hr1
  refine lv_bipush (v := 65) hx hb dX4_playDare_5 (by decide) ?_
  refine lv_isub hx hb dX4_playDare_7 ?_
  refine lv_topi (fun x2 ex2 => ?_)
  replace ex2 := ex2.symm
  refine lv_istore_n (lv' := [(3, .int x2), (0, .ref (ad b)), (1, .ref (ad b2)), (2, .int x)]) hx hb dX4_playDare_8 rfl hl (by decide) rfl (fun ls hl => ?_)
  refine lv_aload_n hx hb dX4_playDare_9 rfl (lv_at hl 2 rfl) ?_
  refine lv_iload_n hx hb dX4_playDare_10 rfl (lv_at hl 3 rfl) ?_
  refine lv_iconst (v := 1) hx hb dX4_playDare_11 (by decide) ?_
  refine lv_iadd hx hb dX4_playDare_12 ?_
  refine xg_ri (va_runSN (As := [.ref (ad b2), .int (x + 1)]) (rest := []) S (mX7_at l D cI cZ bs ad ws b2 60 g hP (x + 1) (by decide)) ⟨(va_cnB 2 hts gX4_playDare_X7_at_n42 rfl rfl rfl (hK.2.1 _ xg_nest_15) k0 (by decide +kernel) ⟨Nat.le_of_ble_eq_true rfl, Nat.le_of_ble_eq_true rfl⟩), k1, trivial⟩ (xg_preS hK hG) rfl rfl hl.1 rfl (lv_room (Nat.le_of_ble_eq_true rfl)) dX4_playDare_13 ⟨Nat.zero_le _, Nat.zero_le _⟩) (fun r3 hr3 => ?_)
  replace hr3 := hr3.symm; subst hr3
  refine lv_bipush (v := 65) hx hb dX4_playDare_16 (by decide) ?_
  refine lv_isub hx hb dX4_playDare_18 ?_
  refine lv_topi (fun x4 ex4 => ?_)
  replace ex4 := ex4.symm
  refine lv_istore (lv' := [(4, .int x4), (3, .int x2), (0, .ref (ad b)), (1, .ref (ad b2)), (2, .int x)]) hx hb dX4_playDare_19 hl (by decide) rfl (fun ls hl => ?_)
  refine lv_bipush (v := 10) hx hb dX4_playDare_21 (by decide) ?_
  refine lv_aload_n hx hb dX4_playDare_23 rfl (lv_at hl 3 rfl) ?_
  refine lv_iload_n hx hb dX4_playDare_24 rfl (lv_at hl 4 rfl) ?_
  refine lv_iconst (v := 2) hx hb dX4_playDare_25 (by decide) ?_
  refine lv_iadd hx hb dX4_playDare_26 ?_
  refine xg_ri (va_runSN (As := [.ref (ad b2), .int (x + 2)]) (rest := [.int 10]) S (mX7_at l D cI cZ bs ad ws b2 60 g hP (x + 2) (by decide)) ⟨(va_cnB 2 hts gX4_playDare_X7_at_n42 rfl rfl rfl (hK.2.1 _ xg_nest_15) k0 (by decide +kernel) ⟨Nat.le_of_ble_eq_true rfl, Nat.le_of_ble_eq_true rfl⟩), k1, trivial⟩ (xg_preS hK hG) rfl rfl hl.1 rfl (lv_room (Nat.le_of_ble_eq_true rfl)) dX4_playDare_27 ⟨Nat.zero_le _, Nat.zero_le _⟩) (fun r5 hr5 => ?_)
  replace hr5 := hr5.symm; subst hr5
  refine lv_bipush (v := 48) hx hb dX4_playDare_30 (by decide) ?_
  refine lv_isub hx hb dX4_playDare_32 ?_
  refine lv_imul hx hb dX4_playDare_33 ?_
  refine lv_aload_n hx hb dX4_playDare_34 rfl (lv_at hl 3 rfl) ?_
  refine lv_iload_n hx hb dX4_playDare_35 rfl (lv_at hl 4 rfl) ?_
  refine lv_iconst (v := 3) hx hb dX4_playDare_36 (by decide) ?_
  refine lv_iadd hx hb dX4_playDare_37 ?_
  refine xg_ri (va_runSN (As := [.ref (ad b2), .int (x + 3)]) (rest := [.int (10 * ((xb_at 60 g (x + 2)) - 48))]) S (mX7_at l D cI cZ bs ad ws b2 60 g hP (x + 3) (by decide)) ⟨(va_cnB 2 hts gX4_playDare_X7_at_n42 rfl rfl rfl (hK.2.1 _ xg_nest_15) k0 (by decide +kernel) ⟨Nat.le_of_ble_eq_true rfl, Nat.le_of_ble_eq_true rfl⟩), k1, trivial⟩ (xg_preS hK hG) rfl rfl hl.1 rfl (lv_room (Nat.le_of_ble_eq_true rfl)) dX4_playDare_38 ⟨Nat.zero_le _, Nat.zero_le _⟩) (fun r6 hr6 => ?_)
  replace hr6 := hr6.symm; subst hr6
  refine lv_iadd hx hb dX4_playDare_41 ?_
  refine lv_bipush (v := 48) hx hb dX4_playDare_42 (by decide) ?_
  refine lv_isub hx hb dX4_playDare_44 ?_
  refine lv_topi (fun x7 ex7 => ?_)
  replace ex7 := ex7.symm
  refine lv_istore (lv' := [(5, .int x7), (4, .int x4), (3, .int x2), (0, .ref (ad b)), (1, .ref (ad b2)), (2, .int x)]) hx hb dX4_playDare_45 hl (by decide) rfl (fun ls hl => ?_)
  refine lv_aload_n hx hb dX4_playDare_47 rfl (lv_at hl 3 rfl) ?_
  refine lv_aload_n hx hb dX4_playDare_48 rfl (lv_at hl 3 rfl) ?_
  refine xg_get (C := RX4) (T := TX4) (N := 9) S hK hG (fun w h => List.mem_cons_of_mem _ (List.mem_append_left _ (List.mem_append_left _ (List.mem_append_right _ (h))))) b hO rfl 0 (by decide) k2 (fun _ h9 => h9) rfl dX4_playDare_49 ?_
  refine lv_iload_n hx hb dX4_playDare_52 rfl (lv_at hl 2 rfl) ?_
  refine lv_iload hx hb dX4_playDare_53 (lv_at hl 1 rfl) ?_
  refine lv_iload hx hb dX4_playDare_55 (lv_at hl 0 rfl) ?_
  refine xg_ri (va_runV (As := [.int x2, .int x4, .int x7]) (rest := [.ref (ad b)]) S (mX5_whyNot l D cI cZ bs ad ws (b + 1) T hT x2 x4 x7) (cwV 3 hts gX4_playDare_X5_whyNot rfl rfl rfl (by decide +kernel) ⟨Nat.le_of_ble_eq_true rfl, Nat.le_of_ble_eq_true rfl⟩) (xg_preV hK hG (b + 1) hT.1 rfl rfl) rfl rfl hl.1 rfl (lv_room (Nat.le_of_ble_eq_true rfl)) dX4_playDare_57 ⟨Nat.zero_le _, Nat.zero_le _⟩) (fun r8 hr8 => ?_)
  replace hr8 := hr8.symm; subst hr8
  refine xg_put2 (C := RX4) (T := TX4) (N := 9) (v := .int (dt_why T x2 x4 x7)) (ty := .int) S hK hG (fun w h => List.mem_cons_of_mem _ (List.mem_append_left _ (List.mem_append_left _ (List.mem_append_right _ (h))))) tyX4 tyX4_ok nmX4 b hO rfl 4 (by decide) k3 (fun _ h9 => h9) rfl (by decide +kernel) rfl rfl (Nat.le_of_ble_eq_true rfl) dX4_playDare_60 (fun w9 H locs hw9 hG => ?_)
  have hs10 : xv_S ws w9 b 1 := by rw [hw9]; exact xv_S.set (by omega) (by omega)
  obtain ⟨x11, ex11⟩ : ∃ zz : Int32, dt_why T x2 x4 x7 = zz := ⟨_, rfl⟩
  have hO : w9[b]? = some (ad b, .inr (4, [.ref (ad (b + 1)), .ref (ad (b + 14)), .ref (ad (b + 15)), .int ev, .int x11, .int dn, .int rf, .int db, .int he])) := by rw [hw9, ← ex11]; exact xv_self hO
  have hT : xv_T cI ad w9 (b + 1) T := hT.of_S hs10 (by omega)
  have hR : w9[b + 14]? = some (ad (b + 14), .inl (cI, 36, .inl f)) := hs10.at hR (by omega)
  have hCh : w9[b + 15]? = some (ad (b + 15), .inr (0, [.long u, .long v])) := hs10.at hCh (by omega)
  have hP : w9[b2]? = some (ad b2, .inl (cI, 60, .inl g)) := hs10.at hP (by omega)
  have hSw9 : xv_S ws w9 b 16 := hs10.mono (by omega) (by omega)
  refine lv_aload_n hx hb dX4_playDare_63 rfl (lv_at hl 3 rfl) ?_
  refine xg_get (C := RX4) (T := TX4) (N := 9) S hK hG (fun w h => List.mem_cons_of_mem _ (List.mem_append_left _ (List.mem_append_left _ (List.mem_append_right _ (h))))) b hO rfl 4 (by decide) k3 (fun _ h9 => h9) rfl dX4_playDare_64 ?_
  refine lv_if_eq (tgt := 71) hx hb dX4_playDare_67 (by decide) (fun c67 => ?_) (fun c67 => ?_)
  · skip
    refine lv_iload_n hx hb dX4_playDare_71 rfl (lv_at hl 2 rfl) ?_
    refine lv_bipush (v := 6) hx hb dX4_playDare_72 (by decide) ?_
    refine lv_imul hx hb dX4_playDare_74 ?_
    refine lv_iload hx hb dX4_playDare_75 (lv_at hl 1 rfl) ?_
    refine lv_iadd hx hb dX4_playDare_77 ?_
    refine lv_topi (fun x12 ex12 => ?_)
    replace ex12 := ex12.symm
    refine lv_istore (lv' := [(6, .int x12), (5, .int x7), (4, .int x4), (3, .int x2), (0, .ref (ad b)), (1, .ref (ad b2)), (2, .int x)]) hx hb dX4_playDare_78 hl (by decide) rfl (fun ls hl => ?_)
    refine lv_aload_n hx hb dX4_playDare_80 rfl (lv_at hl 4 rfl) ?_
    refine xg_get (C := RX4) (T := TX4) (N := 9) S hK hG (fun w h => List.mem_cons_of_mem _ (List.mem_append_left _ (List.mem_append_left _ (List.mem_append_right _ (h))))) b hO rfl 1 (by decide) k4 (fun _ h9 => h9) rfl dX4_playDare_81 ?_
    refine lv_iload hx hb dX4_playDare_84 (lv_at hl 0 rfl) ?_
    refine lv_aload_n hx hb dX4_playDare_86 rfl (lv_at hl 4 rfl) ?_
    refine xg_get (C := RX4) (T := TX4) (N := 9) S hK hG (fun w h => List.mem_cons_of_mem _ (List.mem_append_left _ (List.mem_append_left _ (List.mem_append_right _ (h))))) b hO rfl 1 (by decide) k4 (fun _ h9 => h9) rfl dX4_playDare_87 ?_
    refine lv_iload hx hb dX4_playDare_90 (lv_at hl 0 rfl) ?_
    refine xg_ri (va_runSN (As := [.ref (ad (b + 14)), .int x12]) (rest := [.int x12, .ref (ad (b + 14))]) S (mX7_at l D cI cZ bs ad w9 (b + 14) 36 f hR x12 (by decide)) ⟨(va_cnB 2 hts gX4_playDare_X7_at_n42 rfl rfl rfl (hK.2.1 _ xg_nest_15) k0 (by decide +kernel) ⟨Nat.le_of_ble_eq_true rfl, Nat.le_of_ble_eq_true rfl⟩), k1, trivial⟩ (xg_preS hK hG) rfl rfl hl.1 rfl (lv_room (Nat.le_of_ble_eq_true rfl)) dX4_playDare_92 ⟨Nat.zero_le _, Nat.zero_le _⟩) (fun r13 hr13 => ?_)
    replace hr13 := hr13.symm; subst hr13
    refine lv_iconst (v := 1) hx hb dX4_playDare_95 (by decide) ?_
    refine lv_iadd hx hb dX4_playDare_96 ?_
    refine xg_mv (va_runSN (As := [.ref (ad (b + 14)), .int x12, .int ((xb_at 36 f x12) + 1)]) (rest := []) S (mX7_put l D cI cZ bs ad w9 (b + 14) 36 f hR x12 ((xb_at 36 f x12) + 1) (by decide)) ⟨(va_cnB 3 hts gX4_playDare_X7_put_n62 rfl rfl rfl (hK.2.1 _ xg_nest_14) k0 (by decide +kernel) ⟨Nat.le_of_ble_eq_true rfl, Nat.le_of_ble_eq_true rfl⟩), k5, trivial⟩ (xg_preS hK hG) rfl rfl hl.1 rfl (lv_room (Nat.le_of_ble_eq_true rfl)) dX4_playDare_97 ⟨Nat.zero_le _, Nat.zero_le _⟩) hG (fun w15 H locs hr14 hG => ?_)
    obtain ⟨hvw15_0, hsw15⟩ := hr14
    obtain ⟨f16, ef16⟩ : ∃ zz : Nat → Int32, xb_pt 36 f x12 ((xb_at 36 f x12) + 1) = zz := ⟨_, rfl⟩
    have hR : w15[b + 14]? = some (ad (b + 14), .inl (cI, 36, .inl f16)) := by rw [← ef16]; exact hvw15_0
    have hO : w15[b]? = some (ad b, .inr (4, [.ref (ad (b + 1)), .ref (ad (b + 14)), .ref (ad (b + 15)), .int ev, .int x11, .int dn, .int rf, .int db, .int he])) := hsw15.at hO (by omega)
    have hT : xv_T cI ad w15 (b + 1) T := hT.of_S hsw15 (by omega)
    have hCh : w15[b + 15]? = some (ad (b + 15), .inr (0, [.long u, .long v])) := hsw15.at hCh (by omega)
    have hP : w15[b2]? = some (ad b2, .inl (cI, 60, .inl g)) := hsw15.at hP (by omega)
    have hSw15 : xv_S ws w15 b 16 := hSw9.trans (hsw15.mono (by omega) (by omega))
    refine lv_aload_n hx hb dX4_playDare_100 rfl (lv_at hl 5 rfl) ?_
    refine lv_iload_n hx hb dX4_playDare_101 rfl (lv_at hl 6 rfl) ?_
    refine lv_iconst (v := 4) hx hb dX4_playDare_102 (by decide) ?_
    refine lv_iadd hx hb dX4_playDare_103 ?_
    refine xg_ri (va_runSN (As := [.ref (ad b2), .int (x + 4)]) (rest := []) S (mX7_at l D cI cZ bs ad w15 b2 60 g hP (x + 4) (by decide)) ⟨(va_cnB 2 hts gX4_playDare_X7_at_n42 rfl rfl rfl (hK.2.1 _ xg_nest_15) k0 (by decide +kernel) ⟨Nat.le_of_ble_eq_true rfl, Nat.le_of_ble_eq_true rfl⟩), k1, trivial⟩ (xg_preS hK hG) rfl rfl hl.1 rfl (lv_room (Nat.le_of_ble_eq_true rfl)) dX4_playDare_104 ⟨Nat.zero_le _, Nat.zero_le _⟩) (fun r17 hr17 => ?_)
    replace hr17 := hr17.symm; subst hr17
    by_cases sw18_0 : xb_at 60 g (x + 4) = 43
    · skip
      refine lv_lookup (off := 25) (tgt := 132) hx hb dX4_playDare_107 (by decide) (by rw [sw18_0]; rfl) (by decide) ?_
      refine lv_aload_n hx hb dX4_playDare_132 rfl (lv_at hl 4 rfl) ?_
      refine lv_dup hx hb dX4_playDare_133 rfl ?_
      refine xg_get (C := RX4) (T := TX4) (N := 9) S hK hG (fun w h => List.mem_cons_of_mem _ (List.mem_append_left _ (List.mem_append_left _ (List.mem_append_right _ (h))))) b hO rfl 5 (by decide) k6 (fun _ h9 => h9) rfl dX4_playDare_134 ?_
      refine lv_iconst (v := 1) hx hb dX4_playDare_137 (by decide) ?_
      refine lv_iadd hx hb dX4_playDare_138 ?_
      refine xg_put2 (C := RX4) (T := TX4) (N := 9) (v := .int (dn + 1)) (ty := .int) S hK hG (fun w h => List.mem_cons_of_mem _ (List.mem_append_left _ (List.mem_append_left _ (List.mem_append_right _ (h))))) tyX4 tyX4_ok nmX4 b hO rfl 5 (by decide) k6 (fun _ h9 => h9) rfl (by decide +kernel) rfl rfl (Nat.le_of_ble_eq_true rfl) dX4_playDare_139 (fun w19 H locs hw19 hG => ?_)
      have hs20 : xv_S w15 w19 b 1 := by rw [hw19]; exact xv_S.set (by omega) (by omega)
      obtain ⟨x21, ex21⟩ : ∃ zz : Int32, dn + 1 = zz := ⟨_, rfl⟩
      have hO : w19[b]? = some (ad b, .inr (4, [.ref (ad (b + 1)), .ref (ad (b + 14)), .ref (ad (b + 15)), .int ev, .int x11, .int x21, .int rf, .int db, .int he])) := by rw [hw19, ← ex21]; exact xv_self hO
      have hT : xv_T cI ad w19 (b + 1) T := hT.of_S hs20 (by omega)
      have hR : w19[b + 14]? = some (ad (b + 14), .inl (cI, 36, .inl f16)) := hs20.at hR (by omega)
      have hCh : w19[b + 15]? = some (ad (b + 15), .inr (0, [.long u, .long v])) := hs20.at hCh (by omega)
      have hP : w19[b2]? = some (ad b2, .inl (cI, 60, .inl g)) := hs20.at hP (by omega)
      have hSw19 : xv_S ws w19 b 16 := hSw15.trans (hs20.mono (by omega) (by omega))
      refine lv_aload_n hx hb dX4_playDare_142 rfl (lv_at hl 4 rfl) ?_
      refine lv_iload hx hb dX4_playDare_143 (lv_at hl 2 rfl) ?_
      refine lv_iload hx hb dX4_playDare_145 (lv_at hl 1 rfl) ?_
      refine xg_mv (va_runV (As := [.int x4, .int x7]) (rest := []) S (mX4_reckon l D cI cZ bs ad w19 b ev x11 x21 rf db he hO T hT f16 hR u v hCh x4 x7) (cwV 2 hts gX4_playDare_X4_reckon rfl rfl rfl (by decide +kernel) ⟨Nat.le_of_ble_eq_true rfl, Nat.le_of_ble_eq_true rfl⟩) (xg_preV hK hG b hO rfl rfl) rfl rfl hl.1 rfl (lv_room (Nat.le_of_ble_eq_true rfl)) dX4_playDare_147 ⟨Nat.zero_le _, Nat.zero_le _⟩) hG (fun w23 H locs hr22 hG => ?_)
      obtain ⟨hvw23_0, hvw23_1, hvw23_2, hvw23_3, hsw23⟩ := hr22
      have hO : w23[b]? = some (ad b, .inr (4, [.ref (ad (b + 1)), .ref (ad (b + 14)), .ref (ad (b + 15)), .int ev, .int x11, .int x21, .int rf, .int db, .int ((ds_rek T x4 x7 (he, u, v)).1)])) := hvw23_0
      obtain ⟨x24, ex24⟩ : ∃ zz : Int32, (ds_rek T x4 x7 (he, u, v)).1 = zz := ⟨_, rfl⟩
      rw [ex24] at hO
      have hT : xv_T cI ad w23 (b + 1) T := hvw23_1
      have hR : w23[b + 14]? = some (ad (b + 14), .inl (cI, 36, .inl f16)) := hvw23_2
      have hCh : w23[b + 15]? = some (ad (b + 15), .inr (0, [.long ((ds_rek T x4 x7 (he, u, v)).2.1), .long ((ds_rek T x4 x7 (he, u, v)).2.2)])) := hvw23_3
      obtain ⟨x25, ex25⟩ : ∃ zz : Int64, (ds_rek T x4 x7 (he, u, v)).2.1 = zz := ⟨_, rfl⟩
      rw [ex25] at hCh
      obtain ⟨x26, ex26⟩ : ∃ zz : Int64, (ds_rek T x4 x7 (he, u, v)).2.2 = zz := ⟨_, rfl⟩
      rw [ex26] at hCh
      have hP : w23[b2]? = some (ad b2, .inl (cI, 60, .inl g)) := hsw23.at hP (by omega)
      have hSw23 : xv_S ws w23 b 16 := hSw19.trans (hsw23.mono (by omega) (by omega))
      refine lv_aload_n hx hb dX4_playDare_150 rfl (lv_at hl 4 rfl) ?_
      refine xg_get (C := RX4) (T := TX4) (N := 9) S hK hG (fun w h => List.mem_cons_of_mem _ (List.mem_append_left _ (List.mem_append_left _ (List.mem_append_right _ (h))))) b hO rfl 0 (by decide) k2 (fun _ h9 => h9) rfl dX4_playDare_151 ?_
      refine lv_iload hx hb dX4_playDare_154 (lv_at hl 2 rfl) ?_
      refine lv_iload hx hb dX4_playDare_156 (lv_at hl 1 rfl) ?_
      refine xg_mi (va_runV (As := [.int x4, .int x7]) (rest := []) S (mX5_perform l D cI cZ bs ad w23 (b + 1) T hT x4 x7) (cwV 2 hts gX4_playDare_X5_perform rfl rfl rfl (by decide +kernel) ⟨Nat.le_of_ble_eq_true rfl, Nat.le_of_ble_eq_true rfl⟩) (xg_preV hK hG (b + 1) hT.1 rfl rfl) rfl rfl hl.1 rfl (lv_room (Nat.le_of_ble_eq_true rfl)) dX4_playDare_158 ⟨Nat.zero_le _, Nat.zero_le _⟩) hG (fun r27 w28 H locs hr27 hG => ?_)
      obtain ⟨hr27, hvw28_0, hsw28⟩ := hr27
      replace hr27 := hr27.symm; subst hr27
      have hT : xv_T cI ad w28 (b + 1) (dt_pfT T x4 x7) := hvw28_0
      obtain ⟨T29, eT29⟩ : ∃ zz : Nat → Nat → Int32, dt_pfT T x4 x7 = zz := ⟨_, rfl⟩
      rw [eT29] at hT
      have hO : w28[b]? = some (ad b, .inr (4, [.ref (ad (b + 1)), .ref (ad (b + 14)), .ref (ad (b + 15)), .int ev, .int x11, .int x21, .int rf, .int db, .int x24])) := hsw28.at hO (by omega)
      have hR : w28[b + 14]? = some (ad (b + 14), .inl (cI, 36, .inl f16)) := hsw28.at hR (by omega)
      have hCh : w28[b + 15]? = some (ad (b + 15), .inr (0, [.long x25, .long x26])) := hsw28.at hCh (by omega)
      have hP : w28[b2]? = some (ad b2, .inl (cI, 60, .inl g)) := hsw28.at hP (by omega)
      have hSw28 : xv_S ws w28 b 16 := hSw23.trans (hsw28.mono (by omega) (by omega))
      refine lv_pop hx hb dX4_playDare_161 rfl ?_
      refine lv_goto (tgt := 239) hx hb dX4_playDare_162 (by decide) ?_
      rw [hQ]
      exact xg_emv S hr hlk hK hG ⟨(by rw [show (ds_why T g x) = x11 from (by subst ex2 ex4 ex7 ex11 ex12 ef16 ex21 ex24 ex25 ex26 eT29; simp only [ds_dar, ds_why, ds_a, ds_b, ds_h, ds_k, ds_tie, ds_t2, ds_l2, ds_c2, c67, sw18_0, xs_45, if_true, if_false, Bool.false_eq_true])]; rw [show ((ds_dar g x (T, f, (he, u, v), (dn, rf, db))).2.2.2.1) = x21 from (by subst ex2 ex4 ex7 ex11 ex12 ef16 ex21 ex24 ex25 ex26 eT29; simp only [ds_dar, ds_why, ds_a, ds_b, ds_h, ds_k, ds_tie, ds_t2, ds_l2, ds_c2, c67, sw18_0, xs_45, if_true, if_false, Bool.false_eq_true])]; rw [show ((ds_dar g x (T, f, (he, u, v), (dn, rf, db))).2.2.2.2.1) = rf from (by subst ex2 ex4 ex7 ex11 ex12 ef16 ex21 ex24 ex25 ex26 eT29; simp only [ds_dar, ds_why, ds_a, ds_b, ds_h, ds_k, ds_tie, ds_t2, ds_l2, ds_c2, c67, sw18_0, xs_45, if_true, if_false, Bool.false_eq_true])]; rw [show ((ds_dar g x (T, f, (he, u, v), (dn, rf, db))).2.2.2.2.2) = db from (by subst ex2 ex4 ex7 ex11 ex12 ef16 ex21 ex24 ex25 ex26 eT29; simp only [ds_dar, ds_why, ds_a, ds_b, ds_h, ds_k, ds_tie, ds_t2, ds_l2, ds_c2, c67, sw18_0, xs_45, if_true, if_false, Bool.false_eq_true])]; rw [show ((ds_dar g x (T, f, (he, u, v), (dn, rf, db))).2.2.1.1) = x24 from (by subst ex2 ex4 ex7 ex11 ex12 ef16 ex21 ex24 ex25 ex26 eT29; simp only [ds_dar, ds_why, ds_a, ds_b, ds_h, ds_k, ds_tie, ds_t2, ds_l2, ds_c2, c67, sw18_0, xs_45, if_true, if_false, Bool.false_eq_true])]; exact hO), (by rw [show ((ds_dar g x (T, f, (he, u, v), (dn, rf, db))).1) = T29 from (by subst ex2 ex4 ex7 ex11 ex12 ef16 ex21 ex24 ex25 ex26 eT29; simp only [ds_dar, ds_why, ds_a, ds_b, ds_h, ds_k, ds_tie, ds_t2, ds_l2, ds_c2, c67, sw18_0, xs_45, if_true, if_false, Bool.false_eq_true])]; exact hT), (by rw [show ((ds_dar g x (T, f, (he, u, v), (dn, rf, db))).2.1) = f16 from (by subst ex2 ex4 ex7 ex11 ex12 ef16 ex21 ex24 ex25 ex26 eT29; simp only [ds_dar, ds_why, ds_a, ds_b, ds_h, ds_k, ds_tie, ds_t2, ds_l2, ds_c2, c67, sw18_0, xs_45, if_true, if_false, Bool.false_eq_true])]; exact hR), (by rw [show ((ds_dar g x (T, f, (he, u, v), (dn, rf, db))).2.2.1.2.1) = x25 from (by subst ex2 ex4 ex7 ex11 ex12 ef16 ex21 ex24 ex25 ex26 eT29; simp only [ds_dar, ds_why, ds_a, ds_b, ds_h, ds_k, ds_tie, ds_t2, ds_l2, ds_c2, c67, sw18_0, xs_45, if_true, if_false, Bool.false_eq_true])]; rw [show ((ds_dar g x (T, f, (he, u, v), (dn, rf, db))).2.2.1.2.2) = x26 from (by subst ex2 ex4 ex7 ex11 ex12 ef16 ex21 ex24 ex25 ex26 eT29; simp only [ds_dar, ds_why, ds_a, ds_b, ds_h, ds_k, ds_tie, ds_t2, ds_l2, ds_c2, c67, sw18_0, xs_45, if_true, if_false, Bool.false_eq_true])]; exact hCh), hP, hSw28⟩ dX4_playDare_239
    · skip
      by_cases sw18_1 : xb_at 60 g (x + 4) = 45
      · skip
        refine lv_lookup (off := 58) (tgt := 165) hx hb dX4_playDare_107 (by decide) (by rw [sw18_1]; rfl) (by decide) ?_
        refine lv_aload_n hx hb dX4_playDare_165 rfl (lv_at hl 4 rfl) ?_
        refine lv_dup hx hb dX4_playDare_166 rfl ?_
        refine xg_get (C := RX4) (T := TX4) (N := 9) S hK hG (fun w h => List.mem_cons_of_mem _ (List.mem_append_left _ (List.mem_append_left _ (List.mem_append_right _ (h))))) b hO rfl 6 (by decide) k7 (fun _ h9 => h9) rfl dX4_playDare_167 ?_
        refine lv_iconst (v := 1) hx hb dX4_playDare_170 (by decide) ?_
        refine lv_iadd hx hb dX4_playDare_171 ?_
        refine xg_put2 (C := RX4) (T := TX4) (N := 9) (v := .int (rf + 1)) (ty := .int) S hK hG (fun w h => List.mem_cons_of_mem _ (List.mem_append_left _ (List.mem_append_left _ (List.mem_append_right _ (h))))) tyX4 tyX4_ok nmX4 b hO rfl 6 (by decide) k7 (fun _ h9 => h9) rfl (by decide +kernel) rfl rfl (Nat.le_of_ble_eq_true rfl) dX4_playDare_172 (fun w30 H locs hw30 hG => ?_)
        have hs31 : xv_S w15 w30 b 1 := by rw [hw30]; exact xv_S.set (by omega) (by omega)
        obtain ⟨x32, ex32⟩ : ∃ zz : Int32, rf + 1 = zz := ⟨_, rfl⟩
        have hO : w30[b]? = some (ad b, .inr (4, [.ref (ad (b + 1)), .ref (ad (b + 14)), .ref (ad (b + 15)), .int ev, .int x11, .int dn, .int x32, .int db, .int he])) := by rw [hw30, ← ex32]; exact xv_self hO
        have hT : xv_T cI ad w30 (b + 1) T := hT.of_S hs31 (by omega)
        have hR : w30[b + 14]? = some (ad (b + 14), .inl (cI, 36, .inl f16)) := hs31.at hR (by omega)
        have hCh : w30[b + 15]? = some (ad (b + 15), .inr (0, [.long u, .long v])) := hs31.at hCh (by omega)
        have hP : w30[b2]? = some (ad b2, .inl (cI, 60, .inl g)) := hs31.at hP (by omega)
        have hSw30 : xv_S ws w30 b 16 := hSw15.trans (hs31.mono (by omega) (by omega))
        refine lv_aload_n hx hb dX4_playDare_175 rfl (lv_at hl 4 rfl) ?_
        refine xg_get (C := RX4) (T := TX4) (N := 9) S hK hG (fun w h => List.mem_cons_of_mem _ (List.mem_append_left _ (List.mem_append_left _ (List.mem_append_right _ (h))))) b hO rfl 0 (by decide) k2 (fun _ h9 => h9) rfl dX4_playDare_176 ?_
        refine lv_iload hx hb dX4_playDare_179 (lv_at hl 2 rfl) ?_
        refine lv_iload hx hb dX4_playDare_181 (lv_at hl 1 rfl) ?_
        refine xg_mv (va_runV (As := [.int x4, .int x7]) (rest := []) S (mX5_refuse l D cI cZ bs ad w30 (b + 1) T hT x4 x7) (cwV 2 hts gX4_playDare_X5_refuse rfl rfl rfl (by decide +kernel) ⟨Nat.le_of_ble_eq_true rfl, Nat.le_of_ble_eq_true rfl⟩) (xg_preV hK hG (b + 1) hT.1 rfl rfl) rfl rfl hl.1 rfl (lv_room (Nat.le_of_ble_eq_true rfl)) dX4_playDare_183 ⟨Nat.zero_le _, Nat.zero_le _⟩) hG (fun w34 H locs hr33 hG => ?_)
        obtain ⟨hvw34_0, hsw34⟩ := hr33
        have hT : xv_T cI ad w34 (b + 1) (dt_ref T x4 x7) := hvw34_0
        obtain ⟨T35, eT35⟩ : ∃ zz : Nat → Nat → Int32, dt_ref T x4 x7 = zz := ⟨_, rfl⟩
        rw [eT35] at hT
        have hO : w34[b]? = some (ad b, .inr (4, [.ref (ad (b + 1)), .ref (ad (b + 14)), .ref (ad (b + 15)), .int ev, .int x11, .int dn, .int x32, .int db, .int he])) := hsw34.at hO (by omega)
        have hR : w34[b + 14]? = some (ad (b + 14), .inl (cI, 36, .inl f16)) := hsw34.at hR (by omega)
        have hCh : w34[b + 15]? = some (ad (b + 15), .inr (0, [.long u, .long v])) := hsw34.at hCh (by omega)
        have hP : w34[b2]? = some (ad b2, .inl (cI, 60, .inl g)) := hsw34.at hP (by omega)
        have hSw34 : xv_S ws w34 b 16 := hSw30.trans (hsw34.mono (by omega) (by omega))
        refine lv_goto (tgt := 239) hx hb dX4_playDare_186 (by decide) ?_
        rw [hQ]
        exact xg_emv S hr hlk hK hG ⟨(by rw [show (ds_why T g x) = x11 from (by subst ex2 ex4 ex7 ex11 ex12 ef16 ex32 eT35; simp only [ds_dar, ds_why, ds_a, ds_b, ds_h, ds_k, ds_tie, ds_t2, ds_l2, ds_c2, c67, sw18_0, sw18_1, xs_45, if_true, if_false, Bool.false_eq_true])]; rw [show ((ds_dar g x (T, f, (he, u, v), (dn, rf, db))).2.2.2.1) = dn from (by subst ex2 ex4 ex7 ex11 ex12 ef16 ex32 eT35; simp only [ds_dar, ds_why, ds_a, ds_b, ds_h, ds_k, ds_tie, ds_t2, ds_l2, ds_c2, c67, sw18_0, sw18_1, xs_45, if_true, if_false, Bool.false_eq_true])]; rw [show ((ds_dar g x (T, f, (he, u, v), (dn, rf, db))).2.2.2.2.1) = x32 from (by subst ex2 ex4 ex7 ex11 ex12 ef16 ex32 eT35; simp only [ds_dar, ds_why, ds_a, ds_b, ds_h, ds_k, ds_tie, ds_t2, ds_l2, ds_c2, c67, sw18_0, sw18_1, xs_45, if_true, if_false, Bool.false_eq_true])]; rw [show ((ds_dar g x (T, f, (he, u, v), (dn, rf, db))).2.2.2.2.2) = db from (by subst ex2 ex4 ex7 ex11 ex12 ef16 ex32 eT35; simp only [ds_dar, ds_why, ds_a, ds_b, ds_h, ds_k, ds_tie, ds_t2, ds_l2, ds_c2, c67, sw18_0, sw18_1, xs_45, if_true, if_false, Bool.false_eq_true])]; rw [show ((ds_dar g x (T, f, (he, u, v), (dn, rf, db))).2.2.1.1) = he from (by subst ex2 ex4 ex7 ex11 ex12 ef16 ex32 eT35; simp only [ds_dar, ds_why, ds_a, ds_b, ds_h, ds_k, ds_tie, ds_t2, ds_l2, ds_c2, c67, sw18_0, sw18_1, xs_45, if_true, if_false, Bool.false_eq_true])]; exact hO), (by rw [show ((ds_dar g x (T, f, (he, u, v), (dn, rf, db))).1) = T35 from (by subst ex2 ex4 ex7 ex11 ex12 ef16 ex32 eT35; simp only [ds_dar, ds_why, ds_a, ds_b, ds_h, ds_k, ds_tie, ds_t2, ds_l2, ds_c2, c67, sw18_0, sw18_1, xs_45, if_true, if_false, Bool.false_eq_true])]; exact hT), (by rw [show ((ds_dar g x (T, f, (he, u, v), (dn, rf, db))).2.1) = f16 from (by subst ex2 ex4 ex7 ex11 ex12 ef16 ex32 eT35; simp only [ds_dar, ds_why, ds_a, ds_b, ds_h, ds_k, ds_tie, ds_t2, ds_l2, ds_c2, c67, sw18_0, sw18_1, xs_45, if_true, if_false, Bool.false_eq_true])]; exact hR), (by rw [show ((ds_dar g x (T, f, (he, u, v), (dn, rf, db))).2.2.1.2.1) = u from (by subst ex2 ex4 ex7 ex11 ex12 ef16 ex32 eT35; simp only [ds_dar, ds_why, ds_a, ds_b, ds_h, ds_k, ds_tie, ds_t2, ds_l2, ds_c2, c67, sw18_0, sw18_1, xs_45, if_true, if_false, Bool.false_eq_true])]; rw [show ((ds_dar g x (T, f, (he, u, v), (dn, rf, db))).2.2.1.2.2) = v from (by subst ex2 ex4 ex7 ex11 ex12 ef16 ex32 eT35; simp only [ds_dar, ds_why, ds_a, ds_b, ds_h, ds_k, ds_tie, ds_t2, ds_l2, ds_c2, c67, sw18_0, sw18_1, xs_45, if_true, if_false, Bool.false_eq_true])]; exact hCh), hP, hSw34⟩ dX4_playDare_239
      · skip
        have tsw18_0 : ¬ ((43 : Int) = (xb_at 60 g (x + 4) : Int32).toInt) := fun q => sw18_0 (Int32.toInt_inj.mp (by rw [← q]; rfl))
        have tsw18_1 : ¬ ((45 : Int) = (xb_at 60 g (x + 4) : Int32).toInt) := fun q => sw18_1 (Int32.toInt_inj.mp (by rw [← q]; rfl))
        refine lv_lookup (off := 82) (tgt := 189) hx hb dX4_playDare_107 (by decide) (by simp [Op.lookupswitch.offset, tsw18_0, tsw18_1]) (by decide) ?_
        refine lv_aload_n hx hb dX4_playDare_189 rfl (lv_at hl 4 rfl) ?_
        refine lv_dup hx hb dX4_playDare_190 rfl ?_
        refine xg_get (C := RX4) (T := TX4) (N := 9) S hK hG (fun w h => List.mem_cons_of_mem _ (List.mem_append_left _ (List.mem_append_left _ (List.mem_append_right _ (h))))) b hO rfl 7 (by decide) k8 (fun _ h9 => h9) rfl dX4_playDare_191 ?_
        refine lv_iconst (v := 1) hx hb dX4_playDare_194 (by decide) ?_
        refine lv_iadd hx hb dX4_playDare_195 ?_
        refine xg_put2 (C := RX4) (T := TX4) (N := 9) (v := .int (db + 1)) (ty := .int) S hK hG (fun w h => List.mem_cons_of_mem _ (List.mem_append_left _ (List.mem_append_left _ (List.mem_append_right _ (h))))) tyX4 tyX4_ok nmX4 b hO rfl 7 (by decide) k8 (fun _ h9 => h9) rfl (by decide +kernel) rfl rfl (Nat.le_of_ble_eq_true rfl) dX4_playDare_196 (fun w36 H locs hw36 hG => ?_)
        have hs37 : xv_S w15 w36 b 1 := by rw [hw36]; exact xv_S.set (by omega) (by omega)
        obtain ⟨x38, ex38⟩ : ∃ zz : Int32, db + 1 = zz := ⟨_, rfl⟩
        have hO : w36[b]? = some (ad b, .inr (4, [.ref (ad (b + 1)), .ref (ad (b + 14)), .ref (ad (b + 15)), .int ev, .int x11, .int dn, .int rf, .int x38, .int he])) := by rw [hw36, ← ex38]; exact xv_self hO
        have hT : xv_T cI ad w36 (b + 1) T := hT.of_S hs37 (by omega)
        have hR : w36[b + 14]? = some (ad (b + 14), .inl (cI, 36, .inl f16)) := hs37.at hR (by omega)
        have hCh : w36[b + 15]? = some (ad (b + 15), .inr (0, [.long u, .long v])) := hs37.at hCh (by omega)
        have hP : w36[b2]? = some (ad b2, .inl (cI, 60, .inl g)) := hs37.at hP (by omega)
        have hSw36 : xv_S ws w36 b 16 := hSw15.trans (hs37.mono (by omega) (by omega))
        refine lv_aload_n hx hb dX4_playDare_199 rfl (lv_at hl 4 rfl) ?_
        refine lv_iload_n hx hb dX4_playDare_200 rfl (lv_at hl 3 rfl) ?_
        refine lv_iload hx hb dX4_playDare_201 (lv_at hl 1 rfl) ?_
        refine xg_mv (va_runV (As := [.int x2, .int x7]) (rest := []) S (mX4_reckon l D cI cZ bs ad w36 b ev x11 dn rf x38 he hO T hT f16 hR u v hCh x2 x7) (cwV 2 hts gX4_playDare_X4_reckon rfl rfl rfl (by decide +kernel) ⟨Nat.le_of_ble_eq_true rfl, Nat.le_of_ble_eq_true rfl⟩) (xg_preV hK hG b hO rfl rfl) rfl rfl hl.1 rfl (lv_room (Nat.le_of_ble_eq_true rfl)) dX4_playDare_203 ⟨Nat.zero_le _, Nat.zero_le _⟩) hG (fun w40 H locs hr39 hG => ?_)
        obtain ⟨hvw40_0, hvw40_1, hvw40_2, hvw40_3, hsw40⟩ := hr39
        have hO : w40[b]? = some (ad b, .inr (4, [.ref (ad (b + 1)), .ref (ad (b + 14)), .ref (ad (b + 15)), .int ev, .int x11, .int dn, .int rf, .int x38, .int ((ds_rek T x2 x7 (he, u, v)).1)])) := hvw40_0
        obtain ⟨x41, ex41⟩ : ∃ zz : Int32, (ds_rek T x2 x7 (he, u, v)).1 = zz := ⟨_, rfl⟩
        rw [ex41] at hO
        have hT : xv_T cI ad w40 (b + 1) T := hvw40_1
        have hR : w40[b + 14]? = some (ad (b + 14), .inl (cI, 36, .inl f16)) := hvw40_2
        have hCh : w40[b + 15]? = some (ad (b + 15), .inr (0, [.long ((ds_rek T x2 x7 (he, u, v)).2.1), .long ((ds_rek T x2 x7 (he, u, v)).2.2)])) := hvw40_3
        obtain ⟨x42, ex42⟩ : ∃ zz : Int64, (ds_rek T x2 x7 (he, u, v)).2.1 = zz := ⟨_, rfl⟩
        rw [ex42] at hCh
        obtain ⟨x43, ex43⟩ : ∃ zz : Int64, (ds_rek T x2 x7 (he, u, v)).2.2 = zz := ⟨_, rfl⟩
        rw [ex43] at hCh
        have hP : w40[b2]? = some (ad b2, .inl (cI, 60, .inl g)) := hsw40.at hP (by omega)
        have hSw40 : xv_S ws w40 b 16 := hSw36.trans (hsw40.mono (by omega) (by omega))
        refine lv_aload_n hx hb dX4_playDare_206 rfl (lv_at hl 4 rfl) ?_
        refine lv_iload hx hb dX4_playDare_207 (lv_at hl 2 rfl) ?_
        refine lv_iload hx hb dX4_playDare_209 (lv_at hl 1 rfl) ?_
        refine xg_mv (va_runV (As := [.int x4, .int x7]) (rest := []) S (mX4_reckon l D cI cZ bs ad w40 b ev x11 dn rf x38 x41 hO T hT f16 hR x42 x43 hCh x4 x7) (cwV 2 hts gX4_playDare_X4_reckon rfl rfl rfl (by decide +kernel) ⟨Nat.le_of_ble_eq_true rfl, Nat.le_of_ble_eq_true rfl⟩) (xg_preV hK hG b hO rfl rfl) rfl rfl hl.1 rfl (lv_room (Nat.le_of_ble_eq_true rfl)) dX4_playDare_211 ⟨Nat.zero_le _, Nat.zero_le _⟩) hG (fun w45 H locs hr44 hG => ?_)
        obtain ⟨hvw45_0, hvw45_1, hvw45_2, hvw45_3, hsw45⟩ := hr44
        have hO : w45[b]? = some (ad b, .inr (4, [.ref (ad (b + 1)), .ref (ad (b + 14)), .ref (ad (b + 15)), .int ev, .int x11, .int dn, .int rf, .int x38, .int ((ds_rek T x4 x7 (x41, x42, x43)).1)])) := hvw45_0
        obtain ⟨x46, ex46⟩ : ∃ zz : Int32, (ds_rek T x4 x7 (x41, x42, x43)).1 = zz := ⟨_, rfl⟩
        rw [ex46] at hO
        have hT : xv_T cI ad w45 (b + 1) T := hvw45_1
        have hR : w45[b + 14]? = some (ad (b + 14), .inl (cI, 36, .inl f16)) := hvw45_2
        have hCh : w45[b + 15]? = some (ad (b + 15), .inr (0, [.long ((ds_rek T x4 x7 (x41, x42, x43)).2.1), .long ((ds_rek T x4 x7 (x41, x42, x43)).2.2)])) := hvw45_3
        obtain ⟨x47, ex47⟩ : ∃ zz : Int64, (ds_rek T x4 x7 (x41, x42, x43)).2.1 = zz := ⟨_, rfl⟩
        rw [ex47] at hCh
        obtain ⟨x48, ex48⟩ : ∃ zz : Int64, (ds_rek T x4 x7 (x41, x42, x43)).2.2 = zz := ⟨_, rfl⟩
        rw [ex48] at hCh
        have hP : w45[b2]? = some (ad b2, .inl (cI, 60, .inl g)) := hsw45.at hP (by omega)
        have hSw45 : xv_S ws w45 b 16 := hSw40.trans (hsw45.mono (by omega) (by omega))
        refine lv_aload_n hx hb dX4_playDare_214 rfl (lv_at hl 4 rfl) ?_
        refine xg_get (C := RX4) (T := TX4) (N := 9) S hK hG (fun w h => List.mem_cons_of_mem _ (List.mem_append_left _ (List.mem_append_left _ (List.mem_append_right _ (h))))) b hO rfl 0 (by decide) k2 (fun _ h9 => h9) rfl dX4_playDare_215 ?_
        refine lv_iload_n hx hb dX4_playDare_218 rfl (lv_at hl 3 rfl) ?_
        refine lv_iload hx hb dX4_playDare_219 (lv_at hl 1 rfl) ?_
        refine xg_mi (va_runV (As := [.int x2, .int x7]) (rest := []) S (mX5_perform l D cI cZ bs ad w45 (b + 1) T hT x2 x7) (cwV 2 hts gX4_playDare_X5_perform rfl rfl rfl (by decide +kernel) ⟨Nat.le_of_ble_eq_true rfl, Nat.le_of_ble_eq_true rfl⟩) (xg_preV hK hG (b + 1) hT.1 rfl rfl) rfl rfl hl.1 rfl (lv_room (Nat.le_of_ble_eq_true rfl)) dX4_playDare_221 ⟨Nat.zero_le _, Nat.zero_le _⟩) hG (fun r49 w50 H locs hr49 hG => ?_)
        obtain ⟨hr49, hvw50_0, hsw50⟩ := hr49
        replace hr49 := hr49.symm; subst hr49
        have hT : xv_T cI ad w50 (b + 1) (dt_pfT T x2 x7) := hvw50_0
        obtain ⟨T51, eT51⟩ : ∃ zz : Nat → Nat → Int32, dt_pfT T x2 x7 = zz := ⟨_, rfl⟩
        rw [eT51] at hT
        have hO : w50[b]? = some (ad b, .inr (4, [.ref (ad (b + 1)), .ref (ad (b + 14)), .ref (ad (b + 15)), .int ev, .int x11, .int dn, .int rf, .int x38, .int x46])) := hsw50.at hO (by omega)
        have hR : w50[b + 14]? = some (ad (b + 14), .inl (cI, 36, .inl f16)) := hsw50.at hR (by omega)
        have hCh : w50[b + 15]? = some (ad (b + 15), .inr (0, [.long x47, .long x48])) := hsw50.at hCh (by omega)
        have hP : w50[b2]? = some (ad b2, .inl (cI, 60, .inl g)) := hsw50.at hP (by omega)
        have hSw50 : xv_S ws w50 b 16 := hSw45.trans (hsw50.mono (by omega) (by omega))
        refine xb_ifne (tgt := 239) S dX4_playDare_224 (by decide) (fun c224 => ?_) (fun c224 => ?_)
        · skip
          rw [hQ]
          exact xg_emv S hr hlk hK hG ⟨(by rw [show (ds_why T g x) = x11 from (by subst ex2 ex4 ex7 ex11 ex12 ef16 ex38 ex41 ex42 ex43 ex46 ex47 ex48 eT51; simp only [ds_dar, ds_why, ds_a, ds_b, ds_h, ds_k, ds_tie, ds_t2, ds_l2, ds_c2, c67, sw18_0, sw18_1, c224, xs_45, if_true, if_false, Bool.false_eq_true])]; rw [show ((ds_dar g x (T, f, (he, u, v), (dn, rf, db))).2.2.2.1) = dn from (by subst ex2 ex4 ex7 ex11 ex12 ef16 ex38 ex41 ex42 ex43 ex46 ex47 ex48 eT51; simp only [ds_dar, ds_why, ds_a, ds_b, ds_h, ds_k, ds_tie, ds_t2, ds_l2, ds_c2, c67, sw18_0, sw18_1, c224, xs_45, if_true, if_false, Bool.false_eq_true])]; rw [show ((ds_dar g x (T, f, (he, u, v), (dn, rf, db))).2.2.2.2.1) = rf from (by subst ex2 ex4 ex7 ex11 ex12 ef16 ex38 ex41 ex42 ex43 ex46 ex47 ex48 eT51; simp only [ds_dar, ds_why, ds_a, ds_b, ds_h, ds_k, ds_tie, ds_t2, ds_l2, ds_c2, c67, sw18_0, sw18_1, c224, xs_45, if_true, if_false, Bool.false_eq_true])]; rw [show ((ds_dar g x (T, f, (he, u, v), (dn, rf, db))).2.2.2.2.2) = x38 from (by subst ex2 ex4 ex7 ex11 ex12 ef16 ex38 ex41 ex42 ex43 ex46 ex47 ex48 eT51; simp only [ds_dar, ds_why, ds_a, ds_b, ds_h, ds_k, ds_tie, ds_t2, ds_l2, ds_c2, c67, sw18_0, sw18_1, c224, xs_45, if_true, if_false, Bool.false_eq_true])]; rw [show ((ds_dar g x (T, f, (he, u, v), (dn, rf, db))).2.2.1.1) = x46 from (by subst ex2 ex4 ex7 ex11 ex12 ef16 ex38 ex41 ex42 ex43 ex46 ex47 ex48 eT51; simp only [ds_dar, ds_why, ds_a, ds_b, ds_h, ds_k, ds_tie, ds_t2, ds_l2, ds_c2, c67, sw18_0, sw18_1, c224, xs_45, if_true, if_false, Bool.false_eq_true])]; exact hO), (by rw [show ((ds_dar g x (T, f, (he, u, v), (dn, rf, db))).1) = T51 from (by subst ex2 ex4 ex7 ex11 ex12 ef16 ex38 ex41 ex42 ex43 ex46 ex47 ex48 eT51; simp only [ds_dar, ds_why, ds_a, ds_b, ds_h, ds_k, ds_tie, ds_t2, ds_l2, ds_c2, c67, sw18_0, sw18_1, c224, xs_45, if_true, if_false, Bool.false_eq_true])]; exact hT), (by rw [show ((ds_dar g x (T, f, (he, u, v), (dn, rf, db))).2.1) = f16 from (by subst ex2 ex4 ex7 ex11 ex12 ef16 ex38 ex41 ex42 ex43 ex46 ex47 ex48 eT51; simp only [ds_dar, ds_why, ds_a, ds_b, ds_h, ds_k, ds_tie, ds_t2, ds_l2, ds_c2, c67, sw18_0, sw18_1, c224, xs_45, if_true, if_false, Bool.false_eq_true])]; exact hR), (by rw [show ((ds_dar g x (T, f, (he, u, v), (dn, rf, db))).2.2.1.2.1) = x47 from (by subst ex2 ex4 ex7 ex11 ex12 ef16 ex38 ex41 ex42 ex43 ex46 ex47 ex48 eT51; simp only [ds_dar, ds_why, ds_a, ds_b, ds_h, ds_k, ds_tie, ds_t2, ds_l2, ds_c2, c67, sw18_0, sw18_1, c224, xs_45, if_true, if_false, Bool.false_eq_true])]; rw [show ((ds_dar g x (T, f, (he, u, v), (dn, rf, db))).2.2.1.2.2) = x48 from (by subst ex2 ex4 ex7 ex11 ex12 ef16 ex38 ex41 ex42 ex43 ex46 ex47 ex48 eT51; simp only [ds_dar, ds_why, ds_a, ds_b, ds_h, ds_k, ds_tie, ds_t2, ds_l2, ds_c2, c67, sw18_0, sw18_1, c224, xs_45, if_true, if_false, Bool.false_eq_true])]; exact hCh), hP, hSw50⟩ dX4_playDare_239
        · skip
          refine lv_aload_n hx hb dX4_playDare_227 rfl (lv_at hl 4 rfl) ?_
          refine xg_get (C := RX4) (T := TX4) (N := 9) S hK hG (fun w h => List.mem_cons_of_mem _ (List.mem_append_left _ (List.mem_append_left _ (List.mem_append_right _ (h))))) b hO rfl 0 (by decide) k2 (fun _ h9 => h9) rfl dX4_playDare_228 ?_
          refine lv_iload hx hb dX4_playDare_231 (lv_at hl 2 rfl) ?_
          refine lv_iload hx hb dX4_playDare_233 (lv_at hl 1 rfl) ?_
          refine xg_mi (va_runV (As := [.int x4, .int x7]) (rest := []) S (mX5_perform l D cI cZ bs ad w50 (b + 1) T51 hT x4 x7) (cwV 2 hts gX4_playDare_X5_perform rfl rfl rfl (by decide +kernel) ⟨Nat.le_of_ble_eq_true rfl, Nat.le_of_ble_eq_true rfl⟩) (xg_preV hK hG (b + 1) hT.1 rfl rfl) rfl rfl hl.1 rfl (lv_room (Nat.le_of_ble_eq_true rfl)) dX4_playDare_235 ⟨Nat.zero_le _, Nat.zero_le _⟩) hG (fun r52 w53 H locs hr52 hG => ?_)
          obtain ⟨hr52, hvw53_0, hsw53⟩ := hr52
          replace hr52 := hr52.symm; subst hr52
          have hT : xv_T cI ad w53 (b + 1) (dt_pfT T51 x4 x7) := hvw53_0
          obtain ⟨T54, eT54⟩ : ∃ zz : Nat → Nat → Int32, dt_pfT T51 x4 x7 = zz := ⟨_, rfl⟩
          rw [eT54] at hT
          have hO : w53[b]? = some (ad b, .inr (4, [.ref (ad (b + 1)), .ref (ad (b + 14)), .ref (ad (b + 15)), .int ev, .int x11, .int dn, .int rf, .int x38, .int x46])) := hsw53.at hO (by omega)
          have hR : w53[b + 14]? = some (ad (b + 14), .inl (cI, 36, .inl f16)) := hsw53.at hR (by omega)
          have hCh : w53[b + 15]? = some (ad (b + 15), .inr (0, [.long x47, .long x48])) := hsw53.at hCh (by omega)
          have hP : w53[b2]? = some (ad b2, .inl (cI, 60, .inl g)) := hsw53.at hP (by omega)
          have hSw53 : xv_S ws w53 b 16 := hSw50.trans (hsw53.mono (by omega) (by omega))
          refine lv_pop hx hb dX4_playDare_238 rfl ?_
          rw [hQ]
          exact xg_emv S hr hlk hK hG ⟨(by rw [show (ds_why T g x) = x11 from (by subst ex2 ex4 ex7 ex11 ex12 ef16 ex38 ex41 ex42 ex43 ex46 ex47 ex48 eT51 eT54; simp only [ds_dar, ds_why, ds_a, ds_b, ds_h, ds_k, ds_tie, ds_t2, ds_l2, ds_c2, c67, sw18_0, sw18_1, c224, xs_45, if_true, if_false, Bool.false_eq_true])]; rw [show ((ds_dar g x (T, f, (he, u, v), (dn, rf, db))).2.2.2.1) = dn from (by subst ex2 ex4 ex7 ex11 ex12 ef16 ex38 ex41 ex42 ex43 ex46 ex47 ex48 eT51 eT54; simp only [ds_dar, ds_why, ds_a, ds_b, ds_h, ds_k, ds_tie, ds_t2, ds_l2, ds_c2, c67, sw18_0, sw18_1, c224, xs_45, if_true, if_false, Bool.false_eq_true])]; rw [show ((ds_dar g x (T, f, (he, u, v), (dn, rf, db))).2.2.2.2.1) = rf from (by subst ex2 ex4 ex7 ex11 ex12 ef16 ex38 ex41 ex42 ex43 ex46 ex47 ex48 eT51 eT54; simp only [ds_dar, ds_why, ds_a, ds_b, ds_h, ds_k, ds_tie, ds_t2, ds_l2, ds_c2, c67, sw18_0, sw18_1, c224, xs_45, if_true, if_false, Bool.false_eq_true])]; rw [show ((ds_dar g x (T, f, (he, u, v), (dn, rf, db))).2.2.2.2.2) = x38 from (by subst ex2 ex4 ex7 ex11 ex12 ef16 ex38 ex41 ex42 ex43 ex46 ex47 ex48 eT51 eT54; simp only [ds_dar, ds_why, ds_a, ds_b, ds_h, ds_k, ds_tie, ds_t2, ds_l2, ds_c2, c67, sw18_0, sw18_1, c224, xs_45, if_true, if_false, Bool.false_eq_true])]; rw [show ((ds_dar g x (T, f, (he, u, v), (dn, rf, db))).2.2.1.1) = x46 from (by subst ex2 ex4 ex7 ex11 ex12 ef16 ex38 ex41 ex42 ex43 ex46 ex47 ex48 eT51 eT54; simp only [ds_dar, ds_why, ds_a, ds_b, ds_h, ds_k, ds_tie, ds_t2, ds_l2, ds_c2, c67, sw18_0, sw18_1, c224, xs_45, if_true, if_false, Bool.false_eq_true])]; exact hO), (by rw [show ((ds_dar g x (T, f, (he, u, v), (dn, rf, db))).1) = T54 from (by subst ex2 ex4 ex7 ex11 ex12 ef16 ex38 ex41 ex42 ex43 ex46 ex47 ex48 eT51 eT54; simp only [ds_dar, ds_why, ds_a, ds_b, ds_h, ds_k, ds_tie, ds_t2, ds_l2, ds_c2, c67, sw18_0, sw18_1, c224, xs_45, if_true, if_false, Bool.false_eq_true])]; exact hT), (by rw [show ((ds_dar g x (T, f, (he, u, v), (dn, rf, db))).2.1) = f16 from (by subst ex2 ex4 ex7 ex11 ex12 ef16 ex38 ex41 ex42 ex43 ex46 ex47 ex48 eT51 eT54; simp only [ds_dar, ds_why, ds_a, ds_b, ds_h, ds_k, ds_tie, ds_t2, ds_l2, ds_c2, c67, sw18_0, sw18_1, c224, xs_45, if_true, if_false, Bool.false_eq_true])]; exact hR), (by rw [show ((ds_dar g x (T, f, (he, u, v), (dn, rf, db))).2.2.1.2.1) = x47 from (by subst ex2 ex4 ex7 ex11 ex12 ef16 ex38 ex41 ex42 ex43 ex46 ex47 ex48 eT51 eT54; simp only [ds_dar, ds_why, ds_a, ds_b, ds_h, ds_k, ds_tie, ds_t2, ds_l2, ds_c2, c67, sw18_0, sw18_1, c224, xs_45, if_true, if_false, Bool.false_eq_true])]; rw [show ((ds_dar g x (T, f, (he, u, v), (dn, rf, db))).2.2.1.2.2) = x48 from (by subst ex2 ex4 ex7 ex11 ex12 ef16 ex38 ex41 ex42 ex43 ex46 ex47 ex48 eT51 eT54; simp only [ds_dar, ds_why, ds_a, ds_b, ds_h, ds_k, ds_tie, ds_t2, ds_l2, ds_c2, c67, sw18_0, sw18_1, c224, xs_45, if_true, if_false, Bool.false_eq_true])]; exact hCh), hP, hSw53⟩ dX4_playDare_239
  · skip
    rw [hQ]
    exact xg_emv S hr hlk hK hG ⟨(by rw [show (ds_why T g x) = x11 from (by subst ex2 ex4 ex7 ex11; simp only [ds_dar, ds_why, ds_a, ds_b, ds_h, ds_k, ds_tie, ds_t2, ds_l2, ds_c2, c67, xs_45, if_true, if_false, Bool.false_eq_true])]; rw [show ((ds_dar g x (T, f, (he, u, v), (dn, rf, db))).2.2.2.1) = dn from (by subst ex2 ex4 ex7 ex11; simp only [ds_dar, ds_why, ds_a, ds_b, ds_h, ds_k, ds_tie, ds_t2, ds_l2, ds_c2, c67, xs_45, if_true, if_false, Bool.false_eq_true])]; rw [show ((ds_dar g x (T, f, (he, u, v), (dn, rf, db))).2.2.2.2.1) = rf from (by subst ex2 ex4 ex7 ex11; simp only [ds_dar, ds_why, ds_a, ds_b, ds_h, ds_k, ds_tie, ds_t2, ds_l2, ds_c2, c67, xs_45, if_true, if_false, Bool.false_eq_true])]; rw [show ((ds_dar g x (T, f, (he, u, v), (dn, rf, db))).2.2.2.2.2) = db from (by subst ex2 ex4 ex7 ex11; simp only [ds_dar, ds_why, ds_a, ds_b, ds_h, ds_k, ds_tie, ds_t2, ds_l2, ds_c2, c67, xs_45, if_true, if_false, Bool.false_eq_true])]; rw [show ((ds_dar g x (T, f, (he, u, v), (dn, rf, db))).2.2.1.1) = he from (by subst ex2 ex4 ex7 ex11; simp only [ds_dar, ds_why, ds_a, ds_b, ds_h, ds_k, ds_tie, ds_t2, ds_l2, ds_c2, c67, xs_45, if_true, if_false, Bool.false_eq_true])]; exact hO), (by rw [show ((ds_dar g x (T, f, (he, u, v), (dn, rf, db))).1) = T from (by subst ex2 ex4 ex7 ex11; simp only [ds_dar, ds_why, ds_a, ds_b, ds_h, ds_k, ds_tie, ds_t2, ds_l2, ds_c2, c67, xs_45, if_true, if_false, Bool.false_eq_true])]; exact hT), (by rw [show ((ds_dar g x (T, f, (he, u, v), (dn, rf, db))).2.1) = f from (by subst ex2 ex4 ex7 ex11; simp only [ds_dar, ds_why, ds_a, ds_b, ds_h, ds_k, ds_tie, ds_t2, ds_l2, ds_c2, c67, xs_45, if_true, if_false, Bool.false_eq_true])]; exact hR), (by rw [show ((ds_dar g x (T, f, (he, u, v), (dn, rf, db))).2.2.1.2.1) = u from (by subst ex2 ex4 ex7 ex11; simp only [ds_dar, ds_why, ds_a, ds_b, ds_h, ds_k, ds_tie, ds_t2, ds_l2, ds_c2, c67, xs_45, if_true, if_false, Bool.false_eq_true])]; rw [show ((ds_dar g x (T, f, (he, u, v), (dn, rf, db))).2.2.1.2.2) = v from (by subst ex2 ex4 ex7 ex11; simp only [ds_dar, ds_why, ds_a, ds_b, ds_h, ds_k, ds_tie, ds_t2, ds_l2, ds_c2, c67, xs_45, if_true, if_false, Bool.false_eq_true])]; exact hCh), hP, hSw9⟩ dX4_playDare_70
set_option maxHeartbeats 4000000 in
set_option maxRecDepth 100000 in
theorem mX4_begin (l : Launch) (D : va_G) (cI cZ : ClassId) (bs : Nat) (ad : Nat → Nat) (ws : va_W) (b : Nat) (b2 : Nat) (ev : Int32) (wh : Int32) (dn : Int32) (rf : Int32) (db : Int32) (he : Int32) (hO : ws[b]? = some (ad b, .inr (4, [.ref (ad (b + 1)), .ref (ad (b + 14)), .ref (ad (b + 15)), .int ev, .int wh, .int dn, .int rf, .int db, .int he]))) (T : Nat → Nat → Int32) (hT : xv_T cI ad ws (b + 1) T) (f : Nat → Int32) (hR : ws[b + 14]? = some (ad (b + 14), .inl (cI, 36, .inl f))) (u : Int64) (v : Int64) (hCh : ws[b + 15]? = some (ad (b + 15), .inr (0, [.long u, .long v]))) (U : Nat → Nat → Int32) (hU : xv_T cI ad ws b2 U) (hbc : b + 16 ≤ b2 ∨ b2 + 13 ≤ b) : Met l yX4_begin wsX4_begin ({ frames := 3, cells := 0, slots := 0, locals := 65 } : Room) (va_Pc [.ref (ad b), .ref (ad b2)] (fun U => xg_W D cI cZ bs ws U)) (va_Qv (fun w : va_W => w[b]? = some (ad b, .inr (4, [.ref (ad (b + 1)), .ref (ad (b + 14)), .ref (ad (b + 15)), .int 0, .int 0, .int 0, .int 0, .int 0, .int 0])) ∧ xv_T cI ad w (b + 1) U ∧ w[b + 14]? = some (ad (b + 14), .inl (cI, 36, .inl ds_z)) ∧ w[b + 15]? = some (ad (b + 15), .inr (0, [.long 1, .long 1])) ∧ xv_T cI ad w b2 U ∧ xv_S ws w b 16) (fun w t => xg_W D cI cZ bs w t) (xg_A bs)) 0 0 (xg_A bs) := by
  refine xg_met cX4_begin 3 none RX4 (by decide) rfl rfl (Nat.le_of_ble_eq_true rfl) ?_
  intro pg en s m below meth c ls S hr hlk hnm hB hl
  have hK := hB.1
  have hG := xg_start hB
  obtain ⟨hx, hb, hml, hown, hts⟩ := id S
  have hl : lv_has ls 3 [(0, .ref (ad b)), (1, .ref (ad b2))] := hl
  obtain ⟨Q, hQ⟩ : ∃ Q, Q = MQ below (va_Qv (fun w : va_W => w[b]? = some (ad b, .inr (4, [.ref (ad (b + 1)), .ref (ad (b + 14)), .ref (ad (b + 15)), .int 0, .int 0, .int 0, .int 0, .int 0, .int 0])) ∧ xv_T cI ad w (b + 1) U ∧ w[b + 14]? = some (ad (b + 14), .inl (cI, 36, .inl ds_z)) ∧ w[b + 15]? = some (ad (b + 15), .inr (0, [.long 1, .long 1])) ∧ xv_T cI ad w b2 U ∧ xv_S ws w b 16) (fun w t => xg_W D cI cZ bs w t) (xg_A bs)) ([.ref (ad b), .ref (ad b2)] : List Value).toArray s 0 0 (xg_A bs) := ⟨_, rfl⟩
  rw [← hQ]
  have k0 := hts (.fieldLink RX4 12 "DareBridge$Summer" "after" "LDareBridge$Town;") (List.mem_of_getElem? (i := 1) rfl)
  have k1 := hts (.fieldLink RX4 18 "DareBridge$Summer" "ties" "[I") (List.mem_of_getElem? (i := 2) rfl)
  have k2 := hts (.fieldLink RX4 25 "DareBridge$Summer" "luck" "LDareBridge$Chance;") (List.mem_of_getElem? (i := 3) rfl)
  have k3 := hts (.fieldLink RX4 56 "DareBridge$Summer" "events" "I") (List.mem_of_getElem? (i := 4) rfl)
  have k4 := hts (.fieldLink RX4 53 "DareBridge$Summer" "why" "I") (List.mem_of_getElem? (i := 5) rfl)
  have k5 := hts (.fieldLink RX4 68 "DareBridge$Summer" "done" "I") (List.mem_of_getElem? (i := 6) rfl)
  have k6 := hts (.fieldLink RX4 71 "DareBridge$Summer" "refused" "I") (List.mem_of_getElem? (i := 7) rfl)
  have k7 := hts (.fieldLink RX4 74 "DareBridge$Summer" "doubled" "I") (List.mem_of_getElem? (i := 8) rfl)
  have k8 := hts (.fieldLink RX4 77 "DareBridge$Summer" "heights" "I") (List.mem_of_getElem? (i := 9) rfl)
  have k9 := hts (.initialized RX7) (List.mem_of_getElem? (i := 29) rfl)
  have k10 := hts (.static yX7_put) (List.mem_of_getElem? (i := 35) rfl)
  refine lv_aload_n hx hb dX4_begin_0 rfl (lv_at hl 0 rfl) ?_
  refine xg_get (C := RX4) (T := TX4) (N := 9) S hK hG (fun w h => List.mem_cons_of_mem _ (List.mem_append_left _ (List.mem_append_left _ (List.mem_append_right _ (h))))) b hO rfl 0 (by decide) k0 (fun _ h9 => h9) rfl dX4_begin_1 ?_
  refine lv_aload_n hx hb dX4_begin_4 rfl (lv_at hl 1 rfl) ?_
  refine xg_mv (va_runV (As := [.ref (ad b2)]) (rest := []) S (mX5_copyFrom l D cI cZ bs ad ws (b + 1) b2 T hT U hU (by omega)) (cwV 1 hts gX4_begin_X5_copyFrom rfl rfl rfl (by decide +kernel) ⟨Nat.le_of_ble_eq_true rfl, Nat.le_of_ble_eq_true rfl⟩) (xg_preV hK hG (b + 1) hT.1 rfl rfl) rfl rfl hl.1 rfl (lv_room (Nat.le_of_ble_eq_true rfl)) dX4_begin_5 ⟨Nat.zero_le _, Nat.zero_le _⟩) hG (fun w2 H locs hr1 hG => ?_)
  obtain ⟨hvw2_0, hvw2_1, hsw2⟩ := hr1
  have hT : xv_T cI ad w2 (b + 1) U := hvw2_0
  have hU : xv_T cI ad w2 b2 U := hvw2_1
  have hO : w2[b]? = some (ad b, .inr (4, [.ref (ad (b + 1)), .ref (ad (b + 14)), .ref (ad (b + 15)), .int ev, .int wh, .int dn, .int rf, .int db, .int he])) := hsw2.at hO (by omega)
  have hR : w2[b + 14]? = some (ad (b + 14), .inl (cI, 36, .inl f)) := hsw2.at hR (by omega)
  have hCh : w2[b + 15]? = some (ad (b + 15), .inr (0, [.long u, .long v])) := hsw2.at hCh (by omega)
  have hSw2 : xv_S ws w2 b 16 := hsw2.mono (by omega) (by omega)
  refine lv_iconst (v := 0) hx hb dX4_begin_8 (by decide) ?_
  refine lv_istore_n (lv' := [(2, .int 0), (0, .ref (ad b)), (1, .ref (ad b2))]) hx hb dX4_begin_9 rfl hl (by decide) rfl (fun ls hl => ?_)
  -- the loop at 10
  have lp10 : ∀ (fu : Nat) (k : Nat), (k ≤ 36) → (37 ≤ k + fu) → ∀ y10_2 : Int32, y10_2 = nI k → ∀ z10_hR_f : Nat → Int32, z10_hR_f = xw_cp ds_z f k → ∀ (w10 : va_W) (H : Heap) (locs : List Loc), xg_H D bs w10 s.heap H locs → (w10[b]? = some (ad b, .inr (4, [.ref (ad (b + 1)), .ref (ad (b + 14)), .ref (ad (b + 15)), .int ev, .int wh, .int dn, .int rf, .int db, .int he]))) → (xv_T cI ad w10 (b + 1) U) → (w10[b + 14]? = some (ad (b + 14), .inl (cI, 36, .inl z10_hR_f))) → (w10[b + 15]? = some (ad (b + 15), .inr (0, [.long u, .long v]))) → (xv_T cI ad w10 b2 U) → xv_S ws w10 b 16 → ∀ (ls : Array Slot), lv_has ls 3 [(0, .ref (ad b)), (1, .ref (ad b2)), (2, .int y10_2)] → W pg l en ({ frames := 3, cells := 0, slots := 0, locals := 65 } : Room) s m ([.ref (ad b), .ref (ad b2)] : List Value).toArray below meth c H locs 0 0 Q (F0 m 10 ls []) := by
    intro fu
    induction fu with
    | zero =>
      intro k hk hf
      exact absurd hf (by omega)
    | succ fu ih =>
      intro k hk hf y10_2 ey10_2 z10_hR_f ez10_hR_f
      intro w10 H locs hG hO hT hR hCh hU hSw10
      intro ls hl
      replace ey10_2 := ey10_2.symm; subst ey10_2
      replace ez10_hR_f := ez10_hR_f.symm; subst ez10_hR_f
      refine lv_iload_n hx hb dX4_begin_10 rfl (lv_at hl 2 rfl) ?_
      refine lv_aload_n hx hb dX4_begin_11 rfl (lv_at hl 0 rfl) ?_
      refine xg_get (C := RX4) (T := TX4) (N := 9) S hK hG (fun w h => List.mem_cons_of_mem _ (List.mem_append_left _ (List.mem_append_left _ (List.mem_append_right _ (h))))) b hO rfl 1 (by decide) k1 (fun _ h9 => h9) rfl dX4_begin_12 ?_
      refine xg_len S hK hG (b + 14) hR dX4_begin_15 ?_
      refine lv_icmp_ge (tgt := 34) hx hb dX4_begin_16 (by decide) (fun c16 => ?_) (fun c16 => ?_)
      · skip
        have hk9 : k = 36 := by have := xb_le (k := k) (n := 36) (by omega) (by decide) c16; omega
        have hG := xb_row (g := ds_z) hG hR (fun j hj => by rw [hk9]; exact if_pos hj)
        obtain ⟨w3, hw3⟩ : ∃ w, w = w10.set (b + 14) (ad (b + 14), .inl (cI, 36, .inl ds_z)) := ⟨_, rfl⟩
        rw [← hw3] at hG
        have hs4 : xv_S w10 w3 (b + 14) 1 := by rw [hw3]; exact xv_S.set (by omega) (by omega)
        have hR : w3[b + 14]? = some (ad (b + 14), .inl (cI, 36, .inl ds_z)) := by rw [hw3]; exact xv_self hR
        have hO : w3[b]? = some (ad b, .inr (4, [.ref (ad (b + 1)), .ref (ad (b + 14)), .ref (ad (b + 15)), .int ev, .int wh, .int dn, .int rf, .int db, .int he])) := hs4.at hO (by omega)
        have hT : xv_T cI ad w3 (b + 1) U := hT.of_S hs4 (by omega)
        have hCh : w3[b + 15]? = some (ad (b + 15), .inr (0, [.long u, .long v])) := hs4.at hCh (by omega)
        have hU : xv_T cI ad w3 b2 U := hU.of_S hs4 (by omega)
        have hSw3 : xv_S ws w3 b 16 := hSw10.trans (hs4.mono (by omega) (by omega))
        refine lv_aload_n hx hb dX4_begin_34 rfl (lv_at hl 0 rfl) ?_
        refine xg_get (C := RX4) (T := TX4) (N := 9) S hK hG (fun w h => List.mem_cons_of_mem _ (List.mem_append_left _ (List.mem_append_left _ (List.mem_append_right _ (h))))) b hO rfl 2 (by decide) k2 (fun _ h9 => h9) rfl dX4_begin_35 ?_
        refine xg_mv (va_runV (As := []) (rest := []) S (mX0_begin l D cI cZ bs ad w3 (b + 15) u v hCh) (cwV 0 hts gX4_begin_X0_begin rfl rfl rfl (by decide +kernel) ⟨Nat.le_of_ble_eq_true rfl, Nat.le_of_ble_eq_true rfl⟩) (xg_preV hK hG (b + 15) hCh rfl rfl) rfl rfl hl.1 rfl (lv_room (Nat.le_of_ble_eq_true rfl)) dX4_begin_38 ⟨Nat.zero_le _, Nat.zero_le _⟩) hG (fun w6 H locs hr5 hG => ?_)
        obtain ⟨hvw6_0, hsw6⟩ := hr5
        have hCh : w6[b + 15]? = some (ad (b + 15), .inr (0, [.long 1, .long 1])) := hvw6_0
        have hO : w6[b]? = some (ad b, .inr (4, [.ref (ad (b + 1)), .ref (ad (b + 14)), .ref (ad (b + 15)), .int ev, .int wh, .int dn, .int rf, .int db, .int he])) := hsw6.at hO (by omega)
        have hT : xv_T cI ad w6 (b + 1) U := hT.of_S hsw6 (by omega)
        have hR : w6[b + 14]? = some (ad (b + 14), .inl (cI, 36, .inl ds_z)) := hsw6.at hR (by omega)
        have hU : xv_T cI ad w6 b2 U := hU.of_S hsw6 (by omega)
        have hSw6 : xv_S ws w6 b 16 := hSw3.trans (hsw6.mono (by omega) (by omega))
        refine lv_aload_n hx hb dX4_begin_41 rfl (lv_at hl 0 rfl) ?_
        refine lv_iconst (v := 0) hx hb dX4_begin_42 (by decide) ?_
        refine xg_put2 (C := RX4) (T := TX4) (N := 9) (v := .int 0) (ty := .int) S hK hG (fun w h => List.mem_cons_of_mem _ (List.mem_append_left _ (List.mem_append_left _ (List.mem_append_right _ (h))))) tyX4 tyX4_ok nmX4 b hO rfl 3 (by decide) k3 (fun _ h9 => h9) rfl (by decide +kernel) rfl rfl (Nat.le_of_ble_eq_true rfl) dX4_begin_43 (fun w7 H locs hw7 hG => ?_)
        have hs8 : xv_S w6 w7 b 1 := by rw [hw7]; exact xv_S.set (by omega) (by omega)
        have hO : w7[b]? = some (ad b, .inr (4, [.ref (ad (b + 1)), .ref (ad (b + 14)), .ref (ad (b + 15)), .int 0, .int wh, .int dn, .int rf, .int db, .int he])) := by rw [hw7]; exact xv_self hO
        have hT : xv_T cI ad w7 (b + 1) U := hT.of_S hs8 (by omega)
        have hR : w7[b + 14]? = some (ad (b + 14), .inl (cI, 36, .inl ds_z)) := hs8.at hR (by omega)
        have hCh : w7[b + 15]? = some (ad (b + 15), .inr (0, [.long 1, .long 1])) := hs8.at hCh (by omega)
        have hU : xv_T cI ad w7 b2 U := hU.of_S hs8 (by omega)
        have hSw7 : xv_S ws w7 b 16 := hSw6.trans (hs8.mono (by omega) (by omega))
        refine lv_aload_n hx hb dX4_begin_46 rfl (lv_at hl 0 rfl) ?_
        refine lv_iconst (v := 0) hx hb dX4_begin_47 (by decide) ?_
        refine xg_put2 (C := RX4) (T := TX4) (N := 9) (v := .int 0) (ty := .int) S hK hG (fun w h => List.mem_cons_of_mem _ (List.mem_append_left _ (List.mem_append_left _ (List.mem_append_right _ (h))))) tyX4 tyX4_ok nmX4 b hO rfl 4 (by decide) k4 (fun _ h9 => h9) rfl (by decide +kernel) rfl rfl (Nat.le_of_ble_eq_true rfl) dX4_begin_48 (fun w9 H locs hw9 hG => ?_)
        have hs10 : xv_S w7 w9 b 1 := by rw [hw9]; exact xv_S.set (by omega) (by omega)
        have hO : w9[b]? = some (ad b, .inr (4, [.ref (ad (b + 1)), .ref (ad (b + 14)), .ref (ad (b + 15)), .int 0, .int 0, .int dn, .int rf, .int db, .int he])) := by rw [hw9]; exact xv_self hO
        have hT : xv_T cI ad w9 (b + 1) U := hT.of_S hs10 (by omega)
        have hR : w9[b + 14]? = some (ad (b + 14), .inl (cI, 36, .inl ds_z)) := hs10.at hR (by omega)
        have hCh : w9[b + 15]? = some (ad (b + 15), .inr (0, [.long 1, .long 1])) := hs10.at hCh (by omega)
        have hU : xv_T cI ad w9 b2 U := hU.of_S hs10 (by omega)
        have hSw9 : xv_S ws w9 b 16 := hSw7.trans (hs10.mono (by omega) (by omega))
        refine lv_aload_n hx hb dX4_begin_51 rfl (lv_at hl 0 rfl) ?_
        refine lv_iconst (v := 0) hx hb dX4_begin_52 (by decide) ?_
        refine xg_put2 (C := RX4) (T := TX4) (N := 9) (v := .int 0) (ty := .int) S hK hG (fun w h => List.mem_cons_of_mem _ (List.mem_append_left _ (List.mem_append_left _ (List.mem_append_right _ (h))))) tyX4 tyX4_ok nmX4 b hO rfl 5 (by decide) k5 (fun _ h9 => h9) rfl (by decide +kernel) rfl rfl (Nat.le_of_ble_eq_true rfl) dX4_begin_53 (fun w11 H locs hw11 hG => ?_)
        have hs12 : xv_S w9 w11 b 1 := by rw [hw11]; exact xv_S.set (by omega) (by omega)
        have hO : w11[b]? = some (ad b, .inr (4, [.ref (ad (b + 1)), .ref (ad (b + 14)), .ref (ad (b + 15)), .int 0, .int 0, .int 0, .int rf, .int db, .int he])) := by rw [hw11]; exact xv_self hO
        have hT : xv_T cI ad w11 (b + 1) U := hT.of_S hs12 (by omega)
        have hR : w11[b + 14]? = some (ad (b + 14), .inl (cI, 36, .inl ds_z)) := hs12.at hR (by omega)
        have hCh : w11[b + 15]? = some (ad (b + 15), .inr (0, [.long 1, .long 1])) := hs12.at hCh (by omega)
        have hU : xv_T cI ad w11 b2 U := hU.of_S hs12 (by omega)
        have hSw11 : xv_S ws w11 b 16 := hSw9.trans (hs12.mono (by omega) (by omega))
        refine lv_aload_n hx hb dX4_begin_56 rfl (lv_at hl 0 rfl) ?_
        refine lv_iconst (v := 0) hx hb dX4_begin_57 (by decide) ?_
        refine xg_put2 (C := RX4) (T := TX4) (N := 9) (v := .int 0) (ty := .int) S hK hG (fun w h => List.mem_cons_of_mem _ (List.mem_append_left _ (List.mem_append_left _ (List.mem_append_right _ (h))))) tyX4 tyX4_ok nmX4 b hO rfl 6 (by decide) k6 (fun _ h9 => h9) rfl (by decide +kernel) rfl rfl (Nat.le_of_ble_eq_true rfl) dX4_begin_58 (fun w13 H locs hw13 hG => ?_)
        have hs14 : xv_S w11 w13 b 1 := by rw [hw13]; exact xv_S.set (by omega) (by omega)
        have hO : w13[b]? = some (ad b, .inr (4, [.ref (ad (b + 1)), .ref (ad (b + 14)), .ref (ad (b + 15)), .int 0, .int 0, .int 0, .int 0, .int db, .int he])) := by rw [hw13]; exact xv_self hO
        have hT : xv_T cI ad w13 (b + 1) U := hT.of_S hs14 (by omega)
        have hR : w13[b + 14]? = some (ad (b + 14), .inl (cI, 36, .inl ds_z)) := hs14.at hR (by omega)
        have hCh : w13[b + 15]? = some (ad (b + 15), .inr (0, [.long 1, .long 1])) := hs14.at hCh (by omega)
        have hU : xv_T cI ad w13 b2 U := hU.of_S hs14 (by omega)
        have hSw13 : xv_S ws w13 b 16 := hSw11.trans (hs14.mono (by omega) (by omega))
        refine lv_aload_n hx hb dX4_begin_61 rfl (lv_at hl 0 rfl) ?_
        refine lv_iconst (v := 0) hx hb dX4_begin_62 (by decide) ?_
        refine xg_put2 (C := RX4) (T := TX4) (N := 9) (v := .int 0) (ty := .int) S hK hG (fun w h => List.mem_cons_of_mem _ (List.mem_append_left _ (List.mem_append_left _ (List.mem_append_right _ (h))))) tyX4 tyX4_ok nmX4 b hO rfl 7 (by decide) k7 (fun _ h9 => h9) rfl (by decide +kernel) rfl rfl (Nat.le_of_ble_eq_true rfl) dX4_begin_63 (fun w15 H locs hw15 hG => ?_)
        have hs16 : xv_S w13 w15 b 1 := by rw [hw15]; exact xv_S.set (by omega) (by omega)
        have hO : w15[b]? = some (ad b, .inr (4, [.ref (ad (b + 1)), .ref (ad (b + 14)), .ref (ad (b + 15)), .int 0, .int 0, .int 0, .int 0, .int 0, .int he])) := by rw [hw15]; exact xv_self hO
        have hT : xv_T cI ad w15 (b + 1) U := hT.of_S hs16 (by omega)
        have hR : w15[b + 14]? = some (ad (b + 14), .inl (cI, 36, .inl ds_z)) := hs16.at hR (by omega)
        have hCh : w15[b + 15]? = some (ad (b + 15), .inr (0, [.long 1, .long 1])) := hs16.at hCh (by omega)
        have hU : xv_T cI ad w15 b2 U := hU.of_S hs16 (by omega)
        have hSw15 : xv_S ws w15 b 16 := hSw13.trans (hs16.mono (by omega) (by omega))
        refine lv_aload_n hx hb dX4_begin_66 rfl (lv_at hl 0 rfl) ?_
        refine lv_iconst (v := 0) hx hb dX4_begin_67 (by decide) ?_
        refine xg_put2 (C := RX4) (T := TX4) (N := 9) (v := .int 0) (ty := .int) S hK hG (fun w h => List.mem_cons_of_mem _ (List.mem_append_left _ (List.mem_append_left _ (List.mem_append_right _ (h))))) tyX4 tyX4_ok nmX4 b hO rfl 8 (by decide) k8 (fun _ h9 => h9) rfl (by decide +kernel) rfl rfl (Nat.le_of_ble_eq_true rfl) dX4_begin_68 (fun w17 H locs hw17 hG => ?_)
        have hs18 : xv_S w15 w17 b 1 := by rw [hw17]; exact xv_S.set (by omega) (by omega)
        have hO : w17[b]? = some (ad b, .inr (4, [.ref (ad (b + 1)), .ref (ad (b + 14)), .ref (ad (b + 15)), .int 0, .int 0, .int 0, .int 0, .int 0, .int 0])) := by rw [hw17]; exact xv_self hO
        have hT : xv_T cI ad w17 (b + 1) U := hT.of_S hs18 (by omega)
        have hR : w17[b + 14]? = some (ad (b + 14), .inl (cI, 36, .inl ds_z)) := hs18.at hR (by omega)
        have hCh : w17[b + 15]? = some (ad (b + 15), .inr (0, [.long 1, .long 1])) := hs18.at hCh (by omega)
        have hU : xv_T cI ad w17 b2 U := hU.of_S hs18 (by omega)
        have hSw17 : xv_S ws w17 b 16 := hSw15.trans (hs18.mono (by omega) (by omega))
        rw [hQ]
        exact xg_emv S hr hlk hK hG ⟨hO, hT, hR, hCh, hU, hSw17⟩ dX4_begin_71
      · skip
        have hk9 : k < 36 := xb_lt (by omega) (by decide) c16
        refine lv_aload_n hx hb dX4_begin_19 rfl (lv_at hl 0 rfl) ?_
        refine xg_get (C := RX4) (T := TX4) (N := 9) S hK hG (fun w h => List.mem_cons_of_mem _ (List.mem_append_left _ (List.mem_append_left _ (List.mem_append_right _ (h))))) b hO rfl 1 (by decide) k1 (fun _ h9 => h9) rfl dX4_begin_20 ?_
        refine lv_iload_n hx hb dX4_begin_23 rfl (lv_at hl 2 rfl) ?_
        refine lv_iconst (v := 0) hx hb dX4_begin_24 (by decide) ?_
        refine xg_mv (va_runSN (As := [.ref (ad (b + 14)), .int (nI k), .int 0]) (rest := []) S (mX7_put l D cI cZ bs ad w10 (b + 14) 36 (xw_cp ds_z f k) hR (nI k) 0 (by decide)) ⟨(va_cnB 3 hts gX4_begin_X7_put_n62 rfl rfl rfl (hK.2.1 _ xg_nest_14) k9 (by decide +kernel) ⟨Nat.le_of_ble_eq_true rfl, Nat.le_of_ble_eq_true rfl⟩), k10, trivial⟩ (xg_preS hK hG) rfl rfl hl.1 rfl (lv_room (Nat.le_of_ble_eq_true rfl)) dX4_begin_25 ⟨Nat.zero_le _, Nat.zero_le _⟩) hG (fun w20 H locs hr19 hG => ?_)
        obtain ⟨hvw20_0, hsw20⟩ := hr19
        obtain ⟨f21, ef21⟩ : ∃ zz : Nat → Int32, xb_pt 36 (xw_cp ds_z f k) (nI k) 0 = zz := ⟨_, rfl⟩
        have hR : w20[b + 14]? = some (ad (b + 14), .inl (cI, 36, .inl f21)) := by rw [← ef21]; exact hvw20_0
        have hO : w20[b]? = some (ad b, .inr (4, [.ref (ad (b + 1)), .ref (ad (b + 14)), .ref (ad (b + 15)), .int ev, .int wh, .int dn, .int rf, .int db, .int he])) := hsw20.at hO (by omega)
        have hT : xv_T cI ad w20 (b + 1) U := hT.of_S hsw20 (by omega)
        have hCh : w20[b + 15]? = some (ad (b + 15), .inr (0, [.long u, .long v])) := hsw20.at hCh (by omega)
        have hU : xv_T cI ad w20 b2 U := hU.of_S hsw20 (by omega)
        have hSw20 : xv_S ws w20 b 16 := hSw10.trans (hsw20.mono (by omega) (by omega))
        obtain ⟨x22, ex22⟩ : ∃ zz : Int32, (nI k) + 1 = zz := ⟨_, rfl⟩
        refine lv_iinc (v := x22) (lv' := [(2, .int x22), (0, .ref (ad b)), (1, .ref (ad b2))]) hx hb dX4_begin_28 hl (k := 2) rfl (by rw [← ex22]; rfl) (by decide) rfl (fun ls hl => ?_)
        refine lv_goto (tgt := 10) hx hb dX4_begin_31 (by decide) ?_
        exact ih (k + 1) (by omega) (by omega) x22 (by subst ef21 ex22; exact nI_1 k) f21 (by subst ef21 ex22; exact xw_cpz hk9 (by decide)) w20 _ _ hG hO hT hR hCh hU hSw20 ls (lv_sub hl [1, 2, 0] rfl)
  exact lp10 37 0 (by omega) (by omega) 0 (by skip; rfl) f xw_cp0.symm w2 _ _ hG hO hT hR hCh hU hSw2 ls (lv_sub hl [1, 2, 0] rfl)
set_option maxHeartbeats 4000000 in
set_option maxRecDepth 100000 in
theorem mX4_closest (l : Launch) (D : va_G) (cI cZ : ClassId) (bs : Nat) (ad : Nat → Nat) (ws : va_W) (b : Nat) (ev : Int32) (wh : Int32) (dn : Int32) (rf : Int32) (db : Int32) (he : Int32) (hO : ws[b]? = some (ad b, .inr (4, [.ref (ad (b + 1)), .ref (ad (b + 14)), .ref (ad (b + 15)), .int ev, .int wh, .int dn, .int rf, .int db, .int he]))) (T : Nat → Nat → Int32) (hT : xv_T cI ad ws (b + 1) T) (f : Nat → Int32) (hR : ws[b + 14]? = some (ad (b + 14), .inl (cI, 36, .inl f))) (u : Int64) (v : Int64) (hCh : ws[b + 15]? = some (ad (b + 15), .inr (0, [.long u, .long v]))) : Met l yX4_closest wsX4_closest ({ frames := 1, cells := 0, slots := 0, locals := 21 } : Room) (va_Pc [.ref (ad b)] (fun U => xg_W D cI cZ bs ws U)) (xg_Ri (fun r : Int32 => r = (ds_clo f 36).1)) 0 0 xg_F := by
  refine xg_met cX4_closest 4 (some .int) RX4 (by decide) rfl rfl (Nat.le_of_ble_eq_true rfl) ?_
  intro pg en s m below meth c ls S hr hlk hnm hB hl
  have hK := hB.1
  have hG := xg_start hB
  obtain ⟨hx, hb, hml, hown, hts⟩ := id S
  have hl : lv_has ls 4 [(0, .ref (ad b))] := hl
  obtain ⟨Q, hQ⟩ : ∃ Q, Q = MQ below (xg_Ri (fun r : Int32 => r = (ds_clo f 36).1)) ([.ref (ad b)] : List Value).toArray s 0 0 xg_F := ⟨_, rfl⟩
  rw [← hQ]
  have k0 := hts (.fieldLink RX4 18 "DareBridge$Summer" "ties" "[I") (List.mem_of_getElem? (i := 1) rfl)
  have k1 := hts (.initialized RX7) (List.mem_of_getElem? (i := 3) rfl)
  have k2 := hts (.static yX7_at) (List.mem_of_getElem? (i := 2) rfl)
  refine lv_iconst (v := (-1)) hx hb dX4_closest_0 (by decide) ?_
  refine lv_istore_n (lv' := [(1, .int (-1)), (0, .ref (ad b))]) hx hb dX4_closest_1 rfl hl (by decide) rfl (fun ls hl => ?_)
  refine lv_iconst (v := 0) hx hb dX4_closest_2 (by decide) ?_
  refine lv_istore_n (lv' := [(2, .int 0), (1, .int (-1)), (0, .ref (ad b))]) hx hb dX4_closest_3 rfl hl (by decide) rfl (fun ls hl => ?_)
  refine lv_iconst (v := 0) hx hb dX4_closest_4 (by decide) ?_
  refine lv_istore_n (lv' := [(3, .int 0), (2, .int 0), (1, .int (-1)), (0, .ref (ad b))]) hx hb dX4_closest_5 rfl hl (by decide) rfl (fun ls hl => ?_)
  -- the loop at 6
  have lp6 : ∀ (fu : Nat) (k : Nat), (k ≤ 36) → (37 ≤ k + fu) → ∀ y6_1 : Int32, y6_1 = (ds_clo f k).1 → ∀ y6_2 : Int32, y6_2 = (ds_clo f k).2 → ∀ y6_3 : Int32, y6_3 = nI k → ∀ (ls : Array Slot), lv_has ls 4 [(0, .ref (ad b)), (1, .int y6_1), (2, .int y6_2), (3, .int y6_3)] → W pg l en ({ frames := 1, cells := 0, slots := 0, locals := 21 } : Room) s m ([.ref (ad b)] : List Value).toArray below meth c s.heap [] 0 0 Q (F0 m 6 ls []) := by
    intro fu
    induction fu with
    | zero =>
      intro k hk hf
      exact absurd hf (by omega)
    | succ fu ih =>
      intro k hk hf y6_1 ey6_1 y6_2 ey6_2 y6_3 ey6_3
      intro ls hl
      replace ey6_1 := ey6_1.symm; subst ey6_1
      replace ey6_2 := ey6_2.symm; subst ey6_2
      replace ey6_3 := ey6_3.symm; subst ey6_3
      refine lv_iload_n hx hb dX4_closest_6 rfl (lv_at hl 3 rfl) ?_
      refine lv_aload_n hx hb dX4_closest_7 rfl (lv_at hl 0 rfl) ?_
      refine xg_get (C := RX4) (T := TX4) (N := 9) S hK hG (fun w h => List.mem_cons_of_mem _ (List.mem_append_right _ (h))) b hO rfl 1 (by decide) k0 (fun _ h9 => h9) rfl dX4_closest_8 ?_
      refine xg_len S hK hG (b + 14) hR dX4_closest_11 ?_
      refine lv_icmp_ge (tgt := 44) hx hb dX4_closest_12 (by decide) (fun c12 => ?_) (fun c12 => ?_)
      · skip
        have hk9 : k = 36 := by have := xb_le (k := k) (n := 36) (by omega) (by decide) c12; omega
        refine lv_iload_n hx hb dX4_closest_44 rfl (lv_at hl 1 rfl) ?_
        rw [hQ]
        exact xg_eri S hr hlk (by skip; rw [hk9]) dX4_closest_45
      · skip
        have hk9 : k < 36 := xb_lt (by omega) (by decide) c12
        refine lv_aload_n hx hb dX4_closest_15 rfl (lv_at hl 0 rfl) ?_
        refine xg_get (C := RX4) (T := TX4) (N := 9) S hK hG (fun w h => List.mem_cons_of_mem _ (List.mem_append_right _ (h))) b hO rfl 1 (by decide) k0 (fun _ h9 => h9) rfl dX4_closest_16 ?_
        refine lv_iload_n hx hb dX4_closest_19 rfl (lv_at hl 3 rfl) ?_
        refine xg_ri (va_runSN (As := [.ref (ad (b + 14)), .int (nI k)]) (rest := []) S (mX7_at l D cI cZ bs ad ws (b + 14) 36 f hR (nI k) (by decide)) ⟨(va_cnB 2 hts gX4_closest_X7_at_n42 rfl rfl rfl (hK.2.1 _ xg_nest_15) k1 (by decide +kernel) ⟨Nat.le_of_ble_eq_true rfl, Nat.le_of_ble_eq_true rfl⟩), k2, trivial⟩ (xg_preS hK hG) rfl rfl hl.1 rfl (lv_room (Nat.le_of_ble_eq_true rfl)) dX4_closest_20 ⟨Nat.zero_le _, Nat.zero_le _⟩) (fun r1 hr1 => ?_)
        replace hr1 := hr1.symm; subst hr1
        refine lv_iload_n hx hb dX4_closest_23 rfl (lv_at hl 2 rfl) ?_
        refine lv_icmp_le (tgt := 38) hx hb dX4_closest_24 (by decide) (fun c24 => ?_) (fun c24 => ?_)
        · skip
          obtain ⟨x2, ex2⟩ : ∃ zz : Int32, (nI k) + 1 = zz := ⟨_, rfl⟩
          refine lv_iinc (v := x2) (lv' := [(3, .int x2), (0, .ref (ad b)), (1, .int ((ds_clo f k).1)), (2, .int ((ds_clo f k).2))]) hx hb dX4_closest_38 hl (k := 3) rfl (by rw [← ex2]; rfl) (by decide) rfl (fun ls hl => ?_)
          refine lv_goto (tgt := 6) hx hb dX4_closest_41 (by decide) ?_
          exact ih (k + 1) (by omega) (by omega) ((ds_clo f k).1) (by subst ex2; simp only [ds_clo, c12, c24, if_true, if_false]) ((ds_clo f k).2) (by subst ex2; simp only [ds_clo, c12, c24, if_true, if_false]) x2 (by subst ex2; exact nI_1 k) ls (lv_sub hl [1, 2, 3, 0] rfl)
        · skip
          refine lv_aload_n hx hb dX4_closest_27 rfl (lv_at hl 0 rfl) ?_
          refine xg_get (C := RX4) (T := TX4) (N := 9) S hK hG (fun w h => List.mem_cons_of_mem _ (List.mem_append_right _ (h))) b hO rfl 1 (by decide) k0 (fun _ h9 => h9) rfl dX4_closest_28 ?_
          refine lv_iload_n hx hb dX4_closest_31 rfl (lv_at hl 3 rfl) ?_
          refine xg_ri (va_runSN (As := [.ref (ad (b + 14)), .int (nI k)]) (rest := []) S (mX7_at l D cI cZ bs ad ws (b + 14) 36 f hR (nI k) (by decide)) ⟨(va_cnB 2 hts gX4_closest_X7_at_n42 rfl rfl rfl (hK.2.1 _ xg_nest_15) k1 (by decide +kernel) ⟨Nat.le_of_ble_eq_true rfl, Nat.le_of_ble_eq_true rfl⟩), k2, trivial⟩ (xg_preS hK hG) rfl rfl hl.1 rfl (lv_room (Nat.le_of_ble_eq_true rfl)) dX4_closest_32 ⟨Nat.zero_le _, Nat.zero_le _⟩) (fun r3 hr3 => ?_)
          replace hr3 := hr3.symm; subst hr3
          refine lv_topi (fun x4 ex4 => ?_)
          replace ex4 := ex4.symm
          refine lv_istore_n (lv' := [(2, .int x4), (0, .ref (ad b)), (1, .int ((ds_clo f k).1)), (3, .int (nI k))]) hx hb dX4_closest_35 rfl hl (by decide) rfl (fun ls hl => ?_)
          refine lv_iload_n hx hb dX4_closest_36 rfl (lv_at hl 3 rfl) ?_
          refine lv_istore_n (lv' := [(1, .int (nI k)), (2, .int x4), (0, .ref (ad b)), (3, .int (nI k))]) hx hb dX4_closest_37 rfl hl (by decide) rfl (fun ls hl => ?_)
          obtain ⟨x5, ex5⟩ : ∃ zz : Int32, (nI k) + 1 = zz := ⟨_, rfl⟩
          refine lv_iinc (v := x5) (lv' := [(3, .int x5), (1, .int (nI k)), (2, .int x4), (0, .ref (ad b))]) hx hb dX4_closest_38 hl (k := 3) rfl (by rw [← ex5]; rfl) (by decide) rfl (fun ls hl => ?_)
          refine lv_goto (tgt := 6) hx hb dX4_closest_41 (by decide) ?_
          exact ih (k + 1) (by omega) (by omega) (nI k) (by subst ex4 ex5; simp only [ds_clo, c12, c24, if_true, if_false]) x4 (by subst ex4 ex5; simp only [ds_clo, c12, c24, if_true, if_false]) x5 (by subst ex4 ex5; exact nI_1 k) ls (lv_sub hl [3, 1, 2, 0] rfl)
  exact lp6 37 0 (by omega) (by omega) (-1) (by skip; rfl) 0 (by skip; rfl) 0 (by skip; rfl) ls (lv_sub hl [3, 2, 1, 0] rfl)
