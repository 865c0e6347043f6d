set_option maxHeartbeats 4000000 in
set_option maxRecDepth 100000 in
theorem mX7_done (l : Launch) (D : va_G) (cI cZ : ClassId) (bs : Nat) (ad : Nat → Nat) (ws : va_W) (b : Nat) (fk : Int32) (sk : Int32) (hO : ws[b]? = some (ad b, .inr (7, [.ref (ad (b + 1)), .ref (ad (b + 14)), .ref (ad (b + 27)), .int fk, .int sk, .ref (ad (b + 40)), .ref (ad (b + 42)), .ref (ad (b + 58)), .ref (ad (b + 60)), .ref (ad (b + 61))]))) (T : Nat → Nat → Int32) (hT : xv_T cI ad ws (b + 1) T) (n : Int32) (hPo : ws[b + 40]? = some (ad (b + 40), .inr (3, [.ref (ad (b + 41)), .int n]))) (g : Nat → Int32) (hP : ws[b + 41]? = some (ad (b + 41), .inl (cI, 60, .inl g))) (ev : Int32) (wh : Int32) (dn : Int32) (rf : Int32) (db : Int32) (he : Int32) (hSo : ws[b + 42]? = some (ad (b + 42), .inr (4, [.ref (ad (b + 43)), .ref (ad (b + 56)), .ref (ad (b + 57)), .int ev, .int wh, .int dn, .int rf, .int db, .int he]))) (TA : Nat → Nat → Int32) (hA : xv_T cI ad ws (b + 43) TA) (f : Nat → Int32) (hTi : ws[b + 56]? = some (ad (b + 56), .inl (cI, 36, .inl f))) (u : Int64) (v : Int64) (hCh : ws[b + 57]? = some (ad (b + 57), .inr (0, [.long u, .long v]))) (TF : Nat → Nat → Int32) (hF : xv_T cI ad ws (b + 14) TF) (TS : Nat → Nat → Int32) (hSd : xv_T cI ad ws (b + 27) TS) (nn : Nat) (hnn : n = nI nn) (hn60 : nn ≤ 60) : Met l yX7_done wsX7_done ({ frames := 6, cells := 0, slots := 0, locals := 139 } : Room) (va_Pc [.ref (ad b)] (fun U => xg_W D cI cZ bs ws U)) (va_Qi (fun (r : Int32) (w : va_W) => r = dj_don (dk_ret T g nn) (dk_ply T g nn (ev, wh, (TA, f, (he, u, v), (dn, rf, db)))) ∧ w[b]? = some (ad b, .inr (7, [.ref (ad (b + 1)), .ref (ad (b + 14)), .ref (ad (b + 27)), .int fk, .int sk, .ref (ad (b + 40)), .ref (ad (b + 42)), .ref (ad (b + 58)), .ref (ad (b + 60)), .ref (ad (b + 61))])) ∧ xv_T cI ad w (b + 1) (dj_donT T (dk_ret T g nn) (dk_ply T g nn (ev, wh, (TA, f, (he, u, v), (dn, rf, db))))) ∧ w[b + 40]? = some (ad (b + 40), .inr (3, [.ref (ad (b + 41)), .int (dj_donN n (dk_ret T g nn))])) ∧ w[b + 41]? = some (ad (b + 41), .inl (cI, 60, .inl g)) ∧ w[b + 42]? = some (ad (b + 42), .inr (4, [.ref (ad (b + 43)), .ref (ad (b + 56)), .ref (ad (b + 57)), .int ((dk_ply T g nn (ev, wh, (TA, f, (he, u, v), (dn, rf, db)))).1), .int ((dk_ply T g nn (ev, wh, (TA, f, (he, u, v), (dn, rf, db)))).2.1), .int ((dk_ply T g nn (ev, wh, (TA, f, (he, u, v), (dn, rf, db)))).2.2.2.2.2.1), .int ((dk_ply T g nn (ev, wh, (TA, f, (he, u, v), (dn, rf, db)))).2.2.2.2.2.2.1), .int ((dk_ply T g nn (ev, wh, (TA, f, (he, u, v), (dn, rf, db)))).2.2.2.2.2.2.2), .int ((dk_ply T g nn (ev, wh, (TA, f, (he, u, v), (dn, rf, db)))).2.2.2.2.1.1)])) ∧ xv_T cI ad w (b + 43) ((dk_ply T g nn (ev, wh, (TA, f, (he, u, v), (dn, rf, db)))).2.2.1) ∧ w[b + 56]? = some (ad (b + 56), .inl (cI, 36, .inl ((dk_ply T g nn (ev, wh, (TA, f, (he, u, v), (dn, rf, db)))).2.2.2.1))) ∧ w[b + 57]? = some (ad (b + 57), .inr (0, [.long ((dk_ply T g nn (ev, wh, (TA, f, (he, u, v), (dn, rf, db)))).2.2.2.2.1.2.1), .long ((dk_ply T g nn (ev, wh, (TA, f, (he, u, v), (dn, rf, db)))).2.2.2.2.1.2.2)])) ∧ xv_T cI ad w (b + 14) TF ∧ xv_T cI ad w (b + 27) TS ∧ xv_S ws w (b + 1) 57) (fun w t => xg_W D cI cZ bs w t) (xg_A bs)) 0 0 (xg_A bs) := by
  refine xg_met cX7_done 2 (some .int) RX7 (by decide) rfl rfl (Nat.le_of_ble_eq_true rfl) ?_
  intro pg en s m below meth c ls S hr hlk hnm hB hl
  have hK := hB.1
  have hG := xg_start hB
  obtain ⟨hx, hb, hml, hown, hts⟩ := id S
  have hl : lv_has ls 2 [(0, .ref (ad b))] := hl
  obtain ⟨Q, hQ⟩ : ∃ Q, Q = MQ below (va_Qi (fun (r : Int32) (w : va_W) => r = dj_don (dk_ret T g nn) (dk_ply T g nn (ev, wh, (TA, f, (he, u, v), (dn, rf, db)))) ∧ w[b]? = some (ad b, .inr (7, [.ref (ad (b + 1)), .ref (ad (b + 14)), .ref (ad (b + 27)), .int fk, .int sk, .ref (ad (b + 40)), .ref (ad (b + 42)), .ref (ad (b + 58)), .ref (ad (b + 60)), .ref (ad (b + 61))])) ∧ xv_T cI ad w (b + 1) (dj_donT T (dk_ret T g nn) (dk_ply T g nn (ev, wh, (TA, f, (he, u, v), (dn, rf, db))))) ∧ w[b + 40]? = some (ad (b + 40), .inr (3, [.ref (ad (b + 41)), .int (dj_donN n (dk_ret T g nn))])) ∧ w[b + 41]? = some (ad (b + 41), .inl (cI, 60, .inl g)) ∧ w[b + 42]? = some (ad (b + 42), .inr (4, [.ref (ad (b + 43)), .ref (ad (b + 56)), .ref (ad (b + 57)), .int ((dk_ply T g nn (ev, wh, (TA, f, (he, u, v), (dn, rf, db)))).1), .int ((dk_ply T g nn (ev, wh, (TA, f, (he, u, v), (dn, rf, db)))).2.1), .int ((dk_ply T g nn (ev, wh, (TA, f, (he, u, v), (dn, rf, db)))).2.2.2.2.2.1), .int ((dk_ply T g nn (ev, wh, (TA, f, (he, u, v), (dn, rf, db)))).2.2.2.2.2.2.1), .int ((dk_ply T g nn (ev, wh, (TA, f, (he, u, v), (dn, rf, db)))).2.2.2.2.2.2.2), .int ((dk_ply T g nn (ev, wh, (TA, f, (he, u, v), (dn, rf, db)))).2.2.2.2.1.1)])) ∧ xv_T cI ad w (b + 43) ((dk_ply T g nn (ev, wh, (TA, f, (he, u, v), (dn, rf, db)))).2.2.1) ∧ w[b + 56]? = some (ad (b + 56), .inl (cI, 36, .inl ((dk_ply T g nn (ev, wh, (TA, f, (he, u, v), (dn, rf, db)))).2.2.2.1))) ∧ w[b + 57]? = some (ad (b + 57), .inr (0, [.long ((dk_ply T g nn (ev, wh, (TA, f, (he, u, v), (dn, rf, db)))).2.2.2.2.1.2.1), .long ((dk_ply T g nn (ev, wh, (TA, f, (he, u, v), (dn, rf, db)))).2.2.2.2.1.2.2)])) ∧ xv_T cI ad w (b + 14) TF ∧ xv_T cI ad w (b + 27) TS ∧ xv_S ws w (b + 1) 57) (fun w t => xg_W D cI cZ bs w t) (xg_A bs)) ([.ref (ad b)] : List Value).toArray s 0 0 (xg_A bs) := ⟨_, rfl⟩
  rw [← hQ]
  have k0 := hts (.fieldLink RX7 10 "DareBridge" "now" "LDareBridge$Town;") (List.mem_of_getElem? (i := 1) rfl)
  have k1 := hts (.fieldLink RX7 39 "DareBridge" "summer" "LDareBridge$Summer;") (List.mem_of_getElem? (i := 2) rfl)
  have k2 := hts (.fieldLink RX7 146 "DareBridge$Summer" "after" "LDareBridge$Town;") (List.mem_of_getElem? (i := 3) rfl)
  have k3 := hts (.fieldLink RX7 32 "DareBridge" "pad" "LDareBridge$Pad;") (List.mem_of_getElem? (i := 4) rfl)
  have k4 := hts (.fieldLink RX7 127 "DareBridge$Summer" "events" "I") (List.mem_of_getElem? (i := 5) rfl)
  refine lv_aload_n hx hb dX7_done_0 rfl (lv_at hl 0 rfl) ?_
  refine xg_mi (va_runV (As := []) (rest := []) S (mX7_playSummer l D cI cZ bs ad ws b fk sk hO T hT n hPo g hP ev wh dn rf db he hSo TA hA f hTi u v hCh nn (by first | assumption | omega) (by first | assumption | omega)) (cwV 0 hts gX7_done_X7_playSummer rfl rfl rfl (by decide +kernel) ⟨Nat.le_of_ble_eq_true rfl, Nat.le_of_ble_eq_true rfl⟩) (xg_preV hK hG b hO rfl rfl) rfl rfl hl.1 rfl (lv_room (Nat.le_of_ble_eq_true rfl)) dX7_done_1 ⟨Nat.zero_le _, Nat.zero_le _⟩) hG (fun r1 w2 H locs hr1 hG => ?_)
  obtain ⟨hr1, hvw2_0, hvw2_1, hvw2_2, hvw2_3, hvw2_4, hvw2_5, hvw2_6, hvw2_7, hsw2⟩ := hr1
  replace hr1 := hr1.symm; subst hr1
  have hO : w2[b]? = some (ad b, .inr (7, [.ref (ad (b + 1)), .ref (ad (b + 14)), .ref (ad (b + 27)), .int fk, .int sk, .ref (ad (b + 40)), .ref (ad (b + 42)), .ref (ad (b + 58)), .ref (ad (b + 60)), .ref (ad (b + 61))])) := hvw2_0
  have hT : xv_T cI ad w2 (b + 1) T := hvw2_1
  have hPo : w2[b + 40]? = some (ad (b + 40), .inr (3, [.ref (ad (b + 41)), .int n])) := hvw2_2
  have hP : w2[b + 41]? = some (ad (b + 41), .inl (cI, 60, .inl g)) := hvw2_3
  have hSo : w2[b + 42]? = some (ad (b + 42), .inr (4, [.ref (ad (b + 43)), .ref (ad (b + 56)), .ref (ad (b + 57)), .int ((dk_ply T g nn (ev, wh, (TA, f, (he, u, v), (dn, rf, db)))).1), .int ((dk_ply T g nn (ev, wh, (TA, f, (he, u, v), (dn, rf, db)))).2.1), .int ((dk_ply T g nn (ev, wh, (TA, f, (he, u, v), (dn, rf, db)))).2.2.2.2.2.1), .int ((dk_ply T g nn (ev, wh, (TA, f, (he, u, v), (dn, rf, db)))).2.2.2.2.2.2.1), .int ((dk_ply T g nn (ev, wh, (TA, f, (he, u, v), (dn, rf, db)))).2.2.2.2.2.2.2), .int ((dk_ply T g nn (ev, wh, (TA, f, (he, u, v), (dn, rf, db)))).2.2.2.2.1.1)])) := hvw2_4
  obtain ⟨x3, ex3⟩ : ∃ zz : Int32, ((dk_ply T g nn (ev, wh, (TA, f, (he, u, v), (dn, rf, db)))).1) = zz := ⟨_, rfl⟩
  rw [ex3] at hSo
  obtain ⟨x4, ex4⟩ : ∃ zz : Int32, ((dk_ply T g nn (ev, wh, (TA, f, (he, u, v), (dn, rf, db)))).2.1) = zz := ⟨_, rfl⟩
  rw [ex4] at hSo
  obtain ⟨x5, ex5⟩ : ∃ zz : Int32, ((dk_ply T g nn (ev, wh, (TA, f, (he, u, v), (dn, rf, db)))).2.2.2.2.2.1) = zz := ⟨_, rfl⟩
  rw [ex5] at hSo
  obtain ⟨x6, ex6⟩ : ∃ zz : Int32, ((dk_ply T g nn (ev, wh, (TA, f, (he, u, v), (dn, rf, db)))).2.2.2.2.2.2.1) = zz := ⟨_, rfl⟩
  rw [ex6] at hSo
  obtain ⟨x7, ex7⟩ : ∃ zz : Int32, ((dk_ply T g nn (ev, wh, (TA, f, (he, u, v), (dn, rf, db)))).2.2.2.2.2.2.2) = zz := ⟨_, rfl⟩
  rw [ex7] at hSo
  obtain ⟨x8, ex8⟩ : ∃ zz : Int32, ((dk_ply T g nn (ev, wh, (TA, f, (he, u, v), (dn, rf, db)))).2.2.2.2.1.1) = zz := ⟨_, rfl⟩
  rw [ex8] at hSo
  have hA : xv_T cI ad w2 (b + 43) ((dk_ply T g nn (ev, wh, (TA, f, (he, u, v), (dn, rf, db)))).2.2.1) := hvw2_5
  obtain ⟨T9, eT9⟩ : ∃ zz : Nat → Nat → Int32, ((dk_ply T g nn (ev, wh, (TA, f, (he, u, v), (dn, rf, db)))).2.2.1) = zz := ⟨_, rfl⟩
  rw [eT9] at hA
  have hCh : w2[b + 57]? = some (ad (b + 57), .inr (0, [.long ((dk_ply T g nn (ev, wh, (TA, f, (he, u, v), (dn, rf, db)))).2.2.2.2.1.2.1), .long ((dk_ply T g nn (ev, wh, (TA, f, (he, u, v), (dn, rf, db)))).2.2.2.2.1.2.2)])) := hvw2_7
  obtain ⟨x10, ex10⟩ : ∃ zz : Int64, ((dk_ply T g nn (ev, wh, (TA, f, (he, u, v), (dn, rf, db)))).2.2.2.2.1.2.1) = zz := ⟨_, rfl⟩
  rw [ex10] at hCh
  obtain ⟨x11, ex11⟩ : ∃ zz : Int64, ((dk_ply T g nn (ev, wh, (TA, f, (he, u, v), (dn, rf, db)))).2.2.2.2.1.2.2) = zz := ⟨_, rfl⟩
  rw [ex11] at hCh
  obtain ⟨f12, ef12⟩ : ∃ zz : Nat → Int32, ((dk_ply T g nn (ev, wh, (TA, f, (he, u, v), (dn, rf, db)))).2.2.2.1) = zz := ⟨_, rfl⟩
  have hTi : w2[b + 56]? = some (ad (b + 56), .inl (cI, 36, .inl f12)) := by rw [← ef12]; exact hvw2_6
  have hF : xv_T cI ad w2 (b + 14) TF := hF.of_S hsw2 (by omega)
  have hSd : xv_T cI ad w2 (b + 27) TS := hSd.of_S hsw2 (by omega)
  have hSw2 : xv_S ws w2 (b + 1) 57 := hsw2.mono (by omega) (by omega)
  refine lv_topi (fun x13 ex13 => ?_)
  replace ex13 := ex13.symm
  refine lv_istore_n (lv' := [(1, .int x13), (0, .ref (ad b))]) hx hb dX7_done_4 rfl hl (by decide) rfl (fun ls hl => ?_)
  refine lv_iload_n hx hb dX7_done_5 rfl (lv_at hl 0 rfl) ?_
  refine lv_if_eq (tgt := 11) hx hb dX7_done_6 (by decide) (fun c6 => ?_) (fun c6 => ?_)
  · skip
    refine lv_aload_n hx hb dX7_done_11 rfl (lv_at hl 1 rfl) ?_
    refine xg_get (C := RX7) (T := TX7) (N := 10) S hK hG (fun w h => List.mem_cons_of_mem _ (List.mem_append_left _ (List.mem_append_left _ (List.mem_append_left _ (List.mem_append_left _ (List.mem_append_right _ (h))))))) b hO rfl 0 (by decide) k0 (fun _ h9 => h9) rfl dX7_done_12 ?_
    refine lv_aload_n hx hb dX7_done_15 rfl (lv_at hl 1 rfl) ?_
    refine xg_get (C := RX7) (T := TX7) (N := 10) S hK hG (fun w h => List.mem_cons_of_mem _ (List.mem_append_left _ (List.mem_append_left _ (List.mem_append_left _ (List.mem_append_left _ (List.mem_append_right _ (h))))))) b hO rfl 6 (by decide) k1 (fun _ h9 => h9) rfl dX7_done_16 ?_
    refine xg_get (C := RX4) (T := TX4) (N := 9) S hK hG (fun w h => List.mem_cons_of_mem _ (List.mem_append_left _ (List.mem_append_left _ (List.mem_append_left _ (List.mem_append_right _ (h)))))) (b + 42) hSo rfl 0 (by decide) k2 (fun _ h9 => h9) rfl dX7_done_19 ?_
    refine xg_mv (va_runV (As := [.ref (ad (b + 43))]) (rest := []) S (mX5_copyFrom l D cI cZ bs ad w2 (b + 1) (b + 43) T hT T9 hA (by omega)) (cwV 1 hts gX7_done_X5_copyFrom rfl rfl rfl (by decide +kernel) ⟨Nat.le_of_ble_eq_true rfl, Nat.le_of_ble_eq_true rfl⟩) (xg_preV hK hG (b + 1) hT.1 rfl rfl) rfl rfl hl.1 rfl (lv_room (Nat.le_of_ble_eq_true rfl)) dX7_done_22 ⟨Nat.zero_le _, Nat.zero_le _⟩) hG (fun w15 H locs hr14 hG => ?_)
    obtain ⟨hvw15_0, hvw15_1, hsw15⟩ := hr14
    have hT : xv_T cI ad w15 (b + 1) T9 := hvw15_0
    have hA : xv_T cI ad w15 (b + 43) T9 := hvw15_1
    have hO : w15[b]? = some (ad b, .inr (7, [.ref (ad (b + 1)), .ref (ad (b + 14)), .ref (ad (b + 27)), .int fk, .int sk, .ref (ad (b + 40)), .ref (ad (b + 42)), .ref (ad (b + 58)), .ref (ad (b + 60)), .ref (ad (b + 61))])) := hsw15.at hO (by omega)
    have hPo : w15[b + 40]? = some (ad (b + 40), .inr (3, [.ref (ad (b + 41)), .int n])) := hsw15.at hPo (by omega)
    have hP : w15[b + 41]? = some (ad (b + 41), .inl (cI, 60, .inl g)) := hsw15.at hP (by omega)
    have hSo : w15[b + 42]? = some (ad (b + 42), .inr (4, [.ref (ad (b + 43)), .ref (ad (b + 56)), .ref (ad (b + 57)), .int x3, .int x4, .int x5, .int x6, .int x7, .int x8])) := hsw15.at hSo (by omega)
    have hTi : w15[b + 56]? = some (ad (b + 56), .inl (cI, 36, .inl f12)) := hsw15.at hTi (by omega)
    have hCh : w15[b + 57]? = some (ad (b + 57), .inr (0, [.long x10, .long x11])) := hsw15.at hCh (by omega)
    have hF : xv_T cI ad w15 (b + 14) TF := hF.of_S hsw15 (by omega)
    have hSd : xv_T cI ad w15 (b + 27) TS := hSd.of_S hsw15 (by omega)
    have hSw15 : xv_S ws w15 (b + 1) 57 := hSw2.trans (hsw15.mono (by omega) (by omega))
    refine lv_aload_n hx hb dX7_done_25 rfl (lv_at hl 1 rfl) ?_
    refine xg_get (C := RX7) (T := TX7) (N := 10) S hK hG (fun w h => List.mem_cons_of_mem _ (List.mem_append_left _ (List.mem_append_left _ (List.mem_append_left _ (List.mem_append_left _ (List.mem_append_right _ (h))))))) b hO rfl 5 (by decide) k3 (fun _ h9 => h9) rfl dX7_done_26 ?_
    refine xg_mv (va_runV (As := []) (rest := []) S (mX3_clear l D cI cZ bs ad w15 (b + 40) n hPo g hP) (cwV 0 hts gX7_done_X3_clear rfl rfl rfl (by decide +kernel) ⟨Nat.le_of_ble_eq_true rfl, Nat.le_of_ble_eq_true rfl⟩) (xg_preV hK hG (b + 40) hPo rfl rfl) rfl rfl hl.1 rfl (lv_room (Nat.le_of_ble_eq_true rfl)) dX7_done_29 ⟨Nat.zero_le _, Nat.zero_le _⟩) hG (fun w17 H locs hr16 hG => ?_)
    obtain ⟨hvw17_0, hvw17_1, hsw17⟩ := hr16
    have hPo : w17[b + 40]? = some (ad (b + 40), .inr (3, [.ref (ad (b + 41)), .int 0])) := hvw17_0
    have hP : w17[b + 41]? = some (ad (b + 41), .inl (cI, 60, .inl g)) := hvw17_1
    have hO : w17[b]? = some (ad b, .inr (7, [.ref (ad (b + 1)), .ref (ad (b + 14)), .ref (ad (b + 27)), .int fk, .int sk, .ref (ad (b + 40)), .ref (ad (b + 42)), .ref (ad (b + 58)), .ref (ad (b + 60)), .ref (ad (b + 61))])) := hsw17.at hO (by omega)
    have hT : xv_T cI ad w17 (b + 1) T9 := hT.of_S hsw17 (by omega)
    have hSo : w17[b + 42]? = some (ad (b + 42), .inr (4, [.ref (ad (b + 43)), .ref (ad (b + 56)), .ref (ad (b + 57)), .int x3, .int x4, .int x5, .int x6, .int x7, .int x8])) := hsw17.at hSo (by omega)
    have hA : xv_T cI ad w17 (b + 43) T9 := hA.of_S hsw17 (by omega)
    have hTi : w17[b + 56]? = some (ad (b + 56), .inl (cI, 36, .inl f12)) := hsw17.at hTi (by omega)
    have hCh : w17[b + 57]? = some (ad (b + 57), .inr (0, [.long x10, .long x11])) := hsw17.at hCh (by omega)
    have hF : xv_T cI ad w17 (b + 14) TF := hF.of_S hsw17 (by omega)
    have hSd : xv_T cI ad w17 (b + 27) TS := hSd.of_S hsw17 (by omega)
    have hSw17 : xv_S ws w17 (b + 1) 57 := hSw15.trans (hsw17.mono (by omega) (by omega))
    refine lv_aload_n hx hb dX7_done_32 rfl (lv_at hl 1 rfl) ?_
    refine xg_get (C := RX7) (T := TX7) (N := 10) S hK hG (fun w h => List.mem_cons_of_mem _ (List.mem_append_left _ (List.mem_append_left _ (List.mem_append_left _ (List.mem_append_left _ (List.mem_append_right _ (h))))))) b hO rfl 6 (by decide) k1 (fun _ h9 => h9) rfl dX7_done_33 ?_
    refine xg_get (C := RX4) (T := TX4) (N := 9) S hK hG (fun w h => List.mem_cons_of_mem _ (List.mem_append_left _ (List.mem_append_left _ (List.mem_append_left _ (List.mem_append_right _ (h)))))) (b + 42) hSo rfl 3 (by decide) k4 (fun _ h9 => h9) rfl dX7_done_36 ?_
    have hfin : (dk_ply T g nn (ev, wh, (TA, f, (he, u, v), (dn, rf, db)))) = (x3, x4, (T9, f12, (x8, x10, x11), (x5, x6, x7))) := by subst ex3 ex4 ex5 ex6 ex7 ex8 eT9 ex10 ex11 ef12 ex13; rfl
    have hfT : dj_donT T (dk_ret T g nn) (dk_ply T g nn (ev, wh, (TA, f, (he, u, v), (dn, rf, db)))) = T9 := by subst ex3 ex4 ex5 ex6 ex7 ex8 eT9 ex10 ex11 ef12 ex13; exact if_pos c6
    have hfN : dj_donN n (dk_ret T g nn) = 0 := by subst ex3 ex4 ex5 ex6 ex7 ex8 eT9 ex10 ex11 ef12 ex13; exact if_pos c6
    rw [hQ]
    exact xg_emi S hr hlk hK hG ⟨(by subst ex3 ex4 ex5 ex6 ex7 ex8 eT9 ex10 ex11 ef12 ex13; simp only [dj_don, c6, if_true, if_false, Bool.false_eq_true]), hO, (by rw [hfT]; exact hT), (by rw [hfN]; exact hPo), hP, (by rw [hfin]; exact hSo), (by rw [hfin]; exact hA), (by rw [hfin]; exact hTi), (by rw [hfin]; exact hCh), hF, hSd, hSw17⟩ dX7_done_39
  · skip
    refine lv_iload_n hx hb dX7_done_9 rfl (lv_at hl 0 rfl) ?_
    have hfin : (dk_ply T g nn (ev, wh, (TA, f, (he, u, v), (dn, rf, db)))) = (x3, x4, (T9, f12, (x8, x10, x11), (x5, x6, x7))) := by subst ex3 ex4 ex5 ex6 ex7 ex8 eT9 ex10 ex11 ef12 ex13; rfl
    have hfT : dj_donT T (dk_ret T g nn) (dk_ply T g nn (ev, wh, (TA, f, (he, u, v), (dn, rf, db)))) = T := by subst ex3 ex4 ex5 ex6 ex7 ex8 eT9 ex10 ex11 ef12 ex13; exact if_neg c6
    have hfN : dj_donN n (dk_ret T g nn) = n := by subst ex3 ex4 ex5 ex6 ex7 ex8 eT9 ex10 ex11 ef12 ex13; exact if_neg c6
    rw [hQ]
    exact xg_emi S hr hlk hK hG ⟨(by subst ex3 ex4 ex5 ex6 ex7 ex8 eT9 ex10 ex11 ef12 ex13; simp only [dj_don, c6, if_true, if_false, Bool.false_eq_true]), hO, (by rw [hfT]; exact hT), (by rw [hfN]; exact hPo), hP, (by rw [hfin]; exact hSo), (by rw [hfin]; exact hA), (by rw [hfin]; exact hTi), (by rw [hfin]; exact hCh), hF, hSd, hSw2⟩ dX7_done_10
set_option maxHeartbeats 4000000 in
set_option maxRecDepth 100000 in
theorem mX7_odds (l : Launch) (D : va_G) (cI cZ : ClassId) (bs : Nat) (ad : Nat → Nat) (ws : va_W) (b : Nat) (fk : Int32) (sk : Int32) (hO : ws[b]? = some (ad b, .inr (7, [.ref (ad (b + 1)), .ref (ad (b + 14)), .ref (ad (b + 27)), .int fk, .int sk, .ref (ad (b + 40)), .ref (ad (b + 42)), .ref (ad (b + 58)), .ref (ad (b + 60)), .ref (ad (b + 61))]))) (T : Nat → Nat → Int32) (hT : xv_T cI ad ws (b + 1) T) (p : Int32) (y : Int32) : Met l yX7_odds wsX7_odds ({ frames := 3, cells := 0, slots := 0, locals := 64 } : Room) (va_Pc [.ref (ad b), .int p, .int y] (fun U => xg_W D cI cZ bs ws U)) (xg_Ri (fun r : Int32 => r = dj_odd T p y)) 0 0 xg_F := by
  refine xg_met cX7_odds 4 (some .int) RX7 (by decide) rfl rfl (Nat.le_of_ble_eq_true rfl) ?_
  intro pg en s m below meth c ls S hr hlk hnm hB hl
  have hK := hB.1
  have hG := xg_start hB
  obtain ⟨hx, hb, hml, hown, hts⟩ := id S
  have hl : lv_has ls 4 [(0, .ref (ad b)), (1, .int p), (2, .int y)] := hl
  obtain ⟨Q, hQ⟩ : ∃ Q, Q = MQ below (xg_Ri (fun r : Int32 => r = dj_odd T p y)) ([.ref (ad b), .int p, .int y] : List Value).toArray s 0 0 xg_F := ⟨_, rfl⟩
  rw [← hQ]
  have k0 := hts (.fieldLink RX7 10 "DareBridge" "now" "LDareBridge$Town;") (List.mem_of_getElem? (i := 1) rfl)
  refine lv_aload_n hx hb dX7_odds_0 rfl (lv_at hl 0 rfl) ?_
  refine lv_iload_n hx hb dX7_odds_1 rfl (lv_at hl 1 rfl) ?_
  refine lv_iload_n hx hb dX7_odds_2 rfl (lv_at hl 2 rfl) ?_
  refine xg_ri (va_runV (As := [.int p, .int y]) (rest := []) S (mX7_refusalOfHeight l D cI cZ bs ad ws b fk sk hO T hT p y) (cwV 2 hts gX7_odds_X7_refusalOfHeight rfl rfl rfl (by decide +kernel) ⟨Nat.le_of_ble_eq_true rfl, Nat.le_of_ble_eq_true rfl⟩) (xg_preV hK hG b hO rfl rfl) rfl rfl hl.1 rfl (lv_room (Nat.le_of_ble_eq_true rfl)) dX7_odds_3 ⟨Nat.zero_le _, Nat.zero_le _⟩) (fun r1 hr1 => ?_)
  replace hr1 := hr1.symm; subst hr1
  refine lv_topi (fun x2 ex2 => ?_)
  replace ex2 := ex2.symm
  refine lv_istore_n (lv' := [(3, .int x2), (0, .ref (ad b)), (1, .int p), (2, .int y)]) hx hb dX7_odds_6 rfl hl (by decide) rfl (fun ls hl => ?_)
  refine lv_iload_n hx hb dX7_odds_7 rfl (lv_at hl 0 rfl) ?_
  refine lv_if_eq (tgt := 15) hx hb dX7_odds_8 (by decide) (fun c8 => ?_) (fun c8 => ?_)
  · skip
    refine lv_aload_n hx hb dX7_odds_15 rfl (lv_at hl 1 rfl) ?_
    refine xg_get (C := RX7) (T := TX7) (N := 10) S hK hG (fun w h => List.mem_cons_of_mem _ (List.mem_append_left _ (List.mem_append_right _ (h)))) b hO rfl 0 (by decide) k0 (fun _ h9 => h9) rfl dX7_odds_16 ?_
    refine lv_iload_n hx hb dX7_odds_19 rfl (lv_at hl 2 rfl) ?_
    refine lv_iload_n hx hb dX7_odds_20 rfl (lv_at hl 3 rfl) ?_
    refine xg_ri (va_runV (As := [.int p, .int y]) (rest := []) S (mX5_oddsOf l D cI cZ bs ad ws (b + 1) T hT p y) (cwV 2 hts gX7_odds_X5_oddsOf rfl rfl rfl (by decide +kernel) ⟨Nat.le_of_ble_eq_true rfl, Nat.le_of_ble_eq_true rfl⟩) (xg_preV hK hG (b + 1) hT.1 rfl rfl) rfl rfl hl.1 rfl (lv_room (Nat.le_of_ble_eq_true rfl)) dX7_odds_21 ⟨Nat.zero_le _, Nat.zero_le _⟩) (fun r3 hr3 => ?_)
    replace hr3 := hr3.symm; subst hr3
    rw [hQ]
    exact xg_eri S hr hlk (by subst ex2; simp only [dj_odd, c8, if_true, if_false, Bool.false_eq_true]) dX7_odds_24
  · skip
    refine lv_iload_n hx hb dX7_odds_11 rfl (lv_at hl 0 rfl) ?_
    refine lv_goto (tgt := 24) hx hb dX7_odds_12 (by decide) ?_
    rw [hQ]
    exact xg_eri S hr hlk (by subst ex2; simp only [dj_odd, c8, if_true, if_false, Bool.false_eq_true]) dX7_odds_24
set_option maxHeartbeats 4000000 in
set_option maxRecDepth 100000 in
theorem mX7_worth (l : Launch) (D : va_G) (cI cZ : ClassId) (bs : Nat) (ad : Nat → Nat) (ws : va_W) (b : Nat) (fk : Int32) (sk : Int32) (hO : ws[b]? = some (ad b, .inr (7, [.ref (ad (b + 1)), .ref (ad (b + 14)), .ref (ad (b + 27)), .int fk, .int sk, .ref (ad (b + 40)), .ref (ad (b + 42)), .ref (ad (b + 58)), .ref (ad (b + 60)), .ref (ad (b + 61))]))) (T : Nat → Nat → Int32) (hT : xv_T cI ad ws (b + 1) T) (p : Int32) (y : Int32) (w9 : Int32) : Met l yX7_worth wsX7_worth ({ frames := 3, cells := 0, slots := 0, locals := 71 } : Room) (va_Pc [.ref (ad b), .int p, .int y, .int w9] (fun U => xg_W D cI cZ bs ws U)) (xg_Ri (fun r : Int32 => r = dj_wor T p y w9)) 0 0 xg_F := by
  refine xg_met cX7_worth 6 (some .int) RX7 (by decide) rfl rfl (Nat.le_of_ble_eq_true rfl) ?_
  intro pg en s m below meth c ls S hr hlk hnm hB hl
  have hK := hB.1
  have hG := xg_start hB
  obtain ⟨hx, hb, hml, hown, hts⟩ := id S
  have hl : lv_has ls 6 [(0, .ref (ad b)), (1, .int p), (2, .int y), (3, .int w9)] := hl
  obtain ⟨Q, hQ⟩ : ∃ Q, Q = MQ below (xg_Ri (fun r : Int32 => r = dj_wor T p y w9)) ([.ref (ad b), .int p, .int y, .int w9] : List Value).toArray s 0 0 xg_F := ⟨_, rfl⟩
  rw [← hQ]
  have k0 := hts (.fieldLink RX7 10 "DareBridge" "now" "LDareBridge$Town;") (List.mem_of_getElem? (i := 1) rfl)
  have k1 := hts (.constant RX7 187 (1000000)) (List.mem_of_getElem? (i := 2) rfl)
  refine lv_aload_n hx hb dX7_worth_0 rfl (lv_at hl 0 rfl) ?_
  refine lv_iload_n hx hb dX7_worth_1 rfl (lv_at hl 1 rfl) ?_
  refine lv_iload_n hx hb dX7_worth_2 rfl (lv_at hl 2 rfl) ?_
  refine xg_ri (va_runV (As := [.int p, .int y]) (rest := []) S (mX7_refusalOfHeight l D cI cZ bs ad ws b fk sk hO T hT p y) (cwV 2 hts gX7_worth_X7_refusalOfHeight rfl rfl rfl (by decide +kernel) ⟨Nat.le_of_ble_eq_true rfl, Nat.le_of_ble_eq_true rfl⟩) (xg_preV hK hG b hO rfl rfl) rfl rfl hl.1 rfl (lv_room (Nat.le_of_ble_eq_true rfl)) dX7_worth_3 ⟨Nat.zero_le _, Nat.zero_le _⟩) (fun r1 hr1 => ?_)
  replace hr1 := hr1.symm; subst hr1
  refine lv_topi (fun x2 ex2 => ?_)
  replace ex2 := ex2.symm
  refine lv_istore (lv' := [(4, .int x2), (0, .ref (ad b)), (1, .int p), (2, .int y), (3, .int w9)]) hx hb dX7_worth_6 hl (by decide) rfl (fun ls hl => ?_)
  refine lv_iload hx hb dX7_worth_8 (lv_at hl 0 rfl) ?_
  refine lv_if_eq (tgt := 16) hx hb dX7_worth_10 (by decide) (fun c10 => ?_) (fun c10 => ?_)
  · skip
    refine lv_iload_n hx hb dX7_worth_16 rfl (lv_at hl 4 rfl) ?_
    refine lv_iconst (v := 0) hx hb dX7_worth_17 (by decide) ?_
    refine lv_iconst (v := 1) hx hb dX7_worth_18 (by decide) ?_
    refine xg_ri (va_runS (As := [.int w9, .int 0, .int 1]) (rest := []) S (mX7_within l D cI cZ bs ad ws w9 0 1) (va_cwS 3 hts gX7_worth_X7_within rfl rfl rfl (by decide +kernel) ⟨Nat.le_of_ble_eq_true rfl, Nat.le_of_ble_eq_true rfl⟩) (xg_preS hK hG) rfl rfl hl.1 rfl (lv_room (Nat.le_of_ble_eq_true rfl)) dX7_worth_19 ⟨Nat.zero_le _, Nat.zero_le _⟩) (fun r3 hr3 => ?_)
    replace hr3 := hr3.symm; subst hr3
    refine xb_ifne (tgt := 28) S dX7_worth_22 (by decide) (fun c22 => ?_) (fun c22 => ?_)
    · skip
      refine lv_aload_n hx hb dX7_worth_28 rfl (lv_at hl 1 rfl) ?_
      refine xg_get (C := RX7) (T := TX7) (N := 10) S hK hG (fun w h => List.mem_cons_of_mem _ (List.mem_append_left _ (List.mem_append_right _ (h)))) b hO rfl 0 (by decide) k0 (fun _ h9 => h9) rfl dX7_worth_29 ?_
      refine lv_iload_n hx hb dX7_worth_32 rfl (lv_at hl 2 rfl) ?_
      refine xg_ri (va_runV (As := [.int p]) (rest := []) S (mX5_prideOf l D cI cZ bs ad ws (b + 1) T hT p) (cwV 1 hts gX7_worth_X5_prideOf rfl rfl rfl (by decide +kernel) ⟨Nat.le_of_ble_eq_true rfl, Nat.le_of_ble_eq_true rfl⟩) (xg_preV hK hG (b + 1) hT.1 rfl rfl) rfl rfl hl.1 rfl (lv_room (Nat.le_of_ble_eq_true rfl)) dX7_worth_33 ⟨Nat.zero_le _, Nat.zero_le _⟩) (fun r4 hr4 => ?_)
      replace hr4 := hr4.symm; subst hr4
      refine lv_topi (fun x5 ex5 => ?_)
      replace ex5 := ex5.symm
      refine lv_istore (lv' := [(5, .int x5), (4, .int x2), (0, .ref (ad b)), (1, .int p), (2, .int y), (3, .int w9)]) hx hb dX7_worth_36 hl (by decide) rfl (fun ls hl => ?_)
      refine lv_ldc (v := 1000000) hx hb hown k1 dX7_worth_38 ?_
      refine lv_iload_n hx hb dX7_worth_40 rfl (lv_at hl 5 rfl) ?_
      refine lv_if_ne (tgt := 58) hx hb dX7_worth_41 (by decide) (fun c41 => ?_) (fun c41 => ?_)
      · skip
        refine lv_iload_n hx hb dX7_worth_58 rfl (lv_at hl 4 rfl) ?_
        refine lv_iload hx hb dX7_worth_59 (lv_at hl 0 rfl) ?_
        refine xg_ri (va_runS (As := [.int y, .int x5]) (rest := [.int 1000000]) S (mX5_worthRefused l D cI cZ bs ad ws y x5) (va_cwS 2 hts gX7_worth_X5_worthRefused rfl rfl rfl (by decide +kernel) ⟨Nat.le_of_ble_eq_true rfl, Nat.le_of_ble_eq_true rfl⟩) (xg_preS hK hG) rfl rfl hl.1 rfl (lv_room (Nat.le_of_ble_eq_true rfl)) dX7_worth_61 ⟨Nat.zero_le _, Nat.zero_le _⟩) (fun r6 hr6 => ?_)
        replace hr6 := hr6.symm; subst hr6
        refine lv_iadd hx hb dX7_worth_64 ?_
        rw [hQ]
        exact xg_eri S hr hlk (by subst ex2 ex5; first | (simp only [dj_wor, c10, c22, c41, if_true, if_false, Bool.false_eq_true]; done) | (unfold dj_wor; rw [if_pos c10, if_pos c22]; simp only [c10, c22, c41, if_true, if_false])) dX7_worth_65
      · skip
        refine lv_aload_n hx hb dX7_worth_44 rfl (lv_at hl 2 rfl) ?_
        refine xg_get (C := RX7) (T := TX7) (N := 10) S hK hG (fun w h => List.mem_cons_of_mem _ (List.mem_append_left _ (List.mem_append_right _ (h)))) b hO rfl 0 (by decide) k0 (fun _ h9 => h9) rfl dX7_worth_45 ?_
        refine lv_iload_n hx hb dX7_worth_48 rfl (lv_at hl 3 rfl) ?_
        refine lv_iload_n hx hb dX7_worth_49 rfl (lv_at hl 4 rfl) ?_
        refine lv_iload hx hb dX7_worth_50 (lv_at hl 0 rfl) ?_
        refine xg_ri (va_runV (As := [.int p, .int y, .int x5]) (rest := [.int 1000000]) S (mX5_worthDone l D cI cZ bs ad ws (b + 1) T hT p y x5) (cwV 3 hts gX7_worth_X5_worthDone rfl rfl rfl (by decide +kernel) ⟨Nat.le_of_ble_eq_true rfl, Nat.le_of_ble_eq_true rfl⟩) (xg_preV hK hG (b + 1) hT.1 rfl rfl) rfl rfl hl.1 rfl (lv_room (Nat.le_of_ble_eq_true rfl)) dX7_worth_52 ⟨Nat.zero_le _, Nat.zero_le _⟩) (fun r7 hr7 => ?_)
        replace hr7 := hr7.symm; subst hr7
        refine lv_goto (tgt := 64) hx hb dX7_worth_55 (by decide) ?_
        refine lv_iadd hx hb dX7_worth_64 ?_
        rw [hQ]
        exact xg_eri S hr hlk (by subst ex2 ex5; first | (simp only [dj_wor, c10, c22, c41, if_true, if_false, Bool.false_eq_true]; done) | (unfold dj_wor; rw [if_pos c10, if_pos c22]; simp only [c10, c22, c41, if_true, if_false])) dX7_worth_65
    · skip
      refine lv_bipush (v := (-2)) hx hb dX7_worth_25 (by decide) ?_
      rw [hQ]
      exact xg_eri S hr hlk (by subst ex2; first | (simp only [dj_wor, c10, c22, if_true, if_false, Bool.false_eq_true]; done) | (unfold dj_wor; rw [if_pos c10, if_pos c22]; simp only [c10, c22, if_true, if_false])) dX7_worth_27
  · skip
    refine lv_iload hx hb dX7_worth_13 (lv_at hl 0 rfl) ?_
    rw [hQ]
    exact xg_eri S hr hlk (by subst ex2; first | (simp only [dj_wor, c10, if_true, if_false, Bool.false_eq_true]; done) | (unfold dj_wor; rw [if_pos c10, if_pos c22]; simp only [c10, if_true, if_false])) dX7_worth_15
set_option maxHeartbeats 4000000 in
set_option maxRecDepth 100000 in
theorem mX7_does (l : Launch) (D : va_G) (cI cZ : ClassId) (bs : Nat) (ad : Nat → Nat) (ws : va_W) (b : Nat) (fk : Int32) (sk : Int32) (hO : ws[b]? = some (ad b, .inr (7, [.ref (ad (b + 1)), .ref (ad (b + 14)), .ref (ad (b + 27)), .int fk, .int sk, .ref (ad (b + 40)), .ref (ad (b + 42)), .ref (ad (b + 58)), .ref (ad (b + 60)), .ref (ad (b + 61))]))) (T : Nat → Nat → Int32) (hT : xv_T cI ad ws (b + 1) T) (p : Int32) (y : Int32) : Met l yX7_does wsX7_does ({ frames := 4, cells := 0, slots := 0, locals := 94 } : Room) (va_Pc [.ref (ad b), .int p, .int y] (fun U => xg_W D cI cZ bs ws U)) (xg_Ri (fun r : Int32 => r = dj_doe T p y)) 0 0 xg_F := by
  refine xg_met cX7_does 4 (some .int) RX7 (by decide) rfl rfl (Nat.le_of_ble_eq_true rfl) ?_
  intro pg en s m below meth c ls S hr hlk hnm hB hl
  have hK := hB.1
  have hG := xg_start hB
  obtain ⟨hx, hb, hml, hown, hts⟩ := id S
  have hl : lv_has ls 4 [(0, .ref (ad b)), (1, .int p), (2, .int y)] := hl
  obtain ⟨Q, hQ⟩ : ∃ Q, Q = MQ below (xg_Ri (fun r : Int32 => r = dj_doe T p y)) ([.ref (ad b), .int p, .int y] : List Value).toArray s 0 0 xg_F := ⟨_, rfl⟩
  rw [← hQ]
  have k0 := hts (.fieldLink RX7 10 "DareBridge" "now" "LDareBridge$Town;") (List.mem_of_getElem? (i := 1) rfl)
  refine lv_aload_n hx hb dX7_does_0 rfl (lv_at hl 0 rfl) ?_
  refine lv_iload_n hx hb dX7_does_1 rfl (lv_at hl 1 rfl) ?_
  refine lv_iload_n hx hb dX7_does_2 rfl (lv_at hl 2 rfl) ?_
  refine xg_ri (va_runV (As := [.int p, .int y]) (rest := []) S (mX7_refusalOfHeight l D cI cZ bs ad ws b fk sk hO T hT p y) (cwV 2 hts gX7_does_X7_refusalOfHeight rfl rfl rfl (by decide +kernel) ⟨Nat.le_of_ble_eq_true rfl, Nat.le_of_ble_eq_true rfl⟩) (xg_preV hK hG b hO rfl rfl) rfl rfl hl.1 rfl (lv_room (Nat.le_of_ble_eq_true rfl)) dX7_does_3 ⟨Nat.zero_le _, Nat.zero_le _⟩) (fun r1 hr1 => ?_)
  replace hr1 := hr1.symm; subst hr1
  refine lv_topi (fun x2 ex2 => ?_)
  replace ex2 := ex2.symm
  refine lv_istore_n (lv' := [(3, .int x2), (0, .ref (ad b)), (1, .int p), (2, .int y)]) hx hb dX7_does_6 rfl hl (by decide) rfl (fun ls hl => ?_)
  refine lv_iload_n hx hb dX7_does_7 rfl (lv_at hl 0 rfl) ?_
  refine lv_if_eq (tgt := 13) hx hb dX7_does_8 (by decide) (fun c8 => ?_) (fun c8 => ?_)
  · skip
    refine lv_aload_n hx hb dX7_does_13 rfl (lv_at hl 1 rfl) ?_
    refine xg_get (C := RX7) (T := TX7) (N := 10) S hK hG (fun w h => List.mem_cons_of_mem _ (List.mem_append_left _ (List.mem_append_right _ (h)))) b hO rfl 0 (by decide) k0 (fun _ h9 => h9) rfl dX7_does_14 ?_
    refine lv_iload_n hx hb dX7_does_17 rfl (lv_at hl 2 rfl) ?_
    refine lv_iload_n hx hb dX7_does_18 rfl (lv_at hl 3 rfl) ?_
    refine lv_aload_n hx hb dX7_does_19 rfl (lv_at hl 1 rfl) ?_
    refine xg_get (C := RX7) (T := TX7) (N := 10) S hK hG (fun w h => List.mem_cons_of_mem _ (List.mem_append_left _ (List.mem_append_right _ (h)))) b hO rfl 0 (by decide) k0 (fun _ h9 => h9) rfl dX7_does_20 ?_
    refine lv_iload_n hx hb dX7_does_23 rfl (lv_at hl 2 rfl) ?_
    refine xg_ri (va_runV (As := [.int p]) (rest := [.int y, .int p, .ref (ad (b + 1))]) S (mX5_prideOf l D cI cZ bs ad ws (b + 1) T hT p) (cwV 1 hts gX7_does_X5_prideOf rfl rfl rfl (by decide +kernel) ⟨Nat.le_of_ble_eq_true rfl, Nat.le_of_ble_eq_true rfl⟩) (xg_preV hK hG (b + 1) hT.1 rfl rfl) rfl rfl hl.1 rfl (lv_room (Nat.le_of_ble_eq_true rfl)) dX7_does_24 ⟨Nat.zero_le _, Nat.zero_le _⟩) (fun r3 hr3 => ?_)
    replace hr3 := hr3.symm; subst hr3
    refine xg_ri (va_runV (As := [.int p, .int y, .int (dt_prd T p)]) (rest := []) S (mX5_dares l D cI cZ bs ad ws (b + 1) T hT p y (dt_prd T p)) (cwV 3 hts gX7_does_X5_dares rfl rfl rfl (by decide +kernel) ⟨Nat.le_of_ble_eq_true rfl, Nat.le_of_ble_eq_true rfl⟩) (xg_preV hK hG (b + 1) hT.1 rfl rfl) rfl rfl hl.1 rfl (lv_room (Nat.le_of_ble_eq_true rfl)) dX7_does_27 ⟨Nat.zero_le _, Nat.zero_le _⟩) (fun r4 hr4 => ?_)
    replace hr4 := hr4.symm; subst hr4
    refine xb_ifeq (tgt := 37) S dX7_does_30 (by decide) (fun c30 => ?_) (fun c30 => ?_)
    · skip
      refine lv_iconst (v := 0) hx hb dX7_does_37 (by decide) ?_
      rw [hQ]
      exact xg_eri S hr hlk (by subst ex2; simp only [dj_doe, c8, c30, if_true, if_false, Bool.false_eq_true]) dX7_does_38
    · skip
      refine lv_iconst (v := 1) hx hb dX7_does_33 (by decide) ?_
      refine lv_goto (tgt := 38) hx hb dX7_does_34 (by decide) ?_
      rw [hQ]
      exact xg_eri S hr hlk (by subst ex2; simp only [dj_doe, c8, c30, if_true, if_false, Bool.false_eq_true]) dX7_does_38
  · skip
    refine lv_iload_n hx hb dX7_does_11 rfl (lv_at hl 0 rfl) ?_
    rw [hQ]
    exact xg_eri S hr hlk (by subst ex2; simp only [dj_doe, c8, if_true, if_false, Bool.false_eq_true]) dX7_does_12
set_option maxHeartbeats 4000000 in
set_option maxRecDepth 100000 in
theorem mX7_nerve (l : Launch) (D : va_G) (cI cZ : ClassId) (bs : Nat) (ad : Nat → Nat) (ws : va_W) (b : Nat) (fk : Int32) (sk : Int32) (hO : ws[b]? = some (ad b, .inr (7, [.ref (ad (b + 1)), .ref (ad (b + 14)), .ref (ad (b + 27)), .int fk, .int sk, .ref (ad (b + 40)), .ref (ad (b + 42)), .ref (ad (b + 58)), .ref (ad (b + 60)), .ref (ad (b + 61))]))) (T : Nat → Nat → Int32) (hT : xv_T cI ad ws (b + 1) T) (p : Int32) (w9 : Int32) : Met l yX7_nerve wsX7_nerve ({ frames := 5, cells := 0, slots := 0, locals := 116 } : Room) (va_Pc [.ref (ad b), .int p, .int w9] (fun U => xg_W D cI cZ bs ws U)) (xg_Ri (fun r : Int32 => r = dj_ner T p w9)) 0 0 xg_F := by
  refine xg_met cX7_nerve 4 (some .int) RX7 (by decide) rfl rfl (Nat.le_of_ble_eq_true rfl) ?_
  intro pg en s m below meth c ls S hr hlk hnm hB hl
  have hK := hB.1
  have hG := xg_start hB
  obtain ⟨hx, hb, hml, hown, hts⟩ := id S
  have hl : lv_has ls 4 [(0, .ref (ad b)), (1, .int p), (2, .int w9)] := hl
  obtain ⟨Q, hQ⟩ : ∃ Q, Q = MQ below (xg_Ri (fun r : Int32 => r = dj_ner T p w9)) ([.ref (ad b), .int p, .int w9] : List Value).toArray s 0 0 xg_F := ⟨_, rfl⟩
  rw [← hQ]
  have k0 := hts (.fieldLink RX7 10 "DareBridge" "now" "LDareBridge$Town;") (List.mem_of_getElem? (i := 1) rfl)
  refine lv_aload_n hx hb dX7_nerve_0 rfl (lv_at hl 0 rfl) ?_
  refine xg_get (C := RX7) (T := TX7) (N := 10) S hK hG (fun w h => List.mem_cons_of_mem _ (List.mem_append_left _ (List.mem_append_right _ (h)))) b hO rfl 0 (by decide) k0 (fun _ h9 => h9) rfl dX7_nerve_1 ?_
  refine lv_iload_n hx hb dX7_nerve_4 rfl (lv_at hl 1 rfl) ?_
  refine xg_ri (va_runV (As := [.int p]) (rest := []) S (mX5_isThere l D cI cZ bs ad ws (b + 1) T hT p) (cwV 1 hts gX7_nerve_X5_isThere rfl rfl rfl (by decide +kernel) ⟨Nat.le_of_ble_eq_true rfl, Nat.le_of_ble_eq_true rfl⟩) (xg_preV hK hG (b + 1) hT.1 rfl rfl) rfl rfl hl.1 rfl (lv_room (Nat.le_of_ble_eq_true rfl)) dX7_nerve_5 ⟨Nat.zero_le _, Nat.zero_le _⟩) (fun r1 hr1 => ?_)
  replace hr1 := hr1.symm; subst hr1
  refine xb_ifne (tgt := 13) S dX7_nerve_8 (by decide) (fun c8 => ?_) (fun c8 => ?_)
  · skip
    refine lv_iload_n hx hb dX7_nerve_13 rfl (lv_at hl 2 rfl) ?_
    refine lv_iconst (v := 0) hx hb dX7_nerve_14 (by decide) ?_
    refine lv_iconst (v := 2) hx hb dX7_nerve_15 (by decide) ?_
    refine xg_ri (va_runS (As := [.int w9, .int 0, .int 2]) (rest := []) S (mX7_within l D cI cZ bs ad ws w9 0 2) (va_cwS 3 hts gX7_nerve_X7_within rfl rfl rfl (by decide +kernel) ⟨Nat.le_of_ble_eq_true rfl, Nat.le_of_ble_eq_true rfl⟩) (xg_preS hK hG) rfl rfl hl.1 rfl (lv_room (Nat.le_of_ble_eq_true rfl)) dX7_nerve_16 ⟨Nat.zero_le _, Nat.zero_le _⟩) (fun r2 hr2 => ?_)
    replace hr2 := hr2.symm; subst hr2
    refine xb_ifne (tgt := 25) S dX7_nerve_19 (by decide) (fun c19 => ?_) (fun c19 => ?_)
    · skip
      refine lv_iload_n hx hb dX7_nerve_25 rfl (lv_at hl 2 rfl) ?_
      refine lv_iconst (v := 2) hx hb dX7_nerve_26 (by decide) ?_
      refine lv_icmp_ne (tgt := 39) hx hb dX7_nerve_27 (by decide) (fun c27 => ?_) (fun c27 => ?_)
      · skip
        refine lv_aload_n hx hb dX7_nerve_39 rfl (lv_at hl 0 rfl) ?_
        refine xg_get (C := RX7) (T := TX7) (N := 10) S hK hG (fun w h => List.mem_cons_of_mem _ (List.mem_append_left _ (List.mem_append_right _ (h)))) b hO rfl 0 (by decide) k0 (fun _ h9 => h9) rfl dX7_nerve_40 ?_
        refine lv_iload_n hx hb dX7_nerve_43 rfl (lv_at hl 1 rfl) ?_
        refine xg_ri (va_runV (As := [.int p]) (rest := []) S (mX5_leastRefused l D cI cZ bs ad ws (b + 1) T hT p) (cwV 1 hts gX7_nerve_X5_leastRefused rfl rfl rfl (by decide +kernel) ⟨Nat.le_of_ble_eq_true rfl, Nat.le_of_ble_eq_true rfl⟩) (xg_preV hK hG (b + 1) hT.1 rfl rfl) rfl rfl hl.1 rfl (lv_room (Nat.le_of_ble_eq_true rfl)) dX7_nerve_44 ⟨Nat.zero_le _, Nat.zero_le _⟩) (fun r3 hr3 => ?_)
        replace hr3 := hr3.symm; subst hr3
        refine lv_topi (fun x4 ex4 => ?_)
        replace ex4 := ex4.symm
        refine lv_istore_n (lv' := [(3, .int x4), (0, .ref (ad b)), (1, .int p), (2, .int w9)]) hx hb dX7_nerve_47 rfl hl (by decide) rfl (fun ls hl => ?_)
        refine lv_iload_n hx hb dX7_nerve_48 rfl (lv_at hl 3 rfl) ?_
        refine lv_iconst (v := 1) hx hb dX7_nerve_49 (by decide) ?_
        refine lv_icmp_ne (tgt := 66) hx hb dX7_nerve_50 (by decide) (fun c50 => ?_) (fun c50 => ?_)
        · skip
          refine lv_iload_n hx hb dX7_nerve_66 rfl (lv_at hl 0 rfl) ?_
          refine lv_iconst (v := 1) hx hb dX7_nerve_67 (by decide) ?_
          refine lv_isub hx hb dX7_nerve_68 ?_
          rw [hQ]
          exact xg_eri S hr hlk (by subst ex4; first | (simp only [dj_ner, c8, c19, c27, c50, if_true, if_false, Bool.false_eq_true]; done) | (unfold dj_ner; rw [if_pos c8, if_pos c19]; simp only [c8, c19, c27, c50, if_true, if_false, Bool.false_eq_true, xs_12])) dX7_nerve_69
        · skip
          refine lv_iload_n hx hb dX7_nerve_53 rfl (lv_at hl 0 rfl) ?_
          refine lv_bipush (v := 15) hx hb dX7_nerve_54 (by decide) ?_
          refine lv_icmp_le (tgt := 64) hx hb dX7_nerve_56 (by decide) (fun c56 => ?_) (fun c56 => ?_)
          · skip
            refine lv_iload_n hx hb dX7_nerve_64 rfl (lv_at hl 0 rfl) ?_
            rw [hQ]
            exact xg_eri S hr hlk (by subst ex4; first | (simp only [dj_ner, c8, c19, c27, c50, c56, if_true, if_false, Bool.false_eq_true]; done) | (unfold dj_ner; rw [if_pos c8, if_pos c19]; simp only [c8, c19, c27, c50, c56, if_true, if_false, Bool.false_eq_true, xs_12])) dX7_nerve_65
          · skip
            refine lv_bipush (v := (-6)) hx hb dX7_nerve_59 (by decide) ?_
            refine lv_goto (tgt := 65) hx hb dX7_nerve_61 (by decide) ?_
            rw [hQ]
            exact xg_eri S hr hlk (by subst ex4; first | (simp only [dj_ner, c8, c19, c27, c50, c56, if_true, if_false, Bool.false_eq_true]; done) | (unfold dj_ner; rw [if_pos c8, if_pos c19]; simp only [c8, c19, c27, c50, c56, if_true, if_false, Bool.false_eq_true, xs_12])) dX7_nerve_65
      · skip
        refine lv_aload_n hx hb dX7_nerve_30 rfl (lv_at hl 0 rfl) ?_
        refine xg_get (C := RX7) (T := TX7) (N := 10) S hK hG (fun w h => List.mem_cons_of_mem _ (List.mem_append_left _ (List.mem_append_right _ (h)))) b hO rfl 0 (by decide) k0 (fun _ h9 => h9) rfl dX7_nerve_31 ?_
        refine lv_iload_n hx hb dX7_nerve_34 rfl (lv_at hl 1 rfl) ?_
        refine xg_ri (va_runV (As := [.int p]) (rest := []) S (mX5_surest l D cI cZ bs ad ws (b + 1) T hT p) (cwV 1 hts gX7_nerve_X5_surest rfl rfl rfl (by decide +kernel) ⟨Nat.le_of_ble_eq_true rfl, Nat.le_of_ble_eq_true rfl⟩) (xg_preV hK hG (b + 1) hT.1 rfl rfl) rfl rfl hl.1 rfl (lv_room (Nat.le_of_ble_eq_true rfl)) dX7_nerve_35 ⟨Nat.zero_le _, Nat.zero_le _⟩) (fun r5 hr5 => ?_)
        replace hr5 := hr5.symm; subst hr5
        rw [hQ]
        exact xg_eri S hr hlk (by skip; first | (simp only [dj_ner, c8, c19, c27, if_true, if_false, Bool.false_eq_true]; done) | (unfold dj_ner; rw [if_pos c8, if_pos c19]; simp only [c8, c19, c27, if_true, if_false, Bool.false_eq_true, xs_12])) dX7_nerve_38
    · skip
      refine lv_bipush (v := (-2)) hx hb dX7_nerve_22 (by decide) ?_
      rw [hQ]
      exact xg_eri S hr hlk (by skip; first | (simp only [dj_ner, c8, c19, if_true, if_false, Bool.false_eq_true]; done) | (unfold dj_ner; rw [if_pos c8, if_pos c19]; simp only [c8, c19, if_true, if_false, Bool.false_eq_true, xs_12])) dX7_nerve_24
  · skip
    refine lv_iconst (v := (-1)) hx hb dX7_nerve_11 (by decide) ?_
    rw [hQ]
    exact xg_eri S hr hlk (by skip; first | (simp only [dj_ner, c8, if_true, if_false, Bool.false_eq_true]; done) | (unfold dj_ner; rw [if_pos c8, if_pos c19]; simp only [c8, if_true, if_false, Bool.false_eq_true, xs_12])) dX7_nerve_12
set_option maxHeartbeats 4000000 in
set_option maxRecDepth 100000 in
theorem mX7_climb (l : Launch) (D : va_G) (cI cZ : ClassId) (bs : Nat) (ad : Nat → Nat) (ws : va_W) (b : Nat) (fk : Int32) (sk : Int32) (hO : ws[b]? = some (ad b, .inr (7, [.ref (ad (b + 1)), .ref (ad (b + 14)), .ref (ad (b + 27)), .int fk, .int sk, .ref (ad (b + 40)), .ref (ad (b + 42)), .ref (ad (b + 58)), .ref (ad (b + 60)), .ref (ad (b + 61))]))) (T : Nat → Nat → Int32) (hT : xv_T cI ad ws (b + 1) T) (dn0 : Int32) (la0 : Int32) (re0 : Int32) (hCl : ws[b + 58]? = some (ad (b + 58), .inr (1, [.ref (ad (b + 59)), .int dn0, .int la0, .int re0]))) (u0 : Int64) (v0 : Int64) (hCc : ws[b + 59]? = some (ad (b + 59), .inr (0, [.long u0, .long v0]))) (p : Int32) (p2 : Int32) (y : Int32) (z : Int32) (w9 : Int32) (st : Nat) (hst : xb_at 7 (T 0) 0 = nI st) (h4 : 1 ≤ st) (h5 : st ≤ 9) : Met l yX7_climb wsX7_climb ({ frames := 5, cells := 0, slots := 0, locals := 122 } : Room) (va_Pc [.ref (ad b), .int p, .int p2, .int y, .int z, .int w9] (fun U => xg_W D cI cZ bs ws U)) (va_Qi (fun (r : Int32) (w : va_W) => r = dj_cli T p p2 y z w9 st ∧ w[b]? = some (ad b, .inr (7, [.ref (ad (b + 1)), .ref (ad (b + 14)), .ref (ad (b + 27)), .int fk, .int sk, .ref (ad (b + 40)), .ref (ad (b + 42)), .ref (ad (b + 58)), .ref (ad (b + 60)), .ref (ad (b + 61))])) ∧ xv_T cI ad w (b + 1) T ∧ (∃ (dn0 : Int32) (la0 : Int32) (re0 : Int32), w[b + 58]? = some (ad (b + 58), .inr (1, [.ref (ad (b + 59)), .int dn0, .int la0, .int re0]))) ∧ (∃ (u0 : Int64) (v0 : Int64), w[b + 59]? = some (ad (b + 59), .inr (0, [.long u0, .long v0]))) ∧ xv_S ws w (b + 58) 2) (fun w t => xg_W D cI cZ bs w t) (xg_A bs)) 0 0 (xg_A bs) := by
  refine xg_met cX7_climb 7 (some .int) RX7 (by decide) rfl rfl (Nat.le_of_ble_eq_true rfl) ?_
  intro pg en s m below meth c ls S hr hlk hnm hB hl
  have hK := hB.1
  have hG := xg_start hB
  obtain ⟨hx, hb, hml, hown, hts⟩ := id S
  have hl : lv_has ls 7 [(0, .ref (ad b)), (1, .int p), (2, .int p2), (3, .int y), (4, .int z), (5, .int w9)] := hl
  obtain ⟨Q, hQ⟩ : ∃ Q, Q = MQ below (va_Qi (fun (r : Int32) (w : va_W) => r = dj_cli T p p2 y z w9 st ∧ w[b]? = some (ad b, .inr (7, [.ref (ad (b + 1)), .ref (ad (b + 14)), .ref (ad (b + 27)), .int fk, .int sk, .ref (ad (b + 40)), .ref (ad (b + 42)), .ref (ad (b + 58)), .ref (ad (b + 60)), .ref (ad (b + 61))])) ∧ xv_T cI ad w (b + 1) T ∧ (∃ (dn0 : Int32) (la0 : Int32) (re0 : Int32), w[b + 58]? = some (ad (b + 58), .inr (1, [.ref (ad (b + 59)), .int dn0, .int la0, .int re0]))) ∧ (∃ (u0 : Int64) (v0 : Int64), w[b + 59]? = some (ad (b + 59), .inr (0, [.long u0, .long v0]))) ∧ xv_S ws w (b + 58) 2) (fun w t => xg_W D cI cZ bs w t) (xg_A bs)) ([.ref (ad b), .int p, .int p2, .int y, .int z, .int w9] : List Value).toArray s 0 0 (xg_A bs) := ⟨_, rfl⟩
  rw [← hQ]
  have k0 := hts (.fieldLink RX7 46 "DareBridge" "climbing" "LDareBridge$Climb;") (List.mem_of_getElem? (i := 1) rfl)
  have k1 := hts (.fieldLink RX7 10 "DareBridge" "now" "LDareBridge$Town;") (List.mem_of_getElem? (i := 2) rfl)
  have k2 := hts (.fieldLink RX7 211 "DareBridge$Climb" "done" "I") (List.mem_of_getElem? (i := 3) rfl)
  have k3 := hts (.fieldLink RX7 212 "DareBridge$Climb" "last" "I") (List.mem_of_getElem? (i := 4) rfl)
  have k4 := hts (.fieldLink RX7 215 "DareBridge$Climb" "refuser" "I") (List.mem_of_getElem? (i := 5) rfl)
  refine lv_aload_n hx hb dX7_climb_0 rfl (lv_at hl 0 rfl) ?_
  refine lv_iload_n hx hb dX7_climb_1 rfl (lv_at hl 1 rfl) ?_
  refine lv_iload_n hx hb dX7_climb_2 rfl (lv_at hl 2 rfl) ?_
  refine lv_iload_n hx hb dX7_climb_3 rfl (lv_at hl 3 rfl) ?_
  refine lv_iload hx hb dX7_climb_4 (lv_at hl 4 rfl) ?_
  refine xg_ri (va_runV (As := [.int p, .int p2, .int y, .int z]) (rest := []) S (mX7_refusalOfClimb l D cI cZ bs ad ws b fk sk hO T hT p p2 y z) (cwV 4 hts gX7_climb_X7_refusalOfClimb rfl rfl rfl (by decide +kernel) ⟨Nat.le_of_ble_eq_true rfl, Nat.le_of_ble_eq_true rfl⟩) (xg_preV hK hG b hO rfl rfl) rfl rfl hl.1 rfl (lv_room (Nat.le_of_ble_eq_true rfl)) dX7_climb_6 ⟨Nat.zero_le _, Nat.zero_le _⟩) (fun r1 hr1 => ?_)
  replace hr1 := hr1.symm; subst hr1
  refine lv_topi (fun x2 ex2 => ?_)
  replace ex2 := ex2.symm
  refine lv_istore (lv' := [(6, .int x2), (0, .ref (ad b)), (1, .int p), (2, .int p2), (3, .int y), (4, .int z), (5, .int w9)]) hx hb dX7_climb_9 hl (by decide) rfl (fun ls hl => ?_)
  refine lv_iload hx hb dX7_climb_11 (lv_at hl 0 rfl) ?_
  refine lv_if_eq (tgt := 19) hx hb dX7_climb_13 (by decide) (fun c13 => ?_) (fun c13 => ?_)
  · skip
    have hc0 : dj_roc T p p2 y z = 0 := by subst ex2; exact c13
    obtain ⟨hq1, hq2, hq3, hq4, hq5, -⟩ := dj_roc_N hc0
    refine lv_iload hx hb dX7_climb_19 (lv_at hl 6 rfl) ?_
    refine lv_iconst (v := 0) hx hb dX7_climb_21 (by decide) ?_
    refine lv_iconst (v := 2) hx hb dX7_climb_22 (by decide) ?_
    refine xg_ri (va_runS (As := [.int w9, .int 0, .int 2]) (rest := []) S (mX7_within l D cI cZ bs ad ws w9 0 2) (va_cwS 3 hts gX7_climb_X7_within rfl rfl rfl (by decide +kernel) ⟨Nat.le_of_ble_eq_true rfl, Nat.le_of_ble_eq_true rfl⟩) (xg_preS hK hG) rfl rfl hl.1 rfl (lv_room (Nat.le_of_ble_eq_true rfl)) dX7_climb_23 ⟨Nat.zero_le _, Nat.zero_le _⟩) (fun r3 hr3 => ?_)
    replace hr3 := hr3.symm; subst hr3
    refine xb_ifne (tgt := 32) S dX7_climb_26 (by decide) (fun c26 => ?_) (fun c26 => ?_)
    · skip
      refine lv_aload_n hx hb dX7_climb_32 rfl (lv_at hl 1 rfl) ?_
      refine xg_get (C := RX7) (T := TX7) (N := 10) S hK hG (fun w h => List.mem_cons_of_mem _ (List.mem_append_left _ (List.mem_append_left _ (List.mem_append_left _ (List.mem_append_right _ (h)))))) b hO rfl 7 (by decide) k0 (fun _ h9 => h9) rfl dX7_climb_33 ?_
      refine lv_aload_n hx hb dX7_climb_36 rfl (lv_at hl 1 rfl) ?_
      refine xg_get (C := RX7) (T := TX7) (N := 10) S hK hG (fun w h => List.mem_cons_of_mem _ (List.mem_append_left _ (List.mem_append_left _ (List.mem_append_left _ (List.mem_append_right _ (h)))))) b hO rfl 0 (by decide) k1 (fun _ h9 => h9) rfl dX7_climb_37 ?_
      refine lv_iload_n hx hb dX7_climb_40 rfl (lv_at hl 2 rfl) ?_
      refine lv_iload_n hx hb dX7_climb_41 rfl (lv_at hl 3 rfl) ?_
      refine lv_iload_n hx hb dX7_climb_42 rfl (lv_at hl 4 rfl) ?_
      refine lv_iload hx hb dX7_climb_43 (lv_at hl 5 rfl) ?_
      refine xg_mv (va_runV (As := [.ref (ad (b + 1)), .int p, .int p2, .int y, .int z]) (rest := []) S (mX1_go l D cI cZ bs ad ws (b + 58) (b + 1) dn0 la0 re0 hCl u0 v0 hCc T hT p p2 y z y.toNatClampNeg z.toNatClampNeg st hq1 hq2 (by first | assumption | omega) hq3 (by omega) hq5 (by first | assumption | omega) (by first | assumption | omega) (by first | assumption | omega)) (cwV 5 hts gX7_climb_X1_go rfl rfl rfl (by decide +kernel) ⟨Nat.le_of_ble_eq_true rfl, Nat.le_of_ble_eq_true rfl⟩) (xg_preV hK hG (b + 58) hCl rfl rfl) rfl rfl hl.1 rfl (lv_room (Nat.le_of_ble_eq_true rfl)) dX7_climb_45 ⟨Nat.zero_le _, Nat.zero_le _⟩) hG (fun w5 H locs hr4 hG => ?_)
      obtain ⟨hvw5_0, hvw5_1, hvw5_2, hsw5⟩ := hr4
      have hCl : w5[b + 58]? = some (ad (b + 58), .inr (1, [.ref (ad (b + 59)), .int ((dc_clm T p p2 y.toNatClampNeg z.toNatClampNeg st).1), .int ((dc_clm T p p2 y.toNatClampNeg z.toNatClampNeg st).2.1), .int ((dc_clm T p p2 y.toNatClampNeg z.toNatClampNeg st).2.2.1)])) := hvw5_0
      obtain ⟨x6, ex6⟩ : ∃ zz : Int32, ((dc_clm T p p2 y.toNatClampNeg z.toNatClampNeg st).1) = zz := ⟨_, rfl⟩
      rw [ex6] at hCl
      obtain ⟨x7, ex7⟩ : ∃ zz : Int32, ((dc_clm T p p2 y.toNatClampNeg z.toNatClampNeg st).2.1) = zz := ⟨_, rfl⟩
      rw [ex7] at hCl
      obtain ⟨x8, ex8⟩ : ∃ zz : Int32, ((dc_clm T p p2 y.toNatClampNeg z.toNatClampNeg st).2.2.1) = zz := ⟨_, rfl⟩
      rw [ex8] at hCl
      have hCc : w5[b + 59]? = some (ad (b + 59), .inr (0, [.long ((dc_clm T p p2 y.toNatClampNeg z.toNatClampNeg st).2.2.2.1), .long ((dc_clm T p p2 y.toNatClampNeg z.toNatClampNeg st).2.2.2.2)])) := hvw5_1
      obtain ⟨x9, ex9⟩ : ∃ zz : Int64, ((dc_clm T p p2 y.toNatClampNeg z.toNatClampNeg st).2.2.2.1) = zz := ⟨_, rfl⟩
      rw [ex9] at hCc
      obtain ⟨x10, ex10⟩ : ∃ zz : Int64, ((dc_clm T p p2 y.toNatClampNeg z.toNatClampNeg st).2.2.2.2) = zz := ⟨_, rfl⟩
      rw [ex10] at hCc
      have hT : xv_T cI ad w5 (b + 1) T := hvw5_2
      have hO : w5[b]? = some (ad b, .inr (7, [.ref (ad (b + 1)), .ref (ad (b + 14)), .ref (ad (b + 27)), .int fk, .int sk, .ref (ad (b + 40)), .ref (ad (b + 42)), .ref (ad (b + 58)), .ref (ad (b + 60)), .ref (ad (b + 61))])) := hsw5.at hO (by omega)
      have hSw5 : xv_S ws w5 (b + 58) 2 := hsw5.mono (by omega) (by omega)
      refine lv_iload hx hb dX7_climb_48 (lv_at hl 6 rfl) ?_
      by_cases sw11_0 : w9 = 0
      · skip
        refine lv_lookup (off := 26) (tgt := 76) hx hb dX7_climb_50 (by decide) (by rw [sw11_0]; rfl) (by decide) ?_
        refine lv_aload_n hx hb dX7_climb_76 rfl (lv_at hl 1 rfl) ?_
        refine xg_get (C := RX7) (T := TX7) (N := 10) S hK hG (fun w h => List.mem_cons_of_mem _ (List.mem_append_left _ (List.mem_append_left _ (List.mem_append_left _ (List.mem_append_right _ (h)))))) b hO rfl 7 (by decide) k0 (fun _ h9 => h9) rfl dX7_climb_77 ?_
        refine xg_get (C := RX1) (T := TX1) (N := 4) S hK hG (fun w h => List.mem_cons_of_mem _ (List.mem_append_left _ (List.mem_append_left _ (List.mem_append_right _ (h))))) (b + 58) hCl rfl 1 (by decide) k2 (fun _ h9 => h9) rfl dX7_climb_80 ?_
        rw [hQ]
        exact xg_emi S hr hlk hK hG ⟨(by subst ex2 ex6 ex7 ex8 ex9 ex10; first | (simp only [dj_cli, c13, c26, sw11_0, if_true, if_false, Bool.false_eq_true]; done) | (unfold dj_cli; rw [if_pos c13, if_pos c26]; simp only [dj_clm, c13, c26, sw11_0, xs_10, if_true, if_false])), hO, hT, ⟨_, _, _, hCl⟩, ⟨_, _, hCc⟩, hSw5⟩ dX7_climb_83
      · skip
        by_cases sw11_1 : w9 = 1
        · skip
          refine lv_lookup (off := 34) (tgt := 84) hx hb dX7_climb_50 (by decide) (by rw [sw11_1]; rfl) (by decide) ?_
          refine lv_aload_n hx hb dX7_climb_84 rfl (lv_at hl 1 rfl) ?_
          refine xg_get (C := RX7) (T := TX7) (N := 10) S hK hG (fun w h => List.mem_cons_of_mem _ (List.mem_append_left _ (List.mem_append_left _ (List.mem_append_left _ (List.mem_append_right _ (h)))))) b hO rfl 7 (by decide) k0 (fun _ h9 => h9) rfl dX7_climb_85 ?_
          refine xg_get (C := RX1) (T := TX1) (N := 4) S hK hG (fun w h => List.mem_cons_of_mem _ (List.mem_append_left _ (List.mem_append_left _ (List.mem_append_right _ (h))))) (b + 58) hCl rfl 2 (by decide) k3 (fun _ h9 => h9) rfl dX7_climb_88 ?_
          rw [hQ]
          exact xg_emi S hr hlk hK hG ⟨(by subst ex2 ex6 ex7 ex8 ex9 ex10; first | (simp only [dj_cli, c13, c26, sw11_0, sw11_1, if_true, if_false, Bool.false_eq_true]; done) | (unfold dj_cli; rw [if_pos c13, if_pos c26]; simp only [dj_clm, c13, c26, sw11_0, sw11_1, xs_10, if_true, if_false])), hO, hT, ⟨_, _, _, hCl⟩, ⟨_, _, hCc⟩, hSw5⟩ dX7_climb_91
        · skip
          have tsw11_0 : ¬ ((0 : Int) = (w9 : Int32).toInt) := fun q => sw11_0 (Int32.toInt_inj.mp (by rw [← q]; rfl))
          have tsw11_1 : ¬ ((1 : Int) = (w9 : Int32).toInt) := fun q => sw11_1 (Int32.toInt_inj.mp (by rw [← q]; rfl))
          refine lv_lookup (off := 42) (tgt := 92) hx hb dX7_climb_50 (by decide) (by simp [Op.lookupswitch.offset, tsw11_0, tsw11_1]) (by decide) ?_
          refine lv_aload_n hx hb dX7_climb_92 rfl (lv_at hl 1 rfl) ?_
          refine xg_get (C := RX7) (T := TX7) (N := 10) S hK hG (fun w h => List.mem_cons_of_mem _ (List.mem_append_left _ (List.mem_append_left _ (List.mem_append_left _ (List.mem_append_right _ (h)))))) b hO rfl 7 (by decide) k0 (fun _ h9 => h9) rfl dX7_climb_93 ?_
          refine xg_get (C := RX1) (T := TX1) (N := 4) S hK hG (fun w h => List.mem_cons_of_mem _ (List.mem_append_left _ (List.mem_append_left _ (List.mem_append_right _ (h))))) (b + 58) hCl rfl 3 (by decide) k4 (fun _ h9 => h9) rfl dX7_climb_96 ?_
          rw [hQ]
          exact xg_emi S hr hlk hK hG ⟨(by subst ex2 ex6 ex7 ex8 ex9 ex10; first | (simp only [dj_cli, c13, c26, sw11_0, sw11_1, if_true, if_false, Bool.false_eq_true]; done) | (unfold dj_cli; rw [if_pos c13, if_pos c26]; simp only [dj_clm, c13, c26, sw11_0, sw11_1, xs_10, if_true, if_false])), hO, hT, ⟨_, _, _, hCl⟩, ⟨_, _, hCc⟩, hSw5⟩ dX7_climb_99
    · skip
      refine lv_bipush (v := (-2)) hx hb dX7_climb_29 (by decide) ?_
      rw [hQ]
      exact xg_emi S hr hlk hK hG ⟨(by subst ex2; first | (simp only [dj_cli, c13, c26, if_true, if_false, Bool.false_eq_true]; done) | (unfold dj_cli; rw [if_pos c13, if_pos c26]; simp only [dj_clm, c13, c26, xs_10, if_true, if_false])), hO, hT, ⟨_, _, _, hCl⟩, ⟨_, _, hCc⟩, xv_S.rf⟩ dX7_climb_31
  · skip
    refine lv_iload hx hb dX7_climb_16 (lv_at hl 0 rfl) ?_
    rw [hQ]
    exact xg_emi S hr hlk hK hG ⟨(by subst ex2; first | (simp only [dj_cli, c13, if_true, if_false, Bool.false_eq_true]; done) | (unfold dj_cli; rw [if_pos c13, if_pos c26]; simp only [dj_clm, c13, xs_10, if_true, if_false])), hO, hT, ⟨_, _, _, hCl⟩, ⟨_, _, hCc⟩, xv_S.rf⟩ dX7_climb_18
set_option maxHeartbeats 4000000 in
set_option maxRecDepth 100000 in
theorem mX7_safe (l : Launch) (D : va_G) (cI cZ : ClassId) (bs : Nat) (ad : Nat → Nat) (ws : va_W) (b : Nat) (fk : Int32) (sk : Int32) (hO : ws[b]? = some (ad b, .inr (7, [.ref (ad (b + 1)), .ref (ad (b + 14)), .ref (ad (b + 27)), .int fk, .int sk, .ref (ad (b + 40)), .ref (ad (b + 42)), .ref (ad (b + 58)), .ref (ad (b + 60)), .ref (ad (b + 61))]))) (T : Nat → Nat → Int32) (hT : xv_T cI ad ws (b + 1) T) (dn0 : Int32) (la0 : Int32) (re0 : Int32) (hCl : ws[b + 58]? = some (ad (b + 58), .inr (1, [.ref (ad (b + 59)), .int dn0, .int la0, .int re0]))) (u0 : Int64) (v0 : Int64) (hCc : ws[b + 59]? = some (ad (b + 59), .inr (0, [.long u0, .long v0]))) (p : Int32) (p2 : Int32) (y : Int32) (z : Int32) (w9 : Int32) (st : Nat) (hst : xb_at 7 (T 0) 0 = nI st) (h4 : 1 ≤ st) (h5 : st ≤ 9) : Met l yX7_safe wsX7_safe ({ frames := 5, cells := 0, slots := 0, locals := 122 } : Room) (va_Pc [.ref (ad b), .int p, .int p2, .int y, .int z, .int w9] (fun U => xg_W D cI cZ bs ws U)) (va_Ql (fun (r : Int64) (w : va_W) => r = dj_saf T p p2 y z w9 st ∧ w[b]? = some (ad b, .inr (7, [.ref (ad (b + 1)), .ref (ad (b + 14)), .ref (ad (b + 27)), .int fk, .int sk, .ref (ad (b + 40)), .ref (ad (b + 42)), .ref (ad (b + 58)), .ref (ad (b + 60)), .ref (ad (b + 61))])) ∧ xv_T cI ad w (b + 1) T ∧ (∃ (dn0 : Int32) (la0 : Int32) (re0 : Int32), w[b + 58]? = some (ad (b + 58), .inr (1, [.ref (ad (b + 59)), .int dn0, .int la0, .int re0]))) ∧ (∃ (u0 : Int64) (v0 : Int64), w[b + 59]? = some (ad (b + 59), .inr (0, [.long u0, .long v0]))) ∧ xv_S ws w (b + 58) 2) (fun w t => xg_W D cI cZ bs w t) (xg_A bs)) 0 0 (xg_A bs) := by
  refine xg_met cX7_safe 7 (some .long) RX7 (by decide) rfl rfl (Nat.le_of_ble_eq_true rfl) ?_
  intro pg en s m below meth c ls S hr hlk hnm hB hl
  have hK := hB.1
  have hG := xg_start hB
  obtain ⟨hx, hb, hml, hown, hts⟩ := id S
  have hl : lv_has ls 7 [(0, .ref (ad b)), (1, .int p), (2, .int p2), (3, .int y), (4, .int z), (5, .int w9)] := hl
  obtain ⟨Q, hQ⟩ : ∃ Q, Q = MQ below (va_Ql (fun (r : Int64) (w : va_W) => r = dj_saf T p p2 y z w9 st ∧ w[b]? = some (ad b, .inr (7, [.ref (ad (b + 1)), .ref (ad (b + 14)), .ref (ad (b + 27)), .int fk, .int sk, .ref (ad (b + 40)), .ref (ad (b + 42)), .ref (ad (b + 58)), .ref (ad (b + 60)), .ref (ad (b + 61))])) ∧ xv_T cI ad w (b + 1) T ∧ (∃ (dn0 : Int32) (la0 : Int32) (re0 : Int32), w[b + 58]? = some (ad (b + 58), .inr (1, [.ref (ad (b + 59)), .int dn0, .int la0, .int re0]))) ∧ (∃ (u0 : Int64) (v0 : Int64), w[b + 59]? = some (ad (b + 59), .inr (0, [.long u0, .long v0]))) ∧ xv_S ws w (b + 58) 2) (fun w t => xg_W D cI cZ bs w t) (xg_A bs)) ([.ref (ad b), .int p, .int p2, .int y, .int z, .int w9] : List Value).toArray s 0 0 (xg_A bs) := ⟨_, rfl⟩
  rw [← hQ]
  have k0 := hts (.fieldLink RX7 46 "DareBridge" "climbing" "LDareBridge$Climb;") (List.mem_of_getElem? (i := 3) rfl)
  have k1 := hts (.fieldLink RX7 10 "DareBridge" "now" "LDareBridge$Town;") (List.mem_of_getElem? (i := 4) rfl)
  have k2 := hts (.fieldLink RX7 218 "DareBridge$Climb" "luck" "LDareBridge$Chance;") (List.mem_of_getElem? (i := 5) rfl)
  have k3 := hts (.constantLong RX7 159 (-1000000000000000002)) (List.mem_of_getElem? (i := 2) rfl)
  have k4 := hts (.constantLong RX7 161 (-1000000000000000000)) (List.mem_of_getElem? (i := 1) rfl)
  refine lv_aload_n hx hb dX7_safe_0 rfl (lv_at hl 0 rfl) ?_
  refine lv_iload_n hx hb dX7_safe_1 rfl (lv_at hl 1 rfl) ?_
  refine lv_iload_n hx hb dX7_safe_2 rfl (lv_at hl 2 rfl) ?_
  refine lv_iload_n hx hb dX7_safe_3 rfl (lv_at hl 3 rfl) ?_
  refine lv_iload hx hb dX7_safe_4 (lv_at hl 4 rfl) ?_
  refine xg_ri (va_runV (As := [.int p, .int p2, .int y, .int z]) (rest := []) S (mX7_refusalOfClimb l D cI cZ bs ad ws b fk sk hO T hT p p2 y z) (cwV 4 hts gX7_safe_X7_refusalOfClimb rfl rfl rfl (by decide +kernel) ⟨Nat.le_of_ble_eq_true rfl, Nat.le_of_ble_eq_true rfl⟩) (xg_preV hK hG b hO rfl rfl) rfl rfl hl.1 rfl (lv_room (Nat.le_of_ble_eq_true rfl)) dX7_safe_6 ⟨Nat.zero_le _, Nat.zero_le _⟩) (fun r1 hr1 => ?_)
  replace hr1 := hr1.symm; subst hr1
  refine lv_topi (fun x2 ex2 => ?_)
  replace ex2 := ex2.symm
  refine lv_istore (lv' := [(6, .int x2), (0, .ref (ad b)), (1, .int p), (2, .int p2), (3, .int y), (4, .int z), (5, .int w9)]) hx hb dX7_safe_9 hl (by decide) rfl (fun ls hl => ?_)
  refine lv_iload hx hb dX7_safe_11 (lv_at hl 0 rfl) ?_
  refine lv_if_eq (tgt := 24) hx hb dX7_safe_13 (by decide) (fun c13 => ?_) (fun c13 => ?_)
  · skip
    have hc0 : dj_roc T p p2 y z = 0 := by subst ex2; exact c13
    obtain ⟨hq1, hq2, hq3, hq4, hq5, -⟩ := dj_roc_N hc0
    refine lv_iload hx hb dX7_safe_24 (lv_at hl 6 rfl) ?_
    refine lv_iconst (v := 0) hx hb dX7_safe_26 (by decide) ?_
    refine lv_iconst (v := 1) hx hb dX7_safe_27 (by decide) ?_
    refine xg_ri (va_runS (As := [.int w9, .int 0, .int 1]) (rest := []) S (mX7_within l D cI cZ bs ad ws w9 0 1) (va_cwS 3 hts gX7_safe_X7_within rfl rfl rfl (by decide +kernel) ⟨Nat.le_of_ble_eq_true rfl, Nat.le_of_ble_eq_true rfl⟩) (xg_preS hK hG) rfl rfl hl.1 rfl (lv_room (Nat.le_of_ble_eq_true rfl)) dX7_safe_28 ⟨Nat.zero_le _, Nat.zero_le _⟩) (fun r3 hr3 => ?_)
    replace hr3 := hr3.symm; subst hr3
    refine xb_ifne (tgt := 38) S dX7_safe_31 (by decide) (fun c31 => ?_) (fun c31 => ?_)
    · skip
      refine lv_aload_n hx hb dX7_safe_38 rfl (lv_at hl 1 rfl) ?_
      refine xg_get (C := RX7) (T := TX7) (N := 10) S hK hG (fun w h => List.mem_cons_of_mem _ (List.mem_append_left _ (List.mem_append_left _ (List.mem_append_left _ (List.mem_append_right _ (h)))))) b hO rfl 7 (by decide) k0 (fun _ h9 => h9) rfl dX7_safe_39 ?_
      refine lv_aload_n hx hb dX7_safe_42 rfl (lv_at hl 1 rfl) ?_
      refine xg_get (C := RX7) (T := TX7) (N := 10) S hK hG (fun w h => List.mem_cons_of_mem _ (List.mem_append_left _ (List.mem_append_left _ (List.mem_append_left _ (List.mem_append_right _ (h)))))) b hO rfl 0 (by decide) k1 (fun _ h9 => h9) rfl dX7_safe_43 ?_
      refine lv_iload_n hx hb dX7_safe_46 rfl (lv_at hl 2 rfl) ?_
      refine lv_iload_n hx hb dX7_safe_47 rfl (lv_at hl 3 rfl) ?_
      refine lv_iload_n hx hb dX7_safe_48 rfl (lv_at hl 4 rfl) ?_
      refine lv_iload hx hb dX7_safe_49 (lv_at hl 5 rfl) ?_
      refine xg_mv (va_runV (As := [.ref (ad (b + 1)), .int p, .int p2, .int y, .int z]) (rest := []) S (mX1_go l D cI cZ bs ad ws (b + 58) (b + 1) dn0 la0 re0 hCl u0 v0 hCc T hT p p2 y z y.toNatClampNeg z.toNatClampNeg st hq1 hq2 (by first | assumption | omega) hq3 (by omega) hq5 (by first | assumption | omega) (by first | assumption | omega) (by first | assumption | omega)) (cwV 5 hts gX7_safe_X1_go rfl rfl rfl (by decide +kernel) ⟨Nat.le_of_ble_eq_true rfl, Nat.le_of_ble_eq_true rfl⟩) (xg_preV hK hG (b + 58) hCl rfl rfl) rfl rfl hl.1 rfl (lv_room (Nat.le_of_ble_eq_true rfl)) dX7_safe_51 ⟨Nat.zero_le _, Nat.zero_le _⟩) hG (fun w5 H locs hr4 hG => ?_)
      obtain ⟨hvw5_0, hvw5_1, hvw5_2, hsw5⟩ := hr4
      have hCl : w5[b + 58]? = some (ad (b + 58), .inr (1, [.ref (ad (b + 59)), .int ((dc_clm T p p2 y.toNatClampNeg z.toNatClampNeg st).1), .int ((dc_clm T p p2 y.toNatClampNeg z.toNatClampNeg st).2.1), .int ((dc_clm T p p2 y.toNatClampNeg z.toNatClampNeg st).2.2.1)])) := hvw5_0
      obtain ⟨x6, ex6⟩ : ∃ zz : Int32, ((dc_clm T p p2 y.toNatClampNeg z.toNatClampNeg st).1) = zz := ⟨_, rfl⟩
      rw [ex6] at hCl
      obtain ⟨x7, ex7⟩ : ∃ zz : Int32, ((dc_clm T p p2 y.toNatClampNeg z.toNatClampNeg st).2.1) = zz := ⟨_, rfl⟩
      rw [ex7] at hCl
      obtain ⟨x8, ex8⟩ : ∃ zz : Int32, ((dc_clm T p p2 y.toNatClampNeg z.toNatClampNeg st).2.2.1) = zz := ⟨_, rfl⟩
      rw [ex8] at hCl
      have hCc : w5[b + 59]? = some (ad (b + 59), .inr (0, [.long ((dc_clm T p p2 y.toNatClampNeg z.toNatClampNeg st).2.2.2.1), .long ((dc_clm T p p2 y.toNatClampNeg z.toNatClampNeg st).2.2.2.2)])) := hvw5_1
      obtain ⟨x9, ex9⟩ : ∃ zz : Int64, ((dc_clm T p p2 y.toNatClampNeg z.toNatClampNeg st).2.2.2.1) = zz := ⟨_, rfl⟩
      rw [ex9] at hCc
      obtain ⟨x10, ex10⟩ : ∃ zz : Int64, ((dc_clm T p p2 y.toNatClampNeg z.toNatClampNeg st).2.2.2.2) = zz := ⟨_, rfl⟩
      rw [ex10] at hCc
      have hT : xv_T cI ad w5 (b + 1) T := hvw5_2
      have hO : w5[b]? = some (ad b, .inr (7, [.ref (ad (b + 1)), .ref (ad (b + 14)), .ref (ad (b + 27)), .int fk, .int sk, .ref (ad (b + 40)), .ref (ad (b + 42)), .ref (ad (b + 58)), .ref (ad (b + 60)), .ref (ad (b + 61))])) := hsw5.at hO (by omega)
      have hSw5 : xv_S ws w5 (b + 58) 2 := hsw5.mono (by omega) (by omega)
      refine lv_aload_n hx hb dX7_safe_54 rfl (lv_at hl 1 rfl) ?_
      refine xg_get (C := RX7) (T := TX7) (N := 10) S hK hG (fun w h => List.mem_cons_of_mem _ (List.mem_append_left _ (List.mem_append_left _ (List.mem_append_left _ (List.mem_append_right _ (h)))))) b hO rfl 7 (by decide) k0 (fun _ h9 => h9) rfl dX7_safe_55 ?_
      refine xg_get (C := RX1) (T := TX1) (N := 4) S hK hG (fun w h => List.mem_cons_of_mem _ (List.mem_append_left _ (List.mem_append_left _ (List.mem_append_right _ (h))))) (b + 58) hCl rfl 0 (by decide) k2 (fun _ h9 => h9) rfl dX7_safe_58 ?_
      refine lv_iload hx hb dX7_safe_61 (lv_at hl 6 rfl) ?_
      refine xg_rl (va_runV (As := [.int w9]) (rest := []) S (mX0_lowest l D cI cZ bs ad w5 (b + 59) x9 x10 hCc w9) (cwV 1 hts gX7_safe_X0_lowest rfl rfl rfl (by decide +kernel) ⟨Nat.le_of_ble_eq_true rfl, Nat.le_of_ble_eq_true rfl⟩) (xg_preV hK hG (b + 59) hCc rfl rfl) rfl rfl hl.1 rfl (lv_room (Nat.le_of_ble_eq_true rfl)) dX7_safe_63 ⟨Nat.zero_le _, Nat.zero_le _⟩) (fun r11 hr11 => ?_)
      replace hr11 := hr11.symm; subst hr11
      rw [hQ]
      exact xg_eml S hr hlk hK hG ⟨(by subst ex2 ex6 ex7 ex8 ex9 ex10; simp only [dj_saf, dj_clm, c13, c31, if_true, if_false, Bool.false_eq_true]), hO, hT, ⟨_, _, _, hCl⟩, ⟨_, _, hCc⟩, hSw5⟩ dX7_safe_66
    · skip
      refine lv_ldc2 (v := (-1000000000000000002)) hx hb hown k3 dX7_safe_34 ?_
      rw [hQ]
      exact xg_eml S hr hlk hK hG ⟨(by subst ex2; simp only [dj_saf, dj_clm, c13, c31, if_true, if_false, Bool.false_eq_true]), hO, hT, ⟨_, _, _, hCl⟩, ⟨_, _, hCc⟩, xv_S.rf⟩ dX7_safe_37
  · skip
    refine lv_ldc2 (v := (-1000000000000000000)) hx hb hown k4 dX7_safe_16 ?_
    refine lv_iload hx hb dX7_safe_19 (lv_at hl 0 rfl) ?_
    refine lv_i2l (v := x2.toInt64) hx hb dX7_safe_21 rfl ?_
    refine lv_ladd hx hb dX7_safe_22 ?_
    rw [hQ]
    exact xg_eml S hr hlk hK hG ⟨(by subst ex2; simp only [dj_saf, dj_clm, c13, if_true, if_false, Bool.false_eq_true]), hO, hT, ⟨_, _, _, hCl⟩, ⟨_, _, hCc⟩, xv_S.rf⟩ dX7_safe_23
set_option maxHeartbeats 4000000 in
set_option maxRecDepth 100000 in
theorem mX7_game (l : Launch) (D : va_G) (cI cZ : ClassId) (bs : Nat) (ad : Nat → Nat) (ws : va_W) (b : Nat) (fk : Int32) (sk : Int32) (hO : ws[b]? = some (ad b, .inr (7, [.ref (ad (b + 1)), .ref (ad (b + 14)), .ref (ad (b + 27)), .int fk, .int sk, .ref (ad (b + 40)), .ref (ad (b + 42)), .ref (ad (b + 58)), .ref (ad (b + 60)), .ref (ad (b + 61))]))) (T : Nat → Nat → Int32) (hT : xv_T cI ad ws (b + 1) T) (ch0 : Int32) (td0 : Int32) (tr0 : Int32) (hGa : ws[b + 60]? = some (ad (b + 60), .inr (2, [.int ch0, .int td0, .int tr0]))) (p : Int32) (p2 : Int32) (y : Int32) (z : Int32) (w9 : Int32) (st : Nat) (hst : xb_at 7 (T 0) 0 = nI st) (h4 : 1 ≤ st) (h5 : st ≤ 9) : Met l yX7_game wsX7_game ({ frames := 5, cells := 0, slots := 0, locals := 132 } : Room) (va_Pc [.ref (ad b), .int p, .int p2, .int y, .int z, .int w9] (fun U => xg_W D cI cZ bs ws U)) (va_Qi (fun (r : Int32) (w : va_W) => r = dj_gam T p p2 y z w9 st ∧ w[b]? = some (ad b, .inr (7, [.ref (ad (b + 1)), .ref (ad (b + 14)), .ref (ad (b + 27)), .int fk, .int sk, .ref (ad (b + 40)), .ref (ad (b + 42)), .ref (ad (b + 58)), .ref (ad (b + 60)), .ref (ad (b + 61))])) ∧ xv_T cI ad w (b + 1) T ∧ (∃ (ch0 : Int32) (td0 : Int32) (tr0 : Int32), w[b + 60]? = some (ad (b + 60), .inr (2, [.int ch0, .int td0, .int tr0]))) ∧ xv_S ws w (b + 60) 1) (fun w t => xg_W D cI cZ bs w t) (xg_A bs)) 0 0 (xg_A bs) := by
  refine xg_met cX7_game 7 (some .int) RX7 (by decide) rfl rfl (Nat.le_of_ble_eq_true rfl) ?_
  intro pg en s m below meth c ls S hr hlk hnm hB hl
  have hK := hB.1
  have hG := xg_start hB
  obtain ⟨hx, hb, hml, hown, hts⟩ := id S
  have hl : lv_has ls 7 [(0, .ref (ad b)), (1, .int p), (2, .int p2), (3, .int y), (4, .int z), (5, .int w9)] := hl
  obtain ⟨Q, hQ⟩ : ∃ Q, Q = MQ below (va_Qi (fun (r : Int32) (w : va_W) => r = dj_gam T p p2 y z w9 st ∧ w[b]? = some (ad b, .inr (7, [.ref (ad (b + 1)), .ref (ad (b + 14)), .ref (ad (b + 27)), .int fk, .int sk, .ref (ad (b + 40)), .ref (ad (b + 42)), .ref (ad (b + 58)), .ref (ad (b + 60)), .ref (ad (b + 61))])) ∧ xv_T cI ad w (b + 1) T ∧ (∃ (ch0 : Int32) (td0 : Int32) (tr0 : Int32), w[b + 60]? = some (ad (b + 60), .inr (2, [.int ch0, .int td0, .int tr0]))) ∧ xv_S ws w (b + 60) 1) (fun w t => xg_W D cI cZ bs w t) (xg_A bs)) ([.ref (ad b), .int p, .int p2, .int y, .int z, .int w9] : List Value).toArray s 0 0 (xg_A bs) := ⟨_, rfl⟩
  rw [← hQ]
  have k0 := hts (.fieldLink RX7 53 "DareBridge" "doubling" "LDareBridge$Game;") (List.mem_of_getElem? (i := 1) rfl)
  have k1 := hts (.fieldLink RX7 10 "DareBridge" "now" "LDareBridge$Town;") (List.mem_of_getElem? (i := 2) rfl)
  have k2 := hts (.fieldLink RX7 226 "DareBridge$Game" "choice" "I") (List.mem_of_getElem? (i := 3) rfl)
  have k3 := hts (.constant RX7 187 (1000000)) (List.mem_of_getElem? (i := 4) rfl)
  have k4 := hts (.fieldLink RX7 229 "DareBridge$Game" "toDared" "I") (List.mem_of_getElem? (i := 5) rfl)
  have k5 := hts (.fieldLink RX7 232 "DareBridge$Game" "toDarer" "I") (List.mem_of_getElem? (i := 6) rfl)
  refine lv_aload_n hx hb dX7_game_0 rfl (lv_at hl 0 rfl) ?_
  refine lv_iload_n hx hb dX7_game_1 rfl (lv_at hl 1 rfl) ?_
  refine lv_iload_n hx hb dX7_game_2 rfl (lv_at hl 2 rfl) ?_
  refine lv_iload_n hx hb dX7_game_3 rfl (lv_at hl 3 rfl) ?_
  refine lv_iload hx hb dX7_game_4 (lv_at hl 4 rfl) ?_
  refine xg_ri (va_runV (As := [.int p, .int p2, .int y, .int z]) (rest := []) S (mX7_refusalOfClimb l D cI cZ bs ad ws b fk sk hO T hT p p2 y z) (cwV 4 hts gX7_game_X7_refusalOfClimb rfl rfl rfl (by decide +kernel) ⟨Nat.le_of_ble_eq_true rfl, Nat.le_of_ble_eq_true rfl⟩) (xg_preV hK hG b hO rfl rfl) rfl rfl hl.1 rfl (lv_room (Nat.le_of_ble_eq_true rfl)) dX7_game_6 ⟨Nat.zero_le _, Nat.zero_le _⟩) (fun r1 hr1 => ?_)
  replace hr1 := hr1.symm; subst hr1
  refine lv_topi (fun x2 ex2 => ?_)
  replace ex2 := ex2.symm
  refine lv_istore (lv' := [(6, .int x2), (0, .ref (ad b)), (1, .int p), (2, .int p2), (3, .int y), (4, .int z), (5, .int w9)]) hx hb dX7_game_9 hl (by decide) rfl (fun ls hl => ?_)
  refine lv_iload hx hb dX7_game_11 (lv_at hl 0 rfl) ?_
  refine lv_if_eq (tgt := 19) hx hb dX7_game_13 (by decide) (fun c13 => ?_) (fun c13 => ?_)
  · skip
    refine lv_iload hx hb dX7_game_19 (lv_at hl 6 rfl) ?_
    refine lv_iconst (v := 0) hx hb dX7_game_21 (by decide) ?_
    refine lv_iconst (v := 2) hx hb dX7_game_22 (by decide) ?_
    refine xg_ri (va_runS (As := [.int w9, .int 0, .int 2]) (rest := []) S (mX7_within l D cI cZ bs ad ws w9 0 2) (va_cwS 3 hts gX7_game_X7_within rfl rfl rfl (by decide +kernel) ⟨Nat.le_of_ble_eq_true rfl, Nat.le_of_ble_eq_true rfl⟩) (xg_preS hK hG) rfl rfl hl.1 rfl (lv_room (Nat.le_of_ble_eq_true rfl)) dX7_game_23 ⟨Nat.zero_le _, Nat.zero_le _⟩) (fun r3 hr3 => ?_)
    replace hr3 := hr3.symm; subst hr3
    refine xb_ifne (tgt := 32) S dX7_game_26 (by decide) (fun c26 => ?_) (fun c26 => ?_)
    · skip
      refine lv_aload_n hx hb dX7_game_32 rfl (lv_at hl 1 rfl) ?_
      refine xg_get (C := RX7) (T := TX7) (N := 10) S hK hG (fun w h => List.mem_cons_of_mem _ (List.mem_append_left _ (List.mem_append_left _ (List.mem_append_right _ (h))))) b hO rfl 8 (by decide) k0 (fun _ h9 => h9) rfl dX7_game_33 ?_
      refine lv_aload_n hx hb dX7_game_36 rfl (lv_at hl 1 rfl) ?_
      refine xg_get (C := RX7) (T := TX7) (N := 10) S hK hG (fun w h => List.mem_cons_of_mem _ (List.mem_append_left _ (List.mem_append_left _ (List.mem_append_right _ (h))))) b hO rfl 0 (by decide) k1 (fun _ h9 => h9) rfl dX7_game_37 ?_
      refine lv_iload_n hx hb dX7_game_40 rfl (lv_at hl 2 rfl) ?_
      refine lv_iload_n hx hb dX7_game_41 rfl (lv_at hl 3 rfl) ?_
      refine lv_iload_n hx hb dX7_game_42 rfl (lv_at hl 4 rfl) ?_
      refine lv_iload hx hb dX7_game_43 (lv_at hl 5 rfl) ?_
      refine xg_mv (va_runV (As := [.ref (ad (b + 1)), .int p, .int p2, .int y, .int z]) (rest := []) S (mX2_solve l D cI cZ bs ad ws (b + 60) (b + 1) ch0 td0 tr0 hGa T hT p p2 y z st (by first | assumption | omega) (by first | assumption | omega) (by first | assumption | omega) (by first | assumption | omega)) (cwV 5 hts gX7_game_X2_solve rfl rfl rfl (by decide +kernel) ⟨Nat.le_of_ble_eq_true rfl, Nat.le_of_ble_eq_true rfl⟩) (xg_preV hK hG (b + 60) hGa rfl rfl) rfl rfl hl.1 rfl (lv_room (Nat.le_of_ble_eq_true rfl)) dX7_game_45 ⟨Nat.zero_le _, Nat.zero_le _⟩) hG (fun w5 H locs hr4 hG => ?_)
      obtain ⟨hvw5_0, hvw5_1, hsw5⟩ := hr4
      have hGa : w5[b + 60]? = some (ad (b + 60), .inr (2, [.int ((dg_run T p p2 y z (nI st) 16 (0, 0, 0)).1), .int ((dg_run T p p2 y z (nI st) 16 (0, 0, 0)).2.1), .int ((dg_run T p p2 y z (nI st) 16 (0, 0, 0)).2.2)])) := hvw5_0
      obtain ⟨x6, ex6⟩ : ∃ zz : Int32, ((dg_run T p p2 y z (nI st) 16 (0, 0, 0)).1) = zz := ⟨_, rfl⟩
      rw [ex6] at hGa
      obtain ⟨x7, ex7⟩ : ∃ zz : Int32, ((dg_run T p p2 y z (nI st) 16 (0, 0, 0)).2.1) = zz := ⟨_, rfl⟩
      rw [ex7] at hGa
      obtain ⟨x8, ex8⟩ : ∃ zz : Int32, ((dg_run T p p2 y z (nI st) 16 (0, 0, 0)).2.2) = zz := ⟨_, rfl⟩
      rw [ex8] at hGa
      have hT : xv_T cI ad w5 (b + 1) T := hvw5_1
      have hO : w5[b]? = some (ad b, .inr (7, [.ref (ad (b + 1)), .ref (ad (b + 14)), .ref (ad (b + 27)), .int fk, .int sk, .ref (ad (b + 40)), .ref (ad (b + 42)), .ref (ad (b + 58)), .ref (ad (b + 60)), .ref (ad (b + 61))])) := hsw5.at hO (by omega)
      have hSw5 : xv_S ws w5 (b + 60) 1 := hsw5.mono (by omega) (by omega)
      refine lv_iload hx hb dX7_game_48 (lv_at hl 6 rfl) ?_
      by_cases sw9_0 : w9 = 0
      · skip
        refine lv_lookup (off := 26) (tgt := 76) hx hb dX7_game_50 (by decide) (by rw [sw9_0]; rfl) (by decide) ?_
        refine lv_aload_n hx hb dX7_game_76 rfl (lv_at hl 1 rfl) ?_
        refine xg_get (C := RX7) (T := TX7) (N := 10) S hK hG (fun w h => List.mem_cons_of_mem _ (List.mem_append_left _ (List.mem_append_left _ (List.mem_append_right _ (h))))) b hO rfl 8 (by decide) k0 (fun _ h9 => h9) rfl dX7_game_77 ?_
        refine xg_get (C := RX2) (T := TX2) (N := 3) S hK hG (fun w h => List.mem_cons_of_mem _ (List.mem_append_left _ (List.mem_append_right _ (h)))) (b + 60) hGa rfl 0 (by decide) k2 (fun _ h9 => h9) rfl dX7_game_80 ?_
        rw [hQ]
        exact xg_emi S hr hlk hK hG ⟨(by subst ex2 ex6 ex7 ex8; first | (simp only [dj_gam, c13, c26, sw9_0, if_true, if_false, Bool.false_eq_true]; done) | (unfold dj_gam; rw [if_pos c13, if_pos c26]; simp only [dj_gmr, c13, c26, sw9_0, xs_10, if_true, if_false])), hO, hT, ⟨_, _, _, hGa⟩, hSw5⟩ dX7_game_83
      · skip
        by_cases sw9_1 : w9 = 1
        · skip
          refine lv_lookup (off := 34) (tgt := 84) hx hb dX7_game_50 (by decide) (by rw [sw9_1]; rfl) (by decide) ?_
          refine lv_ldc (v := 1000000) hx hb hown k3 dX7_game_84 ?_
          refine lv_aload_n hx hb dX7_game_86 rfl (lv_at hl 1 rfl) ?_
          refine xg_get (C := RX7) (T := TX7) (N := 10) S hK hG (fun w h => List.mem_cons_of_mem _ (List.mem_append_left _ (List.mem_append_left _ (List.mem_append_right _ (h))))) b hO rfl 8 (by decide) k0 (fun _ h9 => h9) rfl dX7_game_87 ?_
          refine xg_get (C := RX2) (T := TX2) (N := 3) S hK hG (fun w h => List.mem_cons_of_mem _ (List.mem_append_left _ (List.mem_append_right _ (h)))) (b + 60) hGa rfl 1 (by decide) k4 (fun _ h9 => h9) rfl dX7_game_90 ?_
          refine lv_iadd hx hb dX7_game_93 ?_
          rw [hQ]
          exact xg_emi S hr hlk hK hG ⟨(by subst ex2 ex6 ex7 ex8; first | (simp only [dj_gam, c13, c26, sw9_0, sw9_1, if_true, if_false, Bool.false_eq_true]; done) | (unfold dj_gam; rw [if_pos c13, if_pos c26]; simp only [dj_gmr, c13, c26, sw9_0, sw9_1, xs_10, if_true, if_false])), hO, hT, ⟨_, _, _, hGa⟩, hSw5⟩ dX7_game_94
        · skip
          have tsw9_0 : ¬ ((0 : Int) = (w9 : Int32).toInt) := fun q => sw9_0 (Int32.toInt_inj.mp (by rw [← q]; rfl))
          have tsw9_1 : ¬ ((1 : Int) = (w9 : Int32).toInt) := fun q => sw9_1 (Int32.toInt_inj.mp (by rw [← q]; rfl))
          refine lv_lookup (off := 45) (tgt := 95) hx hb dX7_game_50 (by decide) (by simp [Op.lookupswitch.offset, tsw9_0, tsw9_1]) (by decide) ?_
          refine lv_ldc (v := 1000000) hx hb hown k3 dX7_game_95 ?_
          refine lv_aload_n hx hb dX7_game_97 rfl (lv_at hl 1 rfl) ?_
          refine xg_get (C := RX7) (T := TX7) (N := 10) S hK hG (fun w h => List.mem_cons_of_mem _ (List.mem_append_left _ (List.mem_append_left _ (List.mem_append_right _ (h))))) b hO rfl 8 (by decide) k0 (fun _ h9 => h9) rfl dX7_game_98 ?_
          refine xg_get (C := RX2) (T := TX2) (N := 3) S hK hG (fun w h => List.mem_cons_of_mem _ (List.mem_append_left _ (List.mem_append_right _ (h)))) (b + 60) hGa rfl 2 (by decide) k5 (fun _ h9 => h9) rfl dX7_game_101 ?_
          refine lv_iadd hx hb dX7_game_104 ?_
          rw [hQ]
          exact xg_emi S hr hlk hK hG ⟨(by subst ex2 ex6 ex7 ex8; first | (simp only [dj_gam, c13, c26, sw9_0, sw9_1, if_true, if_false, Bool.false_eq_true]; done) | (unfold dj_gam; rw [if_pos c13, if_pos c26]; simp only [dj_gmr, c13, c26, sw9_0, sw9_1, xs_10, if_true, if_false])), hO, hT, ⟨_, _, _, hGa⟩, hSw5⟩ dX7_game_105
    · skip
      refine lv_bipush (v := (-2)) hx hb dX7_game_29 (by decide) ?_
      rw [hQ]
      exact xg_emi S hr hlk hK hG ⟨(by subst ex2; first | (simp only [dj_gam, c13, c26, if_true, if_false, Bool.false_eq_true]; done) | (unfold dj_gam; rw [if_pos c13, if_pos c26]; simp only [dj_gmr, c13, c26, xs_10, if_true, if_false])), hO, hT, ⟨_, _, _, hGa⟩, xv_S.rf⟩ dX7_game_31
  · skip
    refine lv_iload hx hb dX7_game_16 (lv_at hl 0 rfl) ?_
    rw [hQ]
    exact xg_emi S hr hlk hK hG ⟨(by subst ex2; first | (simp only [dj_gam, c13, if_true, if_false, Bool.false_eq_true]; done) | (unfold dj_gam; rw [if_pos c13, if_pos c26]; simp only [dj_gmr, c13, xs_10, if_true, if_false])), hO, hT, ⟨_, _, _, hGa⟩, xv_S.rf⟩ dX7_game_18
set_option maxHeartbeats 4000000 in
set_option maxRecDepth 100000 in
theorem mX7_law (l : Launch) (D : va_G) (cI cZ : ClassId) (bs : Nat) (ad : Nat → Nat) (ws : va_W) (b : Nat) (fk : Int32) (sk : Int32) (hO : ws[b]? = some (ad b, .inr (7, [.ref (ad (b + 1)), .ref (ad (b + 14)), .ref (ad (b + 27)), .int fk, .int sk, .ref (ad (b + 40)), .ref (ad (b + 42)), .ref (ad (b + 58)), .ref (ad (b + 60)), .ref (ad (b + 61))]))) (T : Nat → Nat → Int32) (hT : xv_T cI ad ws (b + 1) T) (dn0 : Int32) (la0 : Int32) (re0 : Int32) (hCl : ws[b + 58]? = some (ad (b + 58), .inr (1, [.ref (ad (b + 59)), .int dn0, .int la0, .int re0]))) (u0 : Int64) (v0 : Int64) (hCc : ws[b + 59]? = some (ad (b + 59), .inr (0, [.long u0, .long v0]))) (p : Int32) (p2 : Int32) (y : Int32) (a9 : Int32) (b9 : Int32) (st : Nat) (hst : xb_at 7 (T 0) 0 = nI st) (h4 : 1 ≤ st) (h5 : st ≤ 9) : Met l yX7_law wsX7_law ({ frames := 5, cells := 0, slots := 0, locals := 122 } : Room) (va_Pc [.ref (ad b), .int p, .int p2, .int y, .int a9, .int b9] (fun U => xg_W D cI cZ bs ws U)) (va_Qi (fun (r : Int32) (w : va_W) => r = dj_law T p p2 y a9 b9 st ∧ w[b]? = some (ad b, .inr (7, [.ref (ad (b + 1)), .ref (ad (b + 14)), .ref (ad (b + 27)), .int fk, .int sk, .ref (ad (b + 40)), .ref (ad (b + 42)), .ref (ad (b + 58)), .ref (ad (b + 60)), .ref (ad (b + 61))])) ∧ xv_T cI ad w (b + 1) T ∧ (∃ (dn0 : Int32) (la0 : Int32) (re0 : Int32), w[b + 58]? = some (ad (b + 58), .inr (1, [.ref (ad (b + 59)), .int dn0, .int la0, .int re0]))) ∧ (∃ (u0 : Int64) (v0 : Int64), w[b + 59]? = some (ad (b + 59), .inr (0, [.long u0, .long v0]))) ∧ xv_S ws w (b + 58) 2) (fun w t => xg_W D cI cZ bs w t) (xg_A bs)) 0 0 (xg_A bs) := by
  refine xg_met cX7_law 8 (some .int) RX7 (by decide) rfl rfl (Nat.le_of_ble_eq_true rfl) ?_
  intro pg en s m below meth c ls S hr hlk hnm hB hl
  have hK := hB.1
  have hG := xg_start hB
  obtain ⟨hx, hb, hml, hown, hts⟩ := id S
  have hl : lv_has ls 8 [(0, .ref (ad b)), (1, .int p), (2, .int p2), (3, .int y), (4, .int a9), (5, .int b9)] := hl
  obtain ⟨Q, hQ⟩ : ∃ Q, Q = MQ below (va_Qi (fun (r : Int32) (w : va_W) => r = dj_law T p p2 y a9 b9 st ∧ w[b]? = some (ad b, .inr (7, [.ref (ad (b + 1)), .ref (ad (b + 14)), .ref (ad (b + 27)), .int fk, .int sk, .ref (ad (b + 40)), .ref (ad (b + 42)), .ref (ad (b + 58)), .ref (ad (b + 60)), .ref (ad (b + 61))])) ∧ xv_T cI ad w (b + 1) T ∧ (∃ (dn0 : Int32) (la0 : Int32) (re0 : Int32), w[b + 58]? = some (ad (b + 58), .inr (1, [.ref (ad (b + 59)), .int dn0, .int la0, .int re0]))) ∧ (∃ (u0 : Int64) (v0 : Int64), w[b + 59]? = some (ad (b + 59), .inr (0, [.long u0, .long v0]))) ∧ xv_S ws w (b + 58) 2) (fun w t => xg_W D cI cZ bs w t) (xg_A bs)) ([.ref (ad b), .int p, .int p2, .int y, .int a9, .int b9] : List Value).toArray s 0 0 (xg_A bs) := ⟨_, rfl⟩
  rw [← hQ]
  have k0 := hts (.fieldLink RX7 46 "DareBridge" "climbing" "LDareBridge$Climb;") (List.mem_of_getElem? (i := 1) rfl)
  have k1 := hts (.fieldLink RX7 10 "DareBridge" "now" "LDareBridge$Town;") (List.mem_of_getElem? (i := 2) rfl)
  have k2 := hts (.fieldLink RX7 218 "DareBridge$Climb" "luck" "LDareBridge$Chance;") (List.mem_of_getElem? (i := 3) rfl)
  refine lv_aload_n hx hb dX7_law_0 rfl (lv_at hl 0 rfl) ?_
  refine lv_iload_n hx hb dX7_law_1 rfl (lv_at hl 1 rfl) ?_
  refine lv_iload_n hx hb dX7_law_2 rfl (lv_at hl 2 rfl) ?_
  refine lv_iload_n hx hb dX7_law_3 rfl (lv_at hl 3 rfl) ?_
  refine lv_bipush (v := 15) hx hb dX7_law_4 (by decide) ?_
  refine xg_ri (va_runV (As := [.int p, .int p2, .int y, .int 15]) (rest := []) S (mX7_refusalOfClimb l D cI cZ bs ad ws b fk sk hO T hT p p2 y 15) (cwV 4 hts gX7_law_X7_refusalOfClimb rfl rfl rfl (by decide +kernel) ⟨Nat.le_of_ble_eq_true rfl, Nat.le_of_ble_eq_true rfl⟩) (xg_preV hK hG b hO rfl rfl) rfl rfl hl.1 rfl (lv_room (Nat.le_of_ble_eq_true rfl)) dX7_law_6 ⟨Nat.zero_le _, Nat.zero_le _⟩) (fun r1 hr1 => ?_)
  replace hr1 := hr1.symm; subst hr1
  refine lv_topi (fun x2 ex2 => ?_)
  replace ex2 := ex2.symm
  refine lv_istore (lv' := [(6, .int x2), (0, .ref (ad b)), (1, .int p), (2, .int p2), (3, .int y), (4, .int a9), (5, .int b9)]) hx hb dX7_law_9 hl (by decide) rfl (fun ls hl => ?_)
  refine lv_iload hx hb dX7_law_11 (lv_at hl 0 rfl) ?_
  refine lv_if_eq (tgt := 19) hx hb dX7_law_13 (by decide) (fun c13 => ?_) (fun c13 => ?_)
  · skip
    have hc0 : dj_roc T p p2 y 15 = 0 := by subst ex2; exact c13
    obtain ⟨hq1, -, hq3, hq4, -, -⟩ := dj_roc_N hc0
    have hq4 : y.toNatClampNeg ≤ 15 := hq4
    refine lv_iload hx hb dX7_law_19 (lv_at hl 6 rfl) ?_
    refine lv_iconst (v := 1) hx hb dX7_law_21 (by decide) ?_
    refine lv_bipush (v := 100) hx hb dX7_law_22 (by decide) ?_
    refine xg_ri (va_runS (As := [.int b9, .int 1, .int 100]) (rest := []) S (mX7_within l D cI cZ bs ad ws b9 1 100) (va_cwS 3 hts gX7_law_X7_within rfl rfl rfl (by decide +kernel) ⟨Nat.le_of_ble_eq_true rfl, Nat.le_of_ble_eq_true rfl⟩) (xg_preS hK hG) rfl rfl hl.1 rfl (lv_room (Nat.le_of_ble_eq_true rfl)) dX7_law_24 ⟨Nat.zero_le _, Nat.zero_le _⟩) (fun r3 hr3 => ?_)
    replace hr3 := hr3.symm; subst hr3
    refine xb_ifeq (tgt := 41) S dX7_law_27 (by decide) (fun c27 => ?_) (fun c27 => ?_)
    · skip
      refine lv_bipush (v := (-2)) hx hb dX7_law_41 (by decide) ?_
      rw [hQ]
      exact xg_emi S hr hlk hK hG ⟨(by subst ex2; simp only [dj_law, c13, c27, if_true, if_false, Bool.false_eq_true]), hO, hT, ⟨_, _, _, hCl⟩, ⟨_, _, hCc⟩, xv_S.rf⟩ dX7_law_43
    · skip
      refine lv_iload hx hb dX7_law_30 (lv_at hl 5 rfl) ?_
      refine lv_iconst (v := 0) hx hb dX7_law_32 (by decide) ?_
      refine lv_iload hx hb dX7_law_33 (lv_at hl 6 rfl) ?_
      refine xg_ri (va_runS (As := [.int a9, .int 0, .int b9]) (rest := []) S (mX7_within l D cI cZ bs ad ws a9 0 b9) (va_cwS 3 hts gX7_law_X7_within rfl rfl rfl (by decide +kernel) ⟨Nat.le_of_ble_eq_true rfl, Nat.le_of_ble_eq_true rfl⟩) (xg_preS hK hG) rfl rfl hl.1 rfl (lv_room (Nat.le_of_ble_eq_true rfl)) dX7_law_35 ⟨Nat.zero_le _, Nat.zero_le _⟩) (fun r4 hr4 => ?_)
      replace hr4 := hr4.symm; subst hr4
      refine xb_ifne (tgt := 44) S dX7_law_38 (by decide) (fun c38 => ?_) (fun c38 => ?_)
      · skip
        refine lv_bipush (v := 15) hx hb dX7_law_44 (by decide) ?_
        refine lv_istore (lv' := [(7, .int 15), (6, .int x2), (0, .ref (ad b)), (1, .int p), (2, .int p2), (3, .int y), (4, .int a9), (5, .int b9)]) hx hb dX7_law_46 hl (by decide) rfl (fun ls hl => ?_)
        -- the loop at 48
        have lp48 : ∀ (fu : Nat) (k : Nat) (d1 : Int32) (l1 : Int32) (e1 : Int32) (u1 : Int64) (v1 : Int64), (k ≤ 15) → (y.toNatClampNeg ≤ k + 1) → (k < fu) → (dj_lwk T p p2 y.toNatClampNeg st a9 b9 (16 - y.toNatClampNeg) = dj_lwk T p p2 y.toNatClampNeg st a9 b9 (k + 1 - y.toNatClampNeg)) → ∀ y48_7 : Int32, y48_7 = nI k → ∀ (w48 : va_W) (H : Heap) (locs : List Loc), xg_H D bs w48 s.heap H locs → (w48[b]? = some (ad b, .inr (7, [.ref (ad (b + 1)), .ref (ad (b + 14)), .ref (ad (b + 27)), .int fk, .int sk, .ref (ad (b + 40)), .ref (ad (b + 42)), .ref (ad (b + 58)), .ref (ad (b + 60)), .ref (ad (b + 61))]))) → (xv_T cI ad w48 (b + 1) T) → (w48[b + 58]? = some (ad (b + 58), .inr (1, [.ref (ad (b + 59)), .int d1, .int l1, .int e1]))) → (w48[b + 59]? = some (ad (b + 59), .inr (0, [.long u1, .long v1]))) → xv_S ws w48 (b + 58) 2 → ∀ (ls : Array Slot), lv_has ls 8 [(0, .ref (ad b)), (1, .int p), (2, .int p2), (3, .int y), (4, .int a9), (5, .int b9), (6, .int x2), (7, .int y48_7)] → W pg l en ({ frames := 5, cells := 0, slots := 0, locals := 122 } : Room) s m ([.ref (ad b), .int p, .int p2, .int y, .int a9, .int b9] : List Value).toArray below meth c H locs 0 0 Q (F0 m 48 ls []) := by
          intro fu
          induction fu with
          | zero =>
            intro k d1 l1 e1 u1 v1 hk hkl hf hr2
            exact absurd hf (by omega)
          | succ fu ih48 =>
            intro k d1 l1 e1 u1 v1 hk hkl hf hr2 y48_7 ey48_7
            intro w48 H locs hG hO hT hCl hCc hSw48
            intro ls hl
            replace ey48_7 := ey48_7.symm; subst ey48_7
            refine lv_iload hx hb dX7_law_48 (lv_at hl 7 rfl) ?_
            refine lv_iload_n hx hb dX7_law_50 rfl (lv_at hl 3 rfl) ?_
            refine lv_icmp_lt (tgt := 96) hx hb dX7_law_51 (by decide) (fun c51 => ?_) (fun c51 => ?_)
            · skip
              have hk9 : k < y.toNatClampNeg := (nI_ltI (a := k) (by omega) (by omega)).mp (by rw [← hq1]; exact c51)
              refine lv_bipush (v := (-6)) hx hb dX7_law_96 (by decide) ?_
              rw [hQ]
              exact xg_emi S hr hlk hK hG ⟨(by subst ex2; unfold dj_law; rw [if_pos c13, if_pos c27, if_pos c38, hr2]; rw [show k + 1 - y.toNatClampNeg = 0 by omega, dj_lwk]), hO, hT, ⟨_, _, _, hCl⟩, ⟨_, _, hCc⟩, hSw48⟩ dX7_law_98
            · skip
              have hk9 : y.toNatClampNeg ≤ k := xb_nlt (by omega) (by omega) (by rw [← hq1]; exact c51)
              refine lv_aload_n hx hb dX7_law_54 rfl (lv_at hl 0 rfl) ?_
              refine xg_get (C := RX7) (T := TX7) (N := 10) S hK hG (fun w h => List.mem_cons_of_mem _ (List.mem_append_left _ (List.mem_append_left _ (List.mem_append_left _ (List.mem_append_right _ (h)))))) b hO rfl 7 (by decide) k0 (fun _ h9 => h9) rfl dX7_law_55 ?_
              refine lv_aload_n hx hb dX7_law_58 rfl (lv_at hl 0 rfl) ?_
              refine xg_get (C := RX7) (T := TX7) (N := 10) S hK hG (fun w h => List.mem_cons_of_mem _ (List.mem_append_left _ (List.mem_append_left _ (List.mem_append_left _ (List.mem_append_right _ (h)))))) b hO rfl 0 (by decide) k1 (fun _ h9 => h9) rfl dX7_law_59 ?_
              refine lv_iload_n hx hb dX7_law_62 rfl (lv_at hl 1 rfl) ?_
              refine lv_iload_n hx hb dX7_law_63 rfl (lv_at hl 2 rfl) ?_
              refine lv_iload_n hx hb dX7_law_64 rfl (lv_at hl 3 rfl) ?_
              refine lv_iload hx hb dX7_law_65 (lv_at hl 7 rfl) ?_
              refine xg_mv (va_runV (As := [.ref (ad (b + 1)), .int p, .int p2, .int y, .int (nI k)]) (rest := []) S (mX1_go l D cI cZ bs ad w48 (b + 58) (b + 1) d1 l1 e1 hCl u1 v1 hCc T hT p p2 y (nI k) y.toNatClampNeg k st hq1 rfl (by first | assumption | omega) hq3 (by omega) (by omega) (by first | assumption | omega) (by first | assumption | omega) (by first | assumption | omega)) (cwV 5 hts gX7_law_X1_go rfl rfl rfl (by decide +kernel) ⟨Nat.le_of_ble_eq_true rfl, Nat.le_of_ble_eq_true rfl⟩) (xg_preV hK hG (b + 58) hCl rfl rfl) rfl rfl hl.1 rfl (lv_room (Nat.le_of_ble_eq_true rfl)) dX7_law_67 ⟨Nat.zero_le _, Nat.zero_le _⟩) hG (fun w6 H locs hr5 hG => ?_)
              obtain ⟨hvw6_0, hvw6_1, hvw6_2, hsw6⟩ := hr5
              have hCl : w6[b + 58]? = some (ad (b + 58), .inr (1, [.ref (ad (b + 59)), .int ((dc_clm T p p2 y.toNatClampNeg k st).1), .int ((dc_clm T p p2 y.toNatClampNeg k st).2.1), .int ((dc_clm T p p2 y.toNatClampNeg k st).2.2.1)])) := hvw6_0
              obtain ⟨x7, ex7⟩ : ∃ zz : Int32, ((dc_clm T p p2 y.toNatClampNeg k st).1) = zz := ⟨_, rfl⟩
              rw [ex7] at hCl
              obtain ⟨x8, ex8⟩ : ∃ zz : Int32, ((dc_clm T p p2 y.toNatClampNeg k st).2.1) = zz := ⟨_, rfl⟩
              rw [ex8] at hCl
              obtain ⟨x9, ex9⟩ : ∃ zz : Int32, ((dc_clm T p p2 y.toNatClampNeg k st).2.2.1) = zz := ⟨_, rfl⟩
              rw [ex9] at hCl
              have hCc : w6[b + 59]? = some (ad (b + 59), .inr (0, [.long ((dc_clm T p p2 y.toNatClampNeg k st).2.2.2.1), .long ((dc_clm T p p2 y.toNatClampNeg k st).2.2.2.2)])) := hvw6_1
              obtain ⟨x10, ex10⟩ : ∃ zz : Int64, ((dc_clm T p p2 y.toNatClampNeg k st).2.2.2.1) = zz := ⟨_, rfl⟩
              rw [ex10] at hCc
              obtain ⟨x11, ex11⟩ : ∃ zz : Int64, ((dc_clm T p p2 y.toNatClampNeg k st).2.2.2.2) = zz := ⟨_, rfl⟩
              rw [ex11] at hCc
              have hT : xv_T cI ad w6 (b + 1) T := hvw6_2
              have hO : w6[b]? = some (ad b, .inr (7, [.ref (ad (b + 1)), .ref (ad (b + 14)), .ref (ad (b + 27)), .int fk, .int sk, .ref (ad (b + 40)), .ref (ad (b + 42)), .ref (ad (b + 58)), .ref (ad (b + 60)), .ref (ad (b + 61))])) := hsw6.at hO (by omega)
              have hSw6 : xv_S ws w6 (b + 58) 2 := hSw48.trans (hsw6.mono (by omega) (by omega))
              refine lv_aload_n hx hb dX7_law_70 rfl (lv_at hl 0 rfl) ?_
              refine xg_get (C := RX7) (T := TX7) (N := 10) S hK hG (fun w h => List.mem_cons_of_mem _ (List.mem_append_left _ (List.mem_append_left _ (List.mem_append_left _ (List.mem_append_right _ (h)))))) b hO rfl 7 (by decide) k0 (fun _ h9 => h9) rfl dX7_law_71 ?_
              refine xg_get (C := RX1) (T := TX1) (N := 4) S hK hG (fun w h => List.mem_cons_of_mem _ (List.mem_append_left _ (List.mem_append_left _ (List.mem_append_right _ (h))))) (b + 58) hCl rfl 0 (by decide) k2 (fun _ h9 => h9) rfl dX7_law_74 ?_
              refine lv_iload hx hb dX7_law_77 (lv_at hl 4 rfl) ?_
              refine lv_iload hx hb dX7_law_79 (lv_at hl 5 rfl) ?_
              refine xg_ri (va_runV (As := [.int a9, .int b9]) (rest := []) S (mX0_isAtLeast l D cI cZ bs ad w6 (b + 59) x10 x11 hCc a9 b9) (cwV 2 hts gX7_law_X0_isAtLeast rfl rfl rfl (by decide +kernel) ⟨Nat.le_of_ble_eq_true rfl, Nat.le_of_ble_eq_true rfl⟩) (xg_preV hK hG (b + 59) hCc rfl rfl) rfl rfl hl.1 rfl (lv_room (Nat.le_of_ble_eq_true rfl)) dX7_law_81 ⟨Nat.zero_le _, Nat.zero_le _⟩) (fun r12 hr12 => ?_)
              replace hr12 := hr12.symm; subst hr12
              refine xb_ifeq (tgt := 90) S dX7_law_84 (by decide) (fun c84 => ?_) (fun c84 => ?_)
              · skip
                obtain ⟨x13, ex13⟩ : ∃ zz : Int32, ((nI k) + (-1)) = zz := ⟨_, rfl⟩
                refine lv_iinc (v := x13) (lv' := [(7, .int x13), (0, .ref (ad b)), (1, .int p), (2, .int p2), (3, .int y), (4, .int a9), (5, .int b9), (6, .int x2)]) hx hb dX7_law_90 hl (k := 7) rfl (by rw [← ex13]; rfl) (by decide) rfl (fun ls hl => ?_)
                refine lv_goto (tgt := 48) hx hb dX7_law_93 (by decide) ?_
                exact ih48 (k - 1) x7 x8 x9 x10 x11 (by omega) (by omega) (by omega) (by subst ex2 ex7 ex8 ex9 ex10 ex11 ex13; rw [hr2, dj_lwk_S hk9, if_neg (by rw [show dj_lwB T p p2 y.toNatClampNeg k st a9 b9 = false from c84]; decide), show k - 1 + 1 - y.toNatClampNeg = k - y.toNatClampNeg by omega]) x13 (by subst ex2 ex7 ex8 ex9 ex10 ex11 ex13; exact xb_dec (by omega)) w6 _ _ hG hO hT hCl hCc hSw6 ls (lv_sub hl [1, 2, 3, 4, 5, 6, 7, 0] rfl)
              · skip
                refine lv_iload hx hb dX7_law_87 (lv_at hl 7 rfl) ?_
                rw [hQ]
                exact xg_emi S hr hlk hK hG ⟨(by subst ex2 ex7 ex8 ex9 ex10 ex11; unfold dj_law; rw [if_pos c13, if_pos c27, if_pos c38, hr2]; rw [dj_lwk_S hk9, if_pos (show dj_lwB T p p2 y.toNatClampNeg k st a9 b9 = true from c84)]), hO, hT, ⟨_, _, _, hCl⟩, ⟨_, _, hCc⟩, hSw6⟩ dX7_law_89
        exact lp48 16 15 dn0 la0 re0 u0 v0 (by omega) (by omega) (by omega) rfl 15 (by subst ex2; rfl) ws _ _ hG hO hT hCl hCc xv_S.rf ls (lv_sub hl [2, 3, 4, 5, 6, 7, 1, 0] rfl)
      · skip
        refine lv_bipush (v := (-2)) hx hb dX7_law_41 (by decide) ?_
        rw [hQ]
        exact xg_emi S hr hlk hK hG ⟨(by subst ex2; simp only [dj_law, c13, c27, c38, if_true, if_false, Bool.false_eq_true]), hO, hT, ⟨_, _, _, hCl⟩, ⟨_, _, hCc⟩, xv_S.rf⟩ dX7_law_43
  · skip
    refine lv_iload hx hb dX7_law_16 (lv_at hl 0 rfl) ?_
    rw [hQ]
    exact xg_emi S hr hlk hK hG ⟨(by subst ex2; simp only [dj_law, c13, if_true, if_false, Bool.false_eq_true]), hO, hT, ⟨_, _, _, hCl⟩, ⟨_, _, hCc⟩, xv_S.rf⟩ dX7_law_18
