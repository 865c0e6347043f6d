set_option maxHeartbeats 4000000 in
set_option maxRecDepth 100000 in
theorem mX7_judge (l : Launch) (D : va_G) (cI cZ : ClassId) (bs : Nat) (ad : Nat → Nat) (ws : va_W) (b : Nat) (fk : Int32) (sk : Int32) (hO : ws[b]? = some (ad b, .inr (7, [.ref (ad (b + 1)), .ref (ad (b + 14)), .ref (ad (b + 27)), .int fk, .int sk, .ref (ad (b + 40)), .ref (ad (b + 42)), .ref (ad (b + 58)), .ref (ad (b + 60)), .ref (ad (b + 61))]))) (T : Nat → Nat → Int32) (hT : xv_T cI ad ws (b + 1) T) (n : Int32) (hPo : ws[b + 40]? = some (ad (b + 40), .inr (3, [.ref (ad (b + 41)), .int n]))) (g : Nat → Int32) (hP : ws[b + 41]? = some (ad (b + 41), .inl (cI, 60, .inl g))) (ev : Int32) (wh : Int32) (dn : Int32) (rf : Int32) (db : Int32) (he : Int32) (hSo : ws[b + 42]? = some (ad (b + 42), .inr (4, [.ref (ad (b + 43)), .ref (ad (b + 56)), .ref (ad (b + 57)), .int ev, .int wh, .int dn, .int rf, .int db, .int he]))) (TA : Nat → Nat → Int32) (hA : xv_T cI ad ws (b + 43) TA) (f : Nat → Int32) (hTi : ws[b + 56]? = some (ad (b + 56), .inl (cI, 36, .inl f))) (u : Int64) (v : Int64) (hCh : ws[b + 57]? = some (ad (b + 57), .inr (0, [.long u, .long v]))) (x : Int32) (nn : Nat) (hnn : n = nI nn) (hn60 : nn ≤ 60) : Met l yX7_judge wsX7_judge ({ frames := 6, cells := 0, slots := 0, locals := 139 } : Room) (va_Pc [.ref (ad b), .int x] (fun U => xg_W D cI cZ bs ws U)) (va_Qi (fun (r : Int32) (w : va_W) => r = dj_jud (dk_ret T g nn) (dk_ply T g nn (ev, wh, (TA, f, (he, u, v), (dn, rf, db)))) x ∧ w[b]? = some (ad b, .inr (7, [.ref (ad (b + 1)), .ref (ad (b + 14)), .ref (ad (b + 27)), .int fk, .int sk, .ref (ad (b + 40)), .ref (ad (b + 42)), .ref (ad (b + 58)), .ref (ad (b + 60)), .ref (ad (b + 61))])) ∧ xv_T cI ad w (b + 1) T ∧ w[b + 40]? = some (ad (b + 40), .inr (3, [.ref (ad (b + 41)), .int n])) ∧ w[b + 41]? = some (ad (b + 41), .inl (cI, 60, .inl g)) ∧ w[b + 42]? = some (ad (b + 42), .inr (4, [.ref (ad (b + 43)), .ref (ad (b + 56)), .ref (ad (b + 57)), .int ((dj_aft (xw_in x 0 4 = true) (dk_ply T g nn (ev, wh, (TA, f, (he, u, v), (dn, rf, db)))) (ev, wh, (TA, f, (he, u, v), (dn, rf, db)))).1), .int ((dj_aft (xw_in x 0 4 = true) (dk_ply T g nn (ev, wh, (TA, f, (he, u, v), (dn, rf, db)))) (ev, wh, (TA, f, (he, u, v), (dn, rf, db)))).2.1), .int ((dj_aft (xw_in x 0 4 = true) (dk_ply T g nn (ev, wh, (TA, f, (he, u, v), (dn, rf, db)))) (ev, wh, (TA, f, (he, u, v), (dn, rf, db)))).2.2.2.2.2.1), .int ((dj_aft (xw_in x 0 4 = true) (dk_ply T g nn (ev, wh, (TA, f, (he, u, v), (dn, rf, db)))) (ev, wh, (TA, f, (he, u, v), (dn, rf, db)))).2.2.2.2.2.2.1), .int ((dj_aft (xw_in x 0 4 = true) (dk_ply T g nn (ev, wh, (TA, f, (he, u, v), (dn, rf, db)))) (ev, wh, (TA, f, (he, u, v), (dn, rf, db)))).2.2.2.2.2.2.2), .int ((dj_aft (xw_in x 0 4 = true) (dk_ply T g nn (ev, wh, (TA, f, (he, u, v), (dn, rf, db)))) (ev, wh, (TA, f, (he, u, v), (dn, rf, db)))).2.2.2.2.1.1)])) ∧ xv_T cI ad w (b + 43) ((dj_aft (xw_in x 0 4 = true) (dk_ply T g nn (ev, wh, (TA, f, (he, u, v), (dn, rf, db)))) (ev, wh, (TA, f, (he, u, v), (dn, rf, db)))).2.2.1) ∧ w[b + 56]? = some (ad (b + 56), .inl (cI, 36, .inl ((dj_aft (xw_in x 0 4 = true) (dk_ply T g nn (ev, wh, (TA, f, (he, u, v), (dn, rf, db)))) (ev, wh, (TA, f, (he, u, v), (dn, rf, db)))).2.2.2.1))) ∧ w[b + 57]? = some (ad (b + 57), .inr (0, [.long ((dj_aft (xw_in x 0 4 = true) (dk_ply T g nn (ev, wh, (TA, f, (he, u, v), (dn, rf, db)))) (ev, wh, (TA, f, (he, u, v), (dn, rf, db)))).2.2.2.2.1.2.1), .long ((dj_aft (xw_in x 0 4 = true) (dk_ply T g nn (ev, wh, (TA, f, (he, u, v), (dn, rf, db)))) (ev, wh, (TA, f, (he, u, v), (dn, rf, db)))).2.2.2.2.1.2.2)])) ∧ xv_S ws w (b + 42) 16) (fun w t => xg_W D cI cZ bs w t) (xg_A bs)) 0 0 (xg_A bs) := by
  refine xg_met cX7_judge 3 (some .int) RX7 (by decide) rfl rfl (Nat.le_of_ble_eq_true rfl) ?_
  intro pg en s m below meth c ls S hr hlk hnm hB hl
  have hK := hB.1
  have hG := xg_start hB
  obtain ⟨hx, hb, hml, hown, hts⟩ := id S
  have hl : lv_has ls 3 [(0, .ref (ad b)), (1, .int x)] := hl
  obtain ⟨Q, hQ⟩ : ∃ Q, Q = MQ below (va_Qi (fun (r : Int32) (w : va_W) => r = dj_jud (dk_ret T g nn) (dk_ply T g nn (ev, wh, (TA, f, (he, u, v), (dn, rf, db)))) x ∧ w[b]? = some (ad b, .inr (7, [.ref (ad (b + 1)), .ref (ad (b + 14)), .ref (ad (b + 27)), .int fk, .int sk, .ref (ad (b + 40)), .ref (ad (b + 42)), .ref (ad (b + 58)), .ref (ad (b + 60)), .ref (ad (b + 61))])) ∧ xv_T cI ad w (b + 1) T ∧ w[b + 40]? = some (ad (b + 40), .inr (3, [.ref (ad (b + 41)), .int n])) ∧ w[b + 41]? = some (ad (b + 41), .inl (cI, 60, .inl g)) ∧ w[b + 42]? = some (ad (b + 42), .inr (4, [.ref (ad (b + 43)), .ref (ad (b + 56)), .ref (ad (b + 57)), .int ((dj_aft (xw_in x 0 4 = true) (dk_ply T g nn (ev, wh, (TA, f, (he, u, v), (dn, rf, db)))) (ev, wh, (TA, f, (he, u, v), (dn, rf, db)))).1), .int ((dj_aft (xw_in x 0 4 = true) (dk_ply T g nn (ev, wh, (TA, f, (he, u, v), (dn, rf, db)))) (ev, wh, (TA, f, (he, u, v), (dn, rf, db)))).2.1), .int ((dj_aft (xw_in x 0 4 = true) (dk_ply T g nn (ev, wh, (TA, f, (he, u, v), (dn, rf, db)))) (ev, wh, (TA, f, (he, u, v), (dn, rf, db)))).2.2.2.2.2.1), .int ((dj_aft (xw_in x 0 4 = true) (dk_ply T g nn (ev, wh, (TA, f, (he, u, v), (dn, rf, db)))) (ev, wh, (TA, f, (he, u, v), (dn, rf, db)))).2.2.2.2.2.2.1), .int ((dj_aft (xw_in x 0 4 = true) (dk_ply T g nn (ev, wh, (TA, f, (he, u, v), (dn, rf, db)))) (ev, wh, (TA, f, (he, u, v), (dn, rf, db)))).2.2.2.2.2.2.2), .int ((dj_aft (xw_in x 0 4 = true) (dk_ply T g nn (ev, wh, (TA, f, (he, u, v), (dn, rf, db)))) (ev, wh, (TA, f, (he, u, v), (dn, rf, db)))).2.2.2.2.1.1)])) ∧ xv_T cI ad w (b + 43) ((dj_aft (xw_in x 0 4 = true) (dk_ply T g nn (ev, wh, (TA, f, (he, u, v), (dn, rf, db)))) (ev, wh, (TA, f, (he, u, v), (dn, rf, db)))).2.2.1) ∧ w[b + 56]? = some (ad (b + 56), .inl (cI, 36, .inl ((dj_aft (xw_in x 0 4 = true) (dk_ply T g nn (ev, wh, (TA, f, (he, u, v), (dn, rf, db)))) (ev, wh, (TA, f, (he, u, v), (dn, rf, db)))).2.2.2.1))) ∧ w[b + 57]? = some (ad (b + 57), .inr (0, [.long ((dj_aft (xw_in x 0 4 = true) (dk_ply T g nn (ev, wh, (TA, f, (he, u, v), (dn, rf, db)))) (ev, wh, (TA, f, (he, u, v), (dn, rf, db)))).2.2.2.2.1.2.1), .long ((dj_aft (xw_in x 0 4 = true) (dk_ply T g nn (ev, wh, (TA, f, (he, u, v), (dn, rf, db)))) (ev, wh, (TA, f, (he, u, v), (dn, rf, db)))).2.2.2.2.1.2.2)])) ∧ xv_S ws w (b + 42) 16) (fun w t => xg_W D cI cZ bs w t) (xg_A bs)) ([.ref (ad b), .int x] : List Value).toArray s 0 0 (xg_A bs) := ⟨_, rfl⟩
  rw [← hQ]
  have k0 := hts (.fieldLink RX7 39 "DareBridge" "summer" "LDareBridge$Summer;") (List.mem_of_getElem? (i := 1) rfl)
  have k1 := hts (.fieldLink RX7 127 "DareBridge$Summer" "events" "I") (List.mem_of_getElem? (i := 2) rfl)
  have k2 := hts (.fieldLink RX7 130 "DareBridge$Summer" "why" "I") (List.mem_of_getElem? (i := 3) rfl)
  have k3 := hts (.fieldLink RX7 133 "DareBridge$Summer" "done" "I") (List.mem_of_getElem? (i := 4) rfl)
  have k4 := hts (.fieldLink RX7 136 "DareBridge$Summer" "refused" "I") (List.mem_of_getElem? (i := 5) rfl)
  have k5 := hts (.fieldLink RX7 139 "DareBridge$Summer" "doubled" "I") (List.mem_of_getElem? (i := 6) rfl)
  refine lv_iload_n hx hb dX7_judge_0 rfl (lv_at hl 1 rfl) ?_
  refine lv_iconst (v := 0) hx hb dX7_judge_1 (by decide) ?_
  refine lv_iconst (v := 4) hx hb dX7_judge_2 (by decide) ?_
  refine xg_ri (va_runS (As := [.int x, .int 0, .int 4]) (rest := []) S (mX7_within l D cI cZ bs ad ws x 0 4) (va_cwS 3 hts gX7_judge_X7_within rfl rfl rfl (by decide +kernel) ⟨Nat.le_of_ble_eq_true rfl, Nat.le_of_ble_eq_true rfl⟩) (xg_preS hK hG) rfl rfl hl.1 rfl (lv_room (Nat.le_of_ble_eq_true rfl)) dX7_judge_3 ⟨Nat.zero_le _, Nat.zero_le _⟩) (fun r1 hr1 => ?_)
  replace hr1 := hr1.symm; subst hr1
  refine xb_ifne (tgt := 12) S dX7_judge_6 (by decide) (fun c6 => ?_) (fun c6 => ?_)
  · skip
    refine lv_aload_n hx hb dX7_judge_12 rfl (lv_at hl 0 rfl) ?_
    refine xg_mi (va_runV (As := []) (rest := []) S (mX7_playSummer l D cI cZ bs ad ws b fk sk hO T hT n hPo g hP ev wh dn rf db he hSo TA hA f hTi u v hCh nn (by first | assumption | omega) (by first | assumption | omega)) (cwV 0 hts gX7_judge_X7_playSummer rfl rfl rfl (by decide +kernel) ⟨Nat.le_of_ble_eq_true rfl, Nat.le_of_ble_eq_true rfl⟩) (xg_preV hK hG b hO rfl rfl) rfl rfl hl.1 rfl (lv_room (Nat.le_of_ble_eq_true rfl)) dX7_judge_13 ⟨Nat.zero_le _, Nat.zero_le _⟩) hG (fun r2 w3 H locs hr2 hG => ?_)
    obtain ⟨hr2, hvw3_0, hvw3_1, hvw3_2, hvw3_3, hvw3_4, hvw3_5, hvw3_6, hvw3_7, hsw3⟩ := hr2
    replace hr2 := hr2.symm; subst hr2
    have hO : w3[b]? = some (ad b, .inr (7, [.ref (ad (b + 1)), .ref (ad (b + 14)), .ref (ad (b + 27)), .int fk, .int sk, .ref (ad (b + 40)), .ref (ad (b + 42)), .ref (ad (b + 58)), .ref (ad (b + 60)), .ref (ad (b + 61))])) := hvw3_0
    have hT : xv_T cI ad w3 (b + 1) T := hvw3_1
    have hPo : w3[b + 40]? = some (ad (b + 40), .inr (3, [.ref (ad (b + 41)), .int n])) := hvw3_2
    have hP : w3[b + 41]? = some (ad (b + 41), .inl (cI, 60, .inl g)) := hvw3_3
    have hSo : w3[b + 42]? = some (ad (b + 42), .inr (4, [.ref (ad (b + 43)), .ref (ad (b + 56)), .ref (ad (b + 57)), .int ((dk_ply T g nn (ev, wh, (TA, f, (he, u, v), (dn, rf, db)))).1), .int ((dk_ply T g nn (ev, wh, (TA, f, (he, u, v), (dn, rf, db)))).2.1), .int ((dk_ply T g nn (ev, wh, (TA, f, (he, u, v), (dn, rf, db)))).2.2.2.2.2.1), .int ((dk_ply T g nn (ev, wh, (TA, f, (he, u, v), (dn, rf, db)))).2.2.2.2.2.2.1), .int ((dk_ply T g nn (ev, wh, (TA, f, (he, u, v), (dn, rf, db)))).2.2.2.2.2.2.2), .int ((dk_ply T g nn (ev, wh, (TA, f, (he, u, v), (dn, rf, db)))).2.2.2.2.1.1)])) := hvw3_4
    obtain ⟨x4, ex4⟩ : ∃ zz : Int32, ((dk_ply T g nn (ev, wh, (TA, f, (he, u, v), (dn, rf, db)))).1) = zz := ⟨_, rfl⟩
    rw [ex4] at hSo
    obtain ⟨x5, ex5⟩ : ∃ zz : Int32, ((dk_ply T g nn (ev, wh, (TA, f, (he, u, v), (dn, rf, db)))).2.1) = zz := ⟨_, rfl⟩
    rw [ex5] at hSo
    obtain ⟨x6, ex6⟩ : ∃ zz : Int32, ((dk_ply T g nn (ev, wh, (TA, f, (he, u, v), (dn, rf, db)))).2.2.2.2.2.1) = zz := ⟨_, rfl⟩
    rw [ex6] at hSo
    obtain ⟨x7, ex7⟩ : ∃ zz : Int32, ((dk_ply T g nn (ev, wh, (TA, f, (he, u, v), (dn, rf, db)))).2.2.2.2.2.2.1) = zz := ⟨_, rfl⟩
    rw [ex7] at hSo
    obtain ⟨x8, ex8⟩ : ∃ zz : Int32, ((dk_ply T g nn (ev, wh, (TA, f, (he, u, v), (dn, rf, db)))).2.2.2.2.2.2.2) = zz := ⟨_, rfl⟩
    rw [ex8] at hSo
    obtain ⟨x9, ex9⟩ : ∃ zz : Int32, ((dk_ply T g nn (ev, wh, (TA, f, (he, u, v), (dn, rf, db)))).2.2.2.2.1.1) = zz := ⟨_, rfl⟩
    rw [ex9] at hSo
    have hA : xv_T cI ad w3 (b + 43) ((dk_ply T g nn (ev, wh, (TA, f, (he, u, v), (dn, rf, db)))).2.2.1) := hvw3_5
    obtain ⟨T10, eT10⟩ : ∃ zz : Nat → Nat → Int32, ((dk_ply T g nn (ev, wh, (TA, f, (he, u, v), (dn, rf, db)))).2.2.1) = zz := ⟨_, rfl⟩
    rw [eT10] at hA
    have hCh : w3[b + 57]? = some (ad (b + 57), .inr (0, [.long ((dk_ply T g nn (ev, wh, (TA, f, (he, u, v), (dn, rf, db)))).2.2.2.2.1.2.1), .long ((dk_ply T g nn (ev, wh, (TA, f, (he, u, v), (dn, rf, db)))).2.2.2.2.1.2.2)])) := hvw3_7
    obtain ⟨x11, ex11⟩ : ∃ zz : Int64, ((dk_ply T g nn (ev, wh, (TA, f, (he, u, v), (dn, rf, db)))).2.2.2.2.1.2.1) = zz := ⟨_, rfl⟩
    rw [ex11] at hCh
    obtain ⟨x12, ex12⟩ : ∃ zz : Int64, ((dk_ply T g nn (ev, wh, (TA, f, (he, u, v), (dn, rf, db)))).2.2.2.2.1.2.2) = zz := ⟨_, rfl⟩
    rw [ex12] at hCh
    obtain ⟨f13, ef13⟩ : ∃ zz : Nat → Int32, ((dk_ply T g nn (ev, wh, (TA, f, (he, u, v), (dn, rf, db)))).2.2.2.1) = zz := ⟨_, rfl⟩
    have hTi : w3[b + 56]? = some (ad (b + 56), .inl (cI, 36, .inl f13)) := by rw [← ef13]; exact hvw3_6
    have hSw3 : xv_S ws w3 (b + 42) 16 := hsw3.mono (by omega) (by omega)
    refine lv_topi (fun x14 ex14 => ?_)
    replace ex14 := ex14.symm
    refine lv_istore_n (lv' := [(2, .int x14), (0, .ref (ad b)), (1, .int x)]) hx hb dX7_judge_16 rfl hl (by decide) rfl (fun ls hl => ?_)
    refine lv_iload_n hx hb dX7_judge_17 rfl (lv_at hl 0 rfl) ?_
    refine lv_bipush (v := (-5)) hx hb dX7_judge_18 (by decide) ?_
    refine lv_icmp_eq (tgt := 34) hx hb dX7_judge_20 (by decide) (fun c20 => ?_) (fun c20 => ?_)
    · skip
      refine lv_iload_n hx hb dX7_judge_34 rfl (lv_at hl 0 rfl) ?_
      have hfin : dj_aft (xw_in x 0 4 = true) (dk_ply T g nn (ev, wh, (TA, f, (he, u, v), (dn, rf, db)))) (ev, wh, (TA, f, (he, u, v), (dn, rf, db))) = (x4, x5, (T10, f13, (x9, x11, x12), (x6, x7, x8))) := by subst ex4 ex5 ex6 ex7 ex8 ex9 eT10 ex11 ex12 ef13 ex14; exact if_pos c6
      rw [hQ]
      exact xg_emi S hr hlk hK hG ⟨(by subst ex4 ex5 ex6 ex7 ex8 ex9 eT10 ex11 ex12 ef13 ex14; first | exact absurd c26 c20 | (simp only [dj_jud, c6, c20, if_false, Bool.false_eq_true]; done) | exact absurd c31 (by rw [c20]; decide) | (unfold dj_jud; rw [if_pos c6]; simp [dj_jsw, c6, c20])), hO, hT, hPo, hP, (by rw [hfin]; exact hSo), (by rw [hfin]; exact hA), (by rw [hfin]; exact hTi), (by rw [hfin]; exact hCh), hSw3⟩ dX7_judge_35
    · skip
      refine lv_iload_n hx hb dX7_judge_23 rfl (lv_at hl 0 rfl) ?_
      refine lv_bipush (v := (-3)) hx hb dX7_judge_24 (by decide) ?_
      refine lv_icmp_ne (tgt := 36) hx hb dX7_judge_26 (by decide) (fun c26 => ?_) (fun c26 => ?_)
      · skip
        refine lv_iload_n hx hb dX7_judge_36 rfl (lv_at hl 2 rfl) ?_
        by_cases sw15_0 : x = 0
        · skip
          refine lv_tableIn (off := 31) (tgt := 68) hx hb dX7_judge_37 (by rw [sw15_0]; decide) (by rw [sw15_0]; decide) (by rw [sw15_0]; rfl) (by decide) ?_
          refine lv_iload_n hx hb dX7_judge_68 rfl (lv_at hl 0 rfl) ?_
          refine lv_bipush (v := (-3)) hx hb dX7_judge_69 (by decide) ?_
          refine lv_icmp_ne (tgt := 84) hx hb dX7_judge_71 (by decide) (fun c71 => ?_) (fun c71 => ?_)
          · skip
            refine lv_bipush (v := (-6)) hx hb dX7_judge_84 (by decide) ?_
            have hfin : dj_aft (xw_in x 0 4 = true) (dk_ply T g nn (ev, wh, (TA, f, (he, u, v), (dn, rf, db)))) (ev, wh, (TA, f, (he, u, v), (dn, rf, db))) = (x4, x5, (T10, f13, (x9, x11, x12), (x6, x7, x8))) := by subst ex4 ex5 ex6 ex7 ex8 ex9 eT10 ex11 ex12 ef13 ex14; exact if_pos c6
            rw [hQ]
            exact xg_emi S hr hlk hK hG ⟨(by subst ex4 ex5 ex6 ex7 ex8 ex9 eT10 ex11 ex12 ef13 ex14; first | exact absurd c26 c71 | (simp only [dj_jud, c6, c20, c26, sw15_0, c71, if_false, Bool.false_eq_true]; done) | exact absurd c31 (by rw [c71]; decide) | (unfold dj_jud; rw [if_pos c6]; simp [dj_jsw, c6, c20, c26, sw15_0, c71])), hO, hT, hPo, hP, (by rw [hfin]; exact hSo), (by rw [hfin]; exact hA), (by rw [hfin]; exact hTi), (by rw [hfin]; exact hCh), hSw3⟩ dX7_judge_86
          · skip
            refine lv_aload_n hx hb dX7_judge_74 rfl (lv_at hl 1 rfl) ?_
            refine xg_get (C := RX7) (T := TX7) (N := 10) S hK hG (fun w h => List.mem_cons_of_mem _ (List.mem_append_left _ (List.mem_append_left _ (List.mem_append_left _ (List.mem_append_left _ (List.mem_append_right _ (h))))))) b hO rfl 6 (by decide) k0 (fun _ h9 => h9) rfl dX7_judge_75 ?_
            refine xg_get (C := RX4) (T := TX4) (N := 9) S hK hG (fun w h => List.mem_cons_of_mem _ (List.mem_append_left _ (List.mem_append_left _ (List.mem_append_left _ (List.mem_append_right _ (h)))))) (b + 42) hSo rfl 3 (by decide) k1 (fun _ h9 => h9) rfl dX7_judge_78 ?_
            refine lv_goto (tgt := 86) hx hb dX7_judge_81 (by decide) ?_
            have hfin : dj_aft (xw_in x 0 4 = true) (dk_ply T g nn (ev, wh, (TA, f, (he, u, v), (dn, rf, db)))) (ev, wh, (TA, f, (he, u, v), (dn, rf, db))) = (x4, x5, (T10, f13, (x9, x11, x12), (x6, x7, x8))) := by subst ex4 ex5 ex6 ex7 ex8 ex9 eT10 ex11 ex12 ef13 ex14; exact if_pos c6
            rw [hQ]
            exact xg_emi S hr hlk hK hG ⟨(by subst ex4 ex5 ex6 ex7 ex8 ex9 eT10 ex11 ex12 ef13 ex14; first | exact absurd c26 c71 | (simp only [dj_jud, c6, c20, c26, sw15_0, c71, if_false, Bool.false_eq_true]; done) | exact absurd c31 (by rw [c71]; decide) | (unfold dj_jud; rw [if_pos c6]; simp [dj_jsw, c6, c20, c26, sw15_0, c71])), hO, hT, hPo, hP, (by rw [hfin]; exact hSo), (by rw [hfin]; exact hA), (by rw [hfin]; exact hTi), (by rw [hfin]; exact hCh), hSw3⟩ dX7_judge_86
        · skip
          by_cases sw15_1 : x = 1
          · skip
            refine lv_tableIn (off := 50) (tgt := 87) hx hb dX7_judge_37 (by rw [sw15_1]; decide) (by rw [sw15_1]; decide) (by rw [sw15_1]; rfl) (by decide) ?_
            refine lv_iload_n hx hb dX7_judge_87 rfl (lv_at hl 0 rfl) ?_
            refine lv_bipush (v := (-3)) hx hb dX7_judge_88 (by decide) ?_
            refine lv_icmp_ne (tgt := 103) hx hb dX7_judge_90 (by decide) (fun c90 => ?_) (fun c90 => ?_)
            · skip
              refine lv_bipush (v := (-6)) hx hb dX7_judge_103 (by decide) ?_
              have hfin : dj_aft (xw_in x 0 4 = true) (dk_ply T g nn (ev, wh, (TA, f, (he, u, v), (dn, rf, db)))) (ev, wh, (TA, f, (he, u, v), (dn, rf, db))) = (x4, x5, (T10, f13, (x9, x11, x12), (x6, x7, x8))) := by subst ex4 ex5 ex6 ex7 ex8 ex9 eT10 ex11 ex12 ef13 ex14; exact if_pos c6
              rw [hQ]
              exact xg_emi S hr hlk hK hG ⟨(by subst ex4 ex5 ex6 ex7 ex8 ex9 eT10 ex11 ex12 ef13 ex14; first | exact absurd c26 c90 | (simp only [dj_jud, c6, c20, c26, sw15_0, sw15_1, c90, if_false, Bool.false_eq_true]; done) | exact absurd c31 (by rw [c90]; decide) | (unfold dj_jud; rw [if_pos c6]; simp [dj_jsw, c6, c20, c26, sw15_0, sw15_1, c90])), hO, hT, hPo, hP, (by rw [hfin]; exact hSo), (by rw [hfin]; exact hA), (by rw [hfin]; exact hTi), (by rw [hfin]; exact hCh), hSw3⟩ dX7_judge_105
            · skip
              refine lv_aload_n hx hb dX7_judge_93 rfl (lv_at hl 1 rfl) ?_
              refine xg_get (C := RX7) (T := TX7) (N := 10) S hK hG (fun w h => List.mem_cons_of_mem _ (List.mem_append_left _ (List.mem_append_left _ (List.mem_append_left _ (List.mem_append_left _ (List.mem_append_right _ (h))))))) b hO rfl 6 (by decide) k0 (fun _ h9 => h9) rfl dX7_judge_94 ?_
              refine xg_get (C := RX4) (T := TX4) (N := 9) S hK hG (fun w h => List.mem_cons_of_mem _ (List.mem_append_left _ (List.mem_append_left _ (List.mem_append_left _ (List.mem_append_right _ (h)))))) (b + 42) hSo rfl 4 (by decide) k2 (fun _ h9 => h9) rfl dX7_judge_97 ?_
              refine lv_goto (tgt := 105) hx hb dX7_judge_100 (by decide) ?_
              have hfin : dj_aft (xw_in x 0 4 = true) (dk_ply T g nn (ev, wh, (TA, f, (he, u, v), (dn, rf, db)))) (ev, wh, (TA, f, (he, u, v), (dn, rf, db))) = (x4, x5, (T10, f13, (x9, x11, x12), (x6, x7, x8))) := by subst ex4 ex5 ex6 ex7 ex8 ex9 eT10 ex11 ex12 ef13 ex14; exact if_pos c6
              rw [hQ]
              exact xg_emi S hr hlk hK hG ⟨(by subst ex4 ex5 ex6 ex7 ex8 ex9 eT10 ex11 ex12 ef13 ex14; first | exact absurd c26 c90 | (simp only [dj_jud, c6, c20, c26, sw15_0, sw15_1, c90, if_false, Bool.false_eq_true]; done) | exact absurd c31 (by rw [c90]; decide) | (unfold dj_jud; rw [if_pos c6]; simp [dj_jsw, c6, c20, c26, sw15_0, sw15_1, c90])), hO, hT, hPo, hP, (by rw [hfin]; exact hSo), (by rw [hfin]; exact hA), (by rw [hfin]; exact hTi), (by rw [hfin]; exact hCh), hSw3⟩ dX7_judge_105
          · skip
            by_cases sw15_2 : x = 2
            · skip
              refine lv_tableIn (off := 69) (tgt := 106) hx hb dX7_judge_37 (by rw [sw15_2]; decide) (by rw [sw15_2]; decide) (by rw [sw15_2]; rfl) (by decide) ?_
              refine lv_aload_n hx hb dX7_judge_106 rfl (lv_at hl 1 rfl) ?_
              refine xg_get (C := RX7) (T := TX7) (N := 10) S hK hG (fun w h => List.mem_cons_of_mem _ (List.mem_append_left _ (List.mem_append_left _ (List.mem_append_left _ (List.mem_append_left _ (List.mem_append_right _ (h))))))) b hO rfl 6 (by decide) k0 (fun _ h9 => h9) rfl dX7_judge_107 ?_
              refine xg_get (C := RX4) (T := TX4) (N := 9) S hK hG (fun w h => List.mem_cons_of_mem _ (List.mem_append_left _ (List.mem_append_left _ (List.mem_append_left _ (List.mem_append_right _ (h)))))) (b + 42) hSo rfl 5 (by decide) k3 (fun _ h9 => h9) rfl dX7_judge_110 ?_
              have hfin : dj_aft (xw_in x 0 4 = true) (dk_ply T g nn (ev, wh, (TA, f, (he, u, v), (dn, rf, db)))) (ev, wh, (TA, f, (he, u, v), (dn, rf, db))) = (x4, x5, (T10, f13, (x9, x11, x12), (x6, x7, x8))) := by subst ex4 ex5 ex6 ex7 ex8 ex9 eT10 ex11 ex12 ef13 ex14; exact if_pos c6
              rw [hQ]
              exact xg_emi S hr hlk hK hG ⟨(by subst ex4 ex5 ex6 ex7 ex8 ex9 eT10 ex11 ex12 ef13 ex14; first | exact absurd c26 sw15_2 | (simp only [dj_jud, c6, c20, c26, sw15_0, sw15_1, sw15_2, if_false, Bool.false_eq_true]; done) | exact absurd c31 (by rw [sw15_2]; decide) | (unfold dj_jud; rw [if_pos c6]; simp [dj_jsw, c6, c20, c26, sw15_0, sw15_1, sw15_2])), hO, hT, hPo, hP, (by rw [hfin]; exact hSo), (by rw [hfin]; exact hA), (by rw [hfin]; exact hTi), (by rw [hfin]; exact hCh), hSw3⟩ dX7_judge_113
            · skip
              by_cases sw15_3 : x = 3
              · skip
                refine lv_tableIn (off := 77) (tgt := 114) hx hb dX7_judge_37 (by rw [sw15_3]; decide) (by rw [sw15_3]; decide) (by rw [sw15_3]; rfl) (by decide) ?_
                refine lv_aload_n hx hb dX7_judge_114 rfl (lv_at hl 1 rfl) ?_
                refine xg_get (C := RX7) (T := TX7) (N := 10) S hK hG (fun w h => List.mem_cons_of_mem _ (List.mem_append_left _ (List.mem_append_left _ (List.mem_append_left _ (List.mem_append_left _ (List.mem_append_right _ (h))))))) b hO rfl 6 (by decide) k0 (fun _ h9 => h9) rfl dX7_judge_115 ?_
                refine xg_get (C := RX4) (T := TX4) (N := 9) S hK hG (fun w h => List.mem_cons_of_mem _ (List.mem_append_left _ (List.mem_append_left _ (List.mem_append_left _ (List.mem_append_right _ (h)))))) (b + 42) hSo rfl 6 (by decide) k4 (fun _ h9 => h9) rfl dX7_judge_118 ?_
                have hfin : dj_aft (xw_in x 0 4 = true) (dk_ply T g nn (ev, wh, (TA, f, (he, u, v), (dn, rf, db)))) (ev, wh, (TA, f, (he, u, v), (dn, rf, db))) = (x4, x5, (T10, f13, (x9, x11, x12), (x6, x7, x8))) := by subst ex4 ex5 ex6 ex7 ex8 ex9 eT10 ex11 ex12 ef13 ex14; exact if_pos c6
                rw [hQ]
                exact xg_emi S hr hlk hK hG ⟨(by subst ex4 ex5 ex6 ex7 ex8 ex9 eT10 ex11 ex12 ef13 ex14; first | exact absurd c26 sw15_3 | (simp only [dj_jud, c6, c20, c26, sw15_0, sw15_1, sw15_2, sw15_3, if_false, Bool.false_eq_true]; done) | exact absurd c31 (by rw [sw15_3]; decide) | (unfold dj_jud; rw [if_pos c6]; simp [dj_jsw, c6, c20, c26, sw15_0, sw15_1, sw15_2, sw15_3])), hO, hT, hPo, hP, (by rw [hfin]; exact hSo), (by rw [hfin]; exact hA), (by rw [hfin]; exact hTi), (by rw [hfin]; exact hCh), hSw3⟩ dX7_judge_121
              · skip
                have tsw15_0 : (x : Int32).toInt ≠ 0 := fun q => sw15_0 (Int32.toInt_inj.mp (by rw [q]; rfl))
                have tsw15_1 : (x : Int32).toInt ≠ 1 := fun q => sw15_1 (Int32.toInt_inj.mp (by rw [q]; rfl))
                have tsw15_2 : (x : Int32).toInt ≠ 2 := fun q => sw15_2 (Int32.toInt_inj.mp (by rw [q]; rfl))
                have tsw15_3 : (x : Int32).toInt ≠ 3 := fun q => sw15_3 (Int32.toInt_inj.mp (by rw [q]; rfl))
                refine lv_tableOut (tgt := 122) hx hb dX7_judge_37 (by omega) (by decide) ?_
                refine lv_aload_n hx hb dX7_judge_122 rfl (lv_at hl 1 rfl) ?_
                refine xg_get (C := RX7) (T := TX7) (N := 10) S hK hG (fun w h => List.mem_cons_of_mem _ (List.mem_append_left _ (List.mem_append_left _ (List.mem_append_left _ (List.mem_append_left _ (List.mem_append_right _ (h))))))) b hO rfl 6 (by decide) k0 (fun _ h9 => h9) rfl dX7_judge_123 ?_
                refine xg_get (C := RX4) (T := TX4) (N := 9) S hK hG (fun w h => List.mem_cons_of_mem _ (List.mem_append_left _ (List.mem_append_left _ (List.mem_append_left _ (List.mem_append_right _ (h)))))) (b + 42) hSo rfl 7 (by decide) k5 (fun _ h9 => h9) rfl dX7_judge_126 ?_
                have hfin : dj_aft (xw_in x 0 4 = true) (dk_ply T g nn (ev, wh, (TA, f, (he, u, v), (dn, rf, db)))) (ev, wh, (TA, f, (he, u, v), (dn, rf, db))) = (x4, x5, (T10, f13, (x9, x11, x12), (x6, x7, x8))) := by subst ex4 ex5 ex6 ex7 ex8 ex9 eT10 ex11 ex12 ef13 ex14; exact if_pos c6
                rw [hQ]
                exact xg_emi S hr hlk hK hG ⟨(by subst ex4 ex5 ex6 ex7 ex8 ex9 eT10 ex11 ex12 ef13 ex14; first | exact absurd c26 sw15_3 | (simp only [dj_jud, c6, c20, c26, sw15_0, sw15_1, sw15_2, sw15_3, if_false, Bool.false_eq_true]; done) | exact absurd c31 (by rw [sw15_3]; decide) | (unfold dj_jud; rw [if_pos c6]; simp [dj_jsw, c6, c20, c26, sw15_0, sw15_1, sw15_2, sw15_3])), hO, hT, hPo, hP, (by rw [hfin]; exact hSo), (by rw [hfin]; exact hA), (by rw [hfin]; exact hTi), (by rw [hfin]; exact hCh), hSw3⟩ dX7_judge_129
      · skip
        refine lv_iload_n hx hb dX7_judge_29 rfl (lv_at hl 2 rfl) ?_
        refine lv_iconst (v := 2) hx hb dX7_judge_30 (by decide) ?_
        refine lv_icmp_lt (tgt := 36) hx hb dX7_judge_31 (by decide) (fun c31 => ?_) (fun c31 => ?_)
        · skip
          refine lv_iload_n hx hb dX7_judge_36 rfl (lv_at hl 2 rfl) ?_
          by_cases sw16_0 : x = 0
          · skip
            refine lv_tableIn (off := 31) (tgt := 68) hx hb dX7_judge_37 (by rw [sw16_0]; decide) (by rw [sw16_0]; decide) (by rw [sw16_0]; rfl) (by decide) ?_
            refine lv_iload_n hx hb dX7_judge_68 rfl (lv_at hl 0 rfl) ?_
            refine lv_bipush (v := (-3)) hx hb dX7_judge_69 (by decide) ?_
            refine lv_icmp_ne (tgt := 84) hx hb dX7_judge_71 (by decide) (fun c71 => ?_) (fun c71 => ?_)
            · skip
              refine lv_bipush (v := (-6)) hx hb dX7_judge_84 (by decide) ?_
              have hfin : dj_aft (xw_in x 0 4 = true) (dk_ply T g nn (ev, wh, (TA, f, (he, u, v), (dn, rf, db)))) (ev, wh, (TA, f, (he, u, v), (dn, rf, db))) = (x4, x5, (T10, f13, (x9, x11, x12), (x6, x7, x8))) := by subst ex4 ex5 ex6 ex7 ex8 ex9 eT10 ex11 ex12 ef13 ex14; exact if_pos c6
              rw [hQ]
              exact xg_emi S hr hlk hK hG ⟨(by subst ex4 ex5 ex6 ex7 ex8 ex9 eT10 ex11 ex12 ef13 ex14; first | exact absurd c26 c71 | (simp only [dj_jud, c6, c20, c26, c31, sw16_0, c71, if_false, Bool.false_eq_true]; done) | exact absurd c31 (by rw [c71]; decide) | (unfold dj_jud; rw [if_pos c6]; simp [dj_jsw, c6, c20, c26, c31, sw16_0, c71])), hO, hT, hPo, hP, (by rw [hfin]; exact hSo), (by rw [hfin]; exact hA), (by rw [hfin]; exact hTi), (by rw [hfin]; exact hCh), hSw3⟩ dX7_judge_86
            · skip
              refine lv_aload_n hx hb dX7_judge_74 rfl (lv_at hl 1 rfl) ?_
              refine xg_get (C := RX7) (T := TX7) (N := 10) S hK hG (fun w h => List.mem_cons_of_mem _ (List.mem_append_left _ (List.mem_append_left _ (List.mem_append_left _ (List.mem_append_left _ (List.mem_append_right _ (h))))))) b hO rfl 6 (by decide) k0 (fun _ h9 => h9) rfl dX7_judge_75 ?_
              refine xg_get (C := RX4) (T := TX4) (N := 9) S hK hG (fun w h => List.mem_cons_of_mem _ (List.mem_append_left _ (List.mem_append_left _ (List.mem_append_left _ (List.mem_append_right _ (h)))))) (b + 42) hSo rfl 3 (by decide) k1 (fun _ h9 => h9) rfl dX7_judge_78 ?_
              refine lv_goto (tgt := 86) hx hb dX7_judge_81 (by decide) ?_
              have hfin : dj_aft (xw_in x 0 4 = true) (dk_ply T g nn (ev, wh, (TA, f, (he, u, v), (dn, rf, db)))) (ev, wh, (TA, f, (he, u, v), (dn, rf, db))) = (x4, x5, (T10, f13, (x9, x11, x12), (x6, x7, x8))) := by subst ex4 ex5 ex6 ex7 ex8 ex9 eT10 ex11 ex12 ef13 ex14; exact if_pos c6
              rw [hQ]
              exact xg_emi S hr hlk hK hG ⟨(by subst ex4 ex5 ex6 ex7 ex8 ex9 eT10 ex11 ex12 ef13 ex14; first | exact absurd c26 c71 | (simp only [dj_jud, c6, c20, c26, c31, sw16_0, c71, if_false, Bool.false_eq_true]; done) | exact absurd c31 (by rw [c71]; decide) | (unfold dj_jud; rw [if_pos c6]; simp [dj_jsw, c6, c20, c26, c31, sw16_0, c71])), hO, hT, hPo, hP, (by rw [hfin]; exact hSo), (by rw [hfin]; exact hA), (by rw [hfin]; exact hTi), (by rw [hfin]; exact hCh), hSw3⟩ dX7_judge_86
          · skip
            by_cases sw16_1 : x = 1
            · skip
              refine lv_tableIn (off := 50) (tgt := 87) hx hb dX7_judge_37 (by rw [sw16_1]; decide) (by rw [sw16_1]; decide) (by rw [sw16_1]; rfl) (by decide) ?_
              refine lv_iload_n hx hb dX7_judge_87 rfl (lv_at hl 0 rfl) ?_
              refine lv_bipush (v := (-3)) hx hb dX7_judge_88 (by decide) ?_
              refine lv_icmp_ne (tgt := 103) hx hb dX7_judge_90 (by decide) (fun c90 => ?_) (fun c90 => ?_)
              · skip
                refine lv_bipush (v := (-6)) hx hb dX7_judge_103 (by decide) ?_
                have hfin : dj_aft (xw_in x 0 4 = true) (dk_ply T g nn (ev, wh, (TA, f, (he, u, v), (dn, rf, db)))) (ev, wh, (TA, f, (he, u, v), (dn, rf, db))) = (x4, x5, (T10, f13, (x9, x11, x12), (x6, x7, x8))) := by subst ex4 ex5 ex6 ex7 ex8 ex9 eT10 ex11 ex12 ef13 ex14; exact if_pos c6
                rw [hQ]
                exact xg_emi S hr hlk hK hG ⟨(by subst ex4 ex5 ex6 ex7 ex8 ex9 eT10 ex11 ex12 ef13 ex14; first | exact absurd c26 c90 | (simp only [dj_jud, c6, c20, c26, c31, sw16_0, sw16_1, c90, if_false, Bool.false_eq_true]; done) | exact absurd c31 (by rw [c90]; decide) | (unfold dj_jud; rw [if_pos c6]; simp [dj_jsw, c6, c20, c26, c31, sw16_0, sw16_1, c90])), hO, hT, hPo, hP, (by rw [hfin]; exact hSo), (by rw [hfin]; exact hA), (by rw [hfin]; exact hTi), (by rw [hfin]; exact hCh), hSw3⟩ dX7_judge_105
              · skip
                refine lv_aload_n hx hb dX7_judge_93 rfl (lv_at hl 1 rfl) ?_
                refine xg_get (C := RX7) (T := TX7) (N := 10) S hK hG (fun w h => List.mem_cons_of_mem _ (List.mem_append_left _ (List.mem_append_left _ (List.mem_append_left _ (List.mem_append_left _ (List.mem_append_right _ (h))))))) b hO rfl 6 (by decide) k0 (fun _ h9 => h9) rfl dX7_judge_94 ?_
                refine xg_get (C := RX4) (T := TX4) (N := 9) S hK hG (fun w h => List.mem_cons_of_mem _ (List.mem_append_left _ (List.mem_append_left _ (List.mem_append_left _ (List.mem_append_right _ (h)))))) (b + 42) hSo rfl 4 (by decide) k2 (fun _ h9 => h9) rfl dX7_judge_97 ?_
                refine lv_goto (tgt := 105) hx hb dX7_judge_100 (by decide) ?_
                have hfin : dj_aft (xw_in x 0 4 = true) (dk_ply T g nn (ev, wh, (TA, f, (he, u, v), (dn, rf, db)))) (ev, wh, (TA, f, (he, u, v), (dn, rf, db))) = (x4, x5, (T10, f13, (x9, x11, x12), (x6, x7, x8))) := by subst ex4 ex5 ex6 ex7 ex8 ex9 eT10 ex11 ex12 ef13 ex14; exact if_pos c6
                rw [hQ]
                exact xg_emi S hr hlk hK hG ⟨(by subst ex4 ex5 ex6 ex7 ex8 ex9 eT10 ex11 ex12 ef13 ex14; first | exact absurd c26 c90 | (simp only [dj_jud, c6, c20, c26, c31, sw16_0, sw16_1, c90, if_false, Bool.false_eq_true]; done) | exact absurd c31 (by rw [c90]; decide) | (unfold dj_jud; rw [if_pos c6]; simp [dj_jsw, c6, c20, c26, c31, sw16_0, sw16_1, c90])), hO, hT, hPo, hP, (by rw [hfin]; exact hSo), (by rw [hfin]; exact hA), (by rw [hfin]; exact hTi), (by rw [hfin]; exact hCh), hSw3⟩ dX7_judge_105
            · skip
              by_cases sw16_2 : x = 2
              · skip
                refine lv_tableIn (off := 69) (tgt := 106) hx hb dX7_judge_37 (by rw [sw16_2]; decide) (by rw [sw16_2]; decide) (by rw [sw16_2]; rfl) (by decide) ?_
                refine lv_aload_n hx hb dX7_judge_106 rfl (lv_at hl 1 rfl) ?_
                refine xg_get (C := RX7) (T := TX7) (N := 10) S hK hG (fun w h => List.mem_cons_of_mem _ (List.mem_append_left _ (List.mem_append_left _ (List.mem_append_left _ (List.mem_append_left _ (List.mem_append_right _ (h))))))) b hO rfl 6 (by decide) k0 (fun _ h9 => h9) rfl dX7_judge_107 ?_
                refine xg_get (C := RX4) (T := TX4) (N := 9) S hK hG (fun w h => List.mem_cons_of_mem _ (List.mem_append_left _ (List.mem_append_left _ (List.mem_append_left _ (List.mem_append_right _ (h)))))) (b + 42) hSo rfl 5 (by decide) k3 (fun _ h9 => h9) rfl dX7_judge_110 ?_
                have hfin : dj_aft (xw_in x 0 4 = true) (dk_ply T g nn (ev, wh, (TA, f, (he, u, v), (dn, rf, db)))) (ev, wh, (TA, f, (he, u, v), (dn, rf, db))) = (x4, x5, (T10, f13, (x9, x11, x12), (x6, x7, x8))) := by subst ex4 ex5 ex6 ex7 ex8 ex9 eT10 ex11 ex12 ef13 ex14; exact if_pos c6
                rw [hQ]
                exact xg_emi S hr hlk hK hG ⟨(by subst ex4 ex5 ex6 ex7 ex8 ex9 eT10 ex11 ex12 ef13 ex14; first | exact absurd c26 sw16_2 | (simp only [dj_jud, c6, c20, c26, c31, sw16_0, sw16_1, sw16_2, if_false, Bool.false_eq_true]; done) | exact absurd c31 (by rw [sw16_2]; decide) | (unfold dj_jud; rw [if_pos c6]; simp [dj_jsw, c6, c20, c26, c31, sw16_0, sw16_1, sw16_2])), hO, hT, hPo, hP, (by rw [hfin]; exact hSo), (by rw [hfin]; exact hA), (by rw [hfin]; exact hTi), (by rw [hfin]; exact hCh), hSw3⟩ dX7_judge_113
              · skip
                by_cases sw16_3 : x = 3
                · skip
                  refine lv_tableIn (off := 77) (tgt := 114) hx hb dX7_judge_37 (by rw [sw16_3]; decide) (by rw [sw16_3]; decide) (by rw [sw16_3]; rfl) (by decide) ?_
                  refine lv_aload_n hx hb dX7_judge_114 rfl (lv_at hl 1 rfl) ?_
                  refine xg_get (C := RX7) (T := TX7) (N := 10) S hK hG (fun w h => List.mem_cons_of_mem _ (List.mem_append_left _ (List.mem_append_left _ (List.mem_append_left _ (List.mem_append_left _ (List.mem_append_right _ (h))))))) b hO rfl 6 (by decide) k0 (fun _ h9 => h9) rfl dX7_judge_115 ?_
                  refine xg_get (C := RX4) (T := TX4) (N := 9) S hK hG (fun w h => List.mem_cons_of_mem _ (List.mem_append_left _ (List.mem_append_left _ (List.mem_append_left _ (List.mem_append_right _ (h)))))) (b + 42) hSo rfl 6 (by decide) k4 (fun _ h9 => h9) rfl dX7_judge_118 ?_
                  have hfin : dj_aft (xw_in x 0 4 = true) (dk_ply T g nn (ev, wh, (TA, f, (he, u, v), (dn, rf, db)))) (ev, wh, (TA, f, (he, u, v), (dn, rf, db))) = (x4, x5, (T10, f13, (x9, x11, x12), (x6, x7, x8))) := by subst ex4 ex5 ex6 ex7 ex8 ex9 eT10 ex11 ex12 ef13 ex14; exact if_pos c6
                  rw [hQ]
                  exact xg_emi S hr hlk hK hG ⟨(by subst ex4 ex5 ex6 ex7 ex8 ex9 eT10 ex11 ex12 ef13 ex14; first | exact absurd c26 sw16_3 | (simp only [dj_jud, c6, c20, c26, c31, sw16_0, sw16_1, sw16_2, sw16_3, if_false, Bool.false_eq_true]; done) | exact absurd c31 (by rw [sw16_3]; decide) | (unfold dj_jud; rw [if_pos c6]; simp [dj_jsw, c6, c20, c26, c31, sw16_0, sw16_1, sw16_2, sw16_3])), hO, hT, hPo, hP, (by rw [hfin]; exact hSo), (by rw [hfin]; exact hA), (by rw [hfin]; exact hTi), (by rw [hfin]; exact hCh), hSw3⟩ dX7_judge_121
                · skip
                  have tsw16_0 : (x : Int32).toInt ≠ 0 := fun q => sw16_0 (Int32.toInt_inj.mp (by rw [q]; rfl))
                  have tsw16_1 : (x : Int32).toInt ≠ 1 := fun q => sw16_1 (Int32.toInt_inj.mp (by rw [q]; rfl))
                  have tsw16_2 : (x : Int32).toInt ≠ 2 := fun q => sw16_2 (Int32.toInt_inj.mp (by rw [q]; rfl))
                  have tsw16_3 : (x : Int32).toInt ≠ 3 := fun q => sw16_3 (Int32.toInt_inj.mp (by rw [q]; rfl))
                  refine lv_tableOut (tgt := 122) hx hb dX7_judge_37 (by omega) (by decide) ?_
                  refine lv_aload_n hx hb dX7_judge_122 rfl (lv_at hl 1 rfl) ?_
                  refine xg_get (C := RX7) (T := TX7) (N := 10) S hK hG (fun w h => List.mem_cons_of_mem _ (List.mem_append_left _ (List.mem_append_left _ (List.mem_append_left _ (List.mem_append_left _ (List.mem_append_right _ (h))))))) b hO rfl 6 (by decide) k0 (fun _ h9 => h9) rfl dX7_judge_123 ?_
                  refine xg_get (C := RX4) (T := TX4) (N := 9) S hK hG (fun w h => List.mem_cons_of_mem _ (List.mem_append_left _ (List.mem_append_left _ (List.mem_append_left _ (List.mem_append_right _ (h)))))) (b + 42) hSo rfl 7 (by decide) k5 (fun _ h9 => h9) rfl dX7_judge_126 ?_
                  have hfin : dj_aft (xw_in x 0 4 = true) (dk_ply T g nn (ev, wh, (TA, f, (he, u, v), (dn, rf, db)))) (ev, wh, (TA, f, (he, u, v), (dn, rf, db))) = (x4, x5, (T10, f13, (x9, x11, x12), (x6, x7, x8))) := by subst ex4 ex5 ex6 ex7 ex8 ex9 eT10 ex11 ex12 ef13 ex14; exact if_pos c6
                  rw [hQ]
                  exact xg_emi S hr hlk hK hG ⟨(by subst ex4 ex5 ex6 ex7 ex8 ex9 eT10 ex11 ex12 ef13 ex14; first | exact absurd c26 sw16_3 | (simp only [dj_jud, c6, c20, c26, c31, sw16_0, sw16_1, sw16_2, sw16_3, if_false, Bool.false_eq_true]; done) | exact absurd c31 (by rw [sw16_3]; decide) | (unfold dj_jud; rw [if_pos c6]; simp [dj_jsw, c6, c20, c26, c31, sw16_0, sw16_1, sw16_2, sw16_3])), hO, hT, hPo, hP, (by rw [hfin]; exact hSo), (by rw [hfin]; exact hA), (by rw [hfin]; exact hTi), (by rw [hfin]; exact hCh), hSw3⟩ dX7_judge_129
        · skip
          refine lv_iload_n hx hb dX7_judge_34 rfl (lv_at hl 0 rfl) ?_
          have hfin : dj_aft (xw_in x 0 4 = true) (dk_ply T g nn (ev, wh, (TA, f, (he, u, v), (dn, rf, db)))) (ev, wh, (TA, f, (he, u, v), (dn, rf, db))) = (x4, x5, (T10, f13, (x9, x11, x12), (x6, x7, x8))) := by subst ex4 ex5 ex6 ex7 ex8 ex9 eT10 ex11 ex12 ef13 ex14; exact if_pos c6
          rw [hQ]
          exact xg_emi S hr hlk hK hG ⟨(by subst ex4 ex5 ex6 ex7 ex8 ex9 eT10 ex11 ex12 ef13 ex14; first | exact absurd c26 c31 | (simp only [dj_jud, c6, c20, c26, c31, if_false, Bool.false_eq_true]; done) | exact absurd c31 (by rw [c31]; decide) | (unfold dj_jud; rw [if_pos c6]; simp [dj_jsw, c6, c20, c26, c31])), hO, hT, hPo, hP, (by rw [hfin]; exact hSo), (by rw [hfin]; exact hA), (by rw [hfin]; exact hTi), (by rw [hfin]; exact hCh), hSw3⟩ dX7_judge_35
  · skip
    refine lv_bipush (v := (-2)) hx hb dX7_judge_9 (by decide) ?_
    have hfin : dj_aft (xw_in x 0 4 = true) (dk_ply T g nn (ev, wh, (TA, f, (he, u, v), (dn, rf, db)))) (ev, wh, (TA, f, (he, u, v), (dn, rf, db))) = (ev, wh, (TA, f, (he, u, v), (dn, rf, db))) := by skip; exact if_neg (by simp only [c6, Bool.false_eq_true, and_false, false_and, not_false_eq_true])
    rw [hQ]
    exact xg_emi S hr hlk hK hG ⟨(by skip; first | exact absurd c26 c6 | (simp only [dj_jud, c6, if_false, Bool.false_eq_true]; done) | exact absurd c31 (by rw [c6]; decide) | (unfold dj_jud; rw [if_pos c6]; simp [dj_jsw, c6])), hO, hT, hPo, hP, (by rw [hfin]; exact hSo), (by rw [hfin]; exact hA), (by rw [hfin]; exact hTi), (by rw [hfin]; exact hCh), xv_S.rf⟩ dX7_judge_11
set_option maxHeartbeats 4000000 in
set_option maxRecDepth 100000 in
theorem mX7_state (l : Launch) (D : va_G) (cI cZ : ClassId) (bs : Nat) (ad : Nat → Nat) (ws : va_W) (b : Nat) (fk : Int32) (sk : Int32) (hO : ws[b]? = some (ad b, .inr (7, [.ref (ad (b + 1)), .ref (ad (b + 14)), .ref (ad (b + 27)), .int fk, .int sk, .ref (ad (b + 40)), .ref (ad (b + 42)), .ref (ad (b + 58)), .ref (ad (b + 60)), .ref (ad (b + 61))]))) (T : Nat → Nat → Int32) (hT : xv_T cI ad ws (b + 1) T) (p : Int32) (x : Int32) : Met l yX7_state wsX7_state ({ frames := 2, cells := 0, slots := 0, locals := 43 } : Room) (va_Pc [.ref (ad b), .int p, .int x] (fun U => xg_W D cI cZ bs ws U)) (xg_Ri (fun r : Int32 => r = dj_stt T p x)) 0 0 xg_F := by
  refine xg_met cX7_state 3 (some .int) RX7 (by decide) rfl rfl (Nat.le_of_ble_eq_true rfl) ?_
  intro pg en s m below meth c ls S hr hlk hnm hB hl
  have hK := hB.1
  have hG := xg_start hB
  obtain ⟨hx, hb, hml, hown, hts⟩ := id S
  have hl : lv_has ls 3 [(0, .ref (ad b)), (1, .int p), (2, .int x)] := hl
  obtain ⟨Q, hQ⟩ : ∃ Q, Q = MQ below (xg_Ri (fun r : Int32 => r = dj_stt T p x)) ([.ref (ad b), .int p, .int x] : List Value).toArray s 0 0 xg_F := ⟨_, rfl⟩
  rw [← hQ]
  have k0 := hts (.fieldLink RX7 10 "DareBridge" "now" "LDareBridge$Town;") (List.mem_of_getElem? (i := 1) rfl)
  refine lv_aload_n hx hb dX7_state_0 rfl (lv_at hl 0 rfl) ?_
  refine xg_get (C := RX7) (T := TX7) (N := 10) S hK hG (fun w h => List.mem_cons_of_mem _ (List.mem_append_left _ (List.mem_append_right _ (h)))) b hO rfl 0 (by decide) k0 (fun _ h9 => h9) rfl dX7_state_1 ?_
  refine lv_iload_n hx hb dX7_state_4 rfl (lv_at hl 1 rfl) ?_
  refine xg_ri (va_runV (As := [.int p]) (rest := []) S (mX5_isThere l D cI cZ bs ad ws (b + 1) T hT p) (cwV 1 hts gX7_state_X5_isThere rfl rfl rfl (by decide +kernel) ⟨Nat.le_of_ble_eq_true rfl, Nat.le_of_ble_eq_true rfl⟩) (xg_preV hK hG (b + 1) hT.1 rfl rfl) rfl rfl hl.1 rfl (lv_room (Nat.le_of_ble_eq_true rfl)) dX7_state_5 ⟨Nat.zero_le _, Nat.zero_le _⟩) (fun r1 hr1 => ?_)
  replace hr1 := hr1.symm; subst hr1
  refine xb_ifne (tgt := 13) S dX7_state_8 (by decide) (fun c8 => ?_) (fun c8 => ?_)
  · skip
    refine lv_iload_n hx hb dX7_state_13 rfl (lv_at hl 2 rfl) ?_
    refine lv_iconst (v := 0) hx hb dX7_state_14 (by decide) ?_
    refine lv_iconst (v := 2) hx hb dX7_state_15 (by decide) ?_
    refine xg_ri (va_runS (As := [.int x, .int 0, .int 2]) (rest := []) S (mX7_within l D cI cZ bs ad ws x 0 2) (va_cwS 3 hts gX7_state_X7_within rfl rfl rfl (by decide +kernel) ⟨Nat.le_of_ble_eq_true rfl, Nat.le_of_ble_eq_true rfl⟩) (xg_preS hK hG) rfl rfl hl.1 rfl (lv_room (Nat.le_of_ble_eq_true rfl)) dX7_state_16 ⟨Nat.zero_le _, Nat.zero_le _⟩) (fun r2 hr2 => ?_)
    replace hr2 := hr2.symm; subst hr2
    refine xb_ifeq (tgt := 34) S dX7_state_19 (by decide) (fun c19 => ?_) (fun c19 => ?_)
    · skip
      refine lv_bipush (v := (-2)) hx hb dX7_state_34 (by decide) ?_
      rw [hQ]
      exact xg_eri S hr hlk (by skip; simp only [dj_stt, c8, c19, if_true, if_false, Bool.false_eq_true]) dX7_state_36
    · skip
      refine lv_aload_n hx hb dX7_state_22 rfl (lv_at hl 0 rfl) ?_
      refine xg_get (C := RX7) (T := TX7) (N := 10) S hK hG (fun w h => List.mem_cons_of_mem _ (List.mem_append_left _ (List.mem_append_right _ (h)))) b hO rfl 0 (by decide) k0 (fun _ h9 => h9) rfl dX7_state_23 ?_
      refine lv_iload_n hx hb dX7_state_26 rfl (lv_at hl 1 rfl) ?_
      refine lv_iload_n hx hb dX7_state_27 rfl (lv_at hl 2 rfl) ?_
      refine xg_ri (va_runV (As := [.int p, .int x]) (rest := []) S (mX5_standing l D cI cZ bs ad ws (b + 1) T hT p x) (cwV 2 hts gX7_state_X5_standing rfl rfl rfl (by decide +kernel) ⟨Nat.le_of_ble_eq_true rfl, Nat.le_of_ble_eq_true rfl⟩) (xg_preV hK hG (b + 1) hT.1 rfl rfl) rfl rfl hl.1 rfl (lv_room (Nat.le_of_ble_eq_true rfl)) dX7_state_28 ⟨Nat.zero_le _, Nat.zero_le _⟩) (fun r3 hr3 => ?_)
      replace hr3 := hr3.symm; subst hr3
      refine lv_goto (tgt := 36) hx hb dX7_state_31 (by decide) ?_
      rw [hQ]
      exact xg_eri S hr hlk (by skip; simp only [dj_stt, c8, c19, if_true, if_false, Bool.false_eq_true]) dX7_state_36
  · skip
    refine lv_iconst (v := (-1)) hx hb dX7_state_11 (by decide) ?_
    rw [hQ]
    exact xg_eri S hr hlk (by skip; simp only [dj_stt, c8, if_true, if_false, Bool.false_eq_true]) dX7_state_12
set_option maxHeartbeats 4000000 in
set_option maxRecDepth 100000 in
theorem mX7_behind (l : Launch) (D : va_G) (cI cZ : ClassId) (bs : Nat) (ad : Nat → Nat) (ws : va_W) (b : Nat) (fk : Int32) (sk : Int32) (hO : ws[b]? = some (ad b, .inr (7, [.ref (ad (b + 1)), .ref (ad (b + 14)), .ref (ad (b + 27)), .int fk, .int sk, .ref (ad (b + 40)), .ref (ad (b + 42)), .ref (ad (b + 58)), .ref (ad (b + 60)), .ref (ad (b + 61))]))) (T : Nat → Nat → Int32) (hT : xv_T cI ad ws (b + 1) T) (n : Int32) (hPo : ws[b + 40]? = some (ad (b + 40), .inr (3, [.ref (ad (b + 41)), .int n]))) (g : Nat → Int32) (hP : ws[b + 41]? = some (ad (b + 41), .inl (cI, 60, .inl g))) (ev : Int32) (wh : Int32) (dn : Int32) (rf : Int32) (db : Int32) (he : Int32) (hSo : ws[b + 42]? = some (ad (b + 42), .inr (4, [.ref (ad (b + 43)), .ref (ad (b + 56)), .ref (ad (b + 57)), .int ev, .int wh, .int dn, .int rf, .int db, .int he]))) (TA : Nat → Nat → Int32) (hA : xv_T cI ad ws (b + 43) TA) (f : Nat → Int32) (hTi : ws[b + 56]? = some (ad (b + 56), .inl (cI, 36, .inl f))) (u : Int64) (v : Int64) (hCh : ws[b + 57]? = some (ad (b + 57), .inr (0, [.long u, .long v]))) (p : Int32) (x : Int32) (nn : Nat) (hnn : n = nI nn) (hn60 : nn ≤ 60) : Met l yX7_behind wsX7_behind ({ frames := 6, cells := 0, slots := 0, locals := 139 } : Room) (va_Pc [.ref (ad b), .int p, .int x] (fun U => xg_W D cI cZ bs ws U)) (va_Qi (fun (r : Int32) (w : va_W) => r = dj_beh T (dk_ret T g nn) (dk_ply T g nn (ev, wh, (TA, f, (he, u, v), (dn, rf, db)))) p x ∧ w[b]? = some (ad b, .inr (7, [.ref (ad (b + 1)), .ref (ad (b + 14)), .ref (ad (b + 27)), .int fk, .int sk, .ref (ad (b + 40)), .ref (ad (b + 42)), .ref (ad (b + 58)), .ref (ad (b + 60)), .ref (ad (b + 61))])) ∧ xv_T cI ad w (b + 1) T ∧ w[b + 40]? = some (ad (b + 40), .inr (3, [.ref (ad (b + 41)), .int n])) ∧ w[b + 41]? = some (ad (b + 41), .inl (cI, 60, .inl g)) ∧ w[b + 42]? = some (ad (b + 42), .inr (4, [.ref (ad (b + 43)), .ref (ad (b + 56)), .ref (ad (b + 57)), .int ((dj_aft (dt_isT T p = true ∧ xw_in x 0 2 = true) (dk_ply T g nn (ev, wh, (TA, f, (he, u, v), (dn, rf, db)))) (ev, wh, (TA, f, (he, u, v), (dn, rf, db)))).1), .int ((dj_aft (dt_isT T p = true ∧ xw_in x 0 2 = true) (dk_ply T g nn (ev, wh, (TA, f, (he, u, v), (dn, rf, db)))) (ev, wh, (TA, f, (he, u, v), (dn, rf, db)))).2.1), .int ((dj_aft (dt_isT T p = true ∧ xw_in x 0 2 = true) (dk_ply T g nn (ev, wh, (TA, f, (he, u, v), (dn, rf, db)))) (ev, wh, (TA, f, (he, u, v), (dn, rf, db)))).2.2.2.2.2.1), .int ((dj_aft (dt_isT T p = true ∧ xw_in x 0 2 = true) (dk_ply T g nn (ev, wh, (TA, f, (he, u, v), (dn, rf, db)))) (ev, wh, (TA, f, (he, u, v), (dn, rf, db)))).2.2.2.2.2.2.1), .int ((dj_aft (dt_isT T p = true ∧ xw_in x 0 2 = true) (dk_ply T g nn (ev, wh, (TA, f, (he, u, v), (dn, rf, db)))) (ev, wh, (TA, f, (he, u, v), (dn, rf, db)))).2.2.2.2.2.2.2), .int ((dj_aft (dt_isT T p = true ∧ xw_in x 0 2 = true) (dk_ply T g nn (ev, wh, (TA, f, (he, u, v), (dn, rf, db)))) (ev, wh, (TA, f, (he, u, v), (dn, rf, db)))).2.2.2.2.1.1)])) ∧ xv_T cI ad w (b + 43) ((dj_aft (dt_isT T p = true ∧ xw_in x 0 2 = true) (dk_ply T g nn (ev, wh, (TA, f, (he, u, v), (dn, rf, db)))) (ev, wh, (TA, f, (he, u, v), (dn, rf, db)))).2.2.1) ∧ w[b + 56]? = some (ad (b + 56), .inl (cI, 36, .inl ((dj_aft (dt_isT T p = true ∧ xw_in x 0 2 = true) (dk_ply T g nn (ev, wh, (TA, f, (he, u, v), (dn, rf, db)))) (ev, wh, (TA, f, (he, u, v), (dn, rf, db)))).2.2.2.1))) ∧ w[b + 57]? = some (ad (b + 57), .inr (0, [.long ((dj_aft (dt_isT T p = true ∧ xw_in x 0 2 = true) (dk_ply T g nn (ev, wh, (TA, f, (he, u, v), (dn, rf, db)))) (ev, wh, (TA, f, (he, u, v), (dn, rf, db)))).2.2.2.2.1.2.1), .long ((dj_aft (dt_isT T p = true ∧ xw_in x 0 2 = true) (dk_ply T g nn (ev, wh, (TA, f, (he, u, v), (dn, rf, db)))) (ev, wh, (TA, f, (he, u, v), (dn, rf, db)))).2.2.2.2.1.2.2)])) ∧ xv_S ws w (b + 42) 16) (fun w t => xg_W D cI cZ bs w t) (xg_A bs)) 0 0 (xg_A bs) := by
  refine xg_met cX7_behind 4 (some .int) RX7 (by decide) rfl rfl (Nat.le_of_ble_eq_true rfl) ?_
  intro pg en s m below meth c ls S hr hlk hnm hB hl
  have hK := hB.1
  have hG := xg_start hB
  obtain ⟨hx, hb, hml, hown, hts⟩ := id S
  have hl : lv_has ls 4 [(0, .ref (ad b)), (1, .int p), (2, .int x)] := hl
  obtain ⟨Q, hQ⟩ : ∃ Q, Q = MQ below (va_Qi (fun (r : Int32) (w : va_W) => r = dj_beh T (dk_ret T g nn) (dk_ply T g nn (ev, wh, (TA, f, (he, u, v), (dn, rf, db)))) p x ∧ w[b]? = some (ad b, .inr (7, [.ref (ad (b + 1)), .ref (ad (b + 14)), .ref (ad (b + 27)), .int fk, .int sk, .ref (ad (b + 40)), .ref (ad (b + 42)), .ref (ad (b + 58)), .ref (ad (b + 60)), .ref (ad (b + 61))])) ∧ xv_T cI ad w (b + 1) T ∧ w[b + 40]? = some (ad (b + 40), .inr (3, [.ref (ad (b + 41)), .int n])) ∧ w[b + 41]? = some (ad (b + 41), .inl (cI, 60, .inl g)) ∧ w[b + 42]? = some (ad (b + 42), .inr (4, [.ref (ad (b + 43)), .ref (ad (b + 56)), .ref (ad (b + 57)), .int ((dj_aft (dt_isT T p = true ∧ xw_in x 0 2 = true) (dk_ply T g nn (ev, wh, (TA, f, (he, u, v), (dn, rf, db)))) (ev, wh, (TA, f, (he, u, v), (dn, rf, db)))).1), .int ((dj_aft (dt_isT T p = true ∧ xw_in x 0 2 = true) (dk_ply T g nn (ev, wh, (TA, f, (he, u, v), (dn, rf, db)))) (ev, wh, (TA, f, (he, u, v), (dn, rf, db)))).2.1), .int ((dj_aft (dt_isT T p = true ∧ xw_in x 0 2 = true) (dk_ply T g nn (ev, wh, (TA, f, (he, u, v), (dn, rf, db)))) (ev, wh, (TA, f, (he, u, v), (dn, rf, db)))).2.2.2.2.2.1), .int ((dj_aft (dt_isT T p = true ∧ xw_in x 0 2 = true) (dk_ply T g nn (ev, wh, (TA, f, (he, u, v), (dn, rf, db)))) (ev, wh, (TA, f, (he, u, v), (dn, rf, db)))).2.2.2.2.2.2.1), .int ((dj_aft (dt_isT T p = true ∧ xw_in x 0 2 = true) (dk_ply T g nn (ev, wh, (TA, f, (he, u, v), (dn, rf, db)))) (ev, wh, (TA, f, (he, u, v), (dn, rf, db)))).2.2.2.2.2.2.2), .int ((dj_aft (dt_isT T p = true ∧ xw_in x 0 2 = true) (dk_ply T g nn (ev, wh, (TA, f, (he, u, v), (dn, rf, db)))) (ev, wh, (TA, f, (he, u, v), (dn, rf, db)))).2.2.2.2.1.1)])) ∧ xv_T cI ad w (b + 43) ((dj_aft (dt_isT T p = true ∧ xw_in x 0 2 = true) (dk_ply T g nn (ev, wh, (TA, f, (he, u, v), (dn, rf, db)))) (ev, wh, (TA, f, (he, u, v), (dn, rf, db)))).2.2.1) ∧ w[b + 56]? = some (ad (b + 56), .inl (cI, 36, .inl ((dj_aft (dt_isT T p = true ∧ xw_in x 0 2 = true) (dk_ply T g nn (ev, wh, (TA, f, (he, u, v), (dn, rf, db)))) (ev, wh, (TA, f, (he, u, v), (dn, rf, db)))).2.2.2.1))) ∧ w[b + 57]? = some (ad (b + 57), .inr (0, [.long ((dj_aft (dt_isT T p = true ∧ xw_in x 0 2 = true) (dk_ply T g nn (ev, wh, (TA, f, (he, u, v), (dn, rf, db)))) (ev, wh, (TA, f, (he, u, v), (dn, rf, db)))).2.2.2.2.1.2.1), .long ((dj_aft (dt_isT T p = true ∧ xw_in x 0 2 = true) (dk_ply T g nn (ev, wh, (TA, f, (he, u, v), (dn, rf, db)))) (ev, wh, (TA, f, (he, u, v), (dn, rf, db)))).2.2.2.2.1.2.2)])) ∧ xv_S ws w (b + 42) 16) (fun w t => xg_W D cI cZ bs w t) (xg_A bs)) ([.ref (ad b), .int p, .int x] : List Value).toArray s 0 0 (xg_A bs) := ⟨_, rfl⟩
  rw [← hQ]
  have k0 := hts (.fieldLink RX7 10 "DareBridge" "now" "LDareBridge$Town;") (List.mem_of_getElem? (i := 1) rfl)
  have k1 := hts (.fieldLink RX7 39 "DareBridge" "summer" "LDareBridge$Summer;") (List.mem_of_getElem? (i := 2) rfl)
  have k2 := hts (.fieldLink RX7 146 "DareBridge$Summer" "after" "LDareBridge$Town;") (List.mem_of_getElem? (i := 3) rfl)
  refine lv_aload_n hx hb dX7_behind_0 rfl (lv_at hl 0 rfl) ?_
  refine xg_get (C := RX7) (T := TX7) (N := 10) S hK hG (fun w h => List.mem_cons_of_mem _ (List.mem_append_left _ (List.mem_append_left _ (List.mem_append_left _ (List.mem_append_left _ (List.mem_append_right _ (h))))))) b hO rfl 0 (by decide) k0 (fun _ h9 => h9) rfl dX7_behind_1 ?_
  refine lv_iload_n hx hb dX7_behind_4 rfl (lv_at hl 1 rfl) ?_
  refine xg_ri (va_runV (As := [.int p]) (rest := []) S (mX5_isThere l D cI cZ bs ad ws (b + 1) T hT p) (cwV 1 hts gX7_behind_X5_isThere rfl rfl rfl (by decide +kernel) ⟨Nat.le_of_ble_eq_true rfl, Nat.le_of_ble_eq_true rfl⟩) (xg_preV hK hG (b + 1) hT.1 rfl rfl) rfl rfl hl.1 rfl (lv_room (Nat.le_of_ble_eq_true rfl)) dX7_behind_5 ⟨Nat.zero_le _, Nat.zero_le _⟩) (fun r1 hr1 => ?_)
  replace hr1 := hr1.symm; subst hr1
  refine xb_ifne (tgt := 13) S dX7_behind_8 (by decide) (fun c8 => ?_) (fun c8 => ?_)
  · skip
    refine lv_iload_n hx hb dX7_behind_13 rfl (lv_at hl 2 rfl) ?_
    refine lv_iconst (v := 0) hx hb dX7_behind_14 (by decide) ?_
    refine lv_iconst (v := 2) hx hb dX7_behind_15 (by decide) ?_
    refine xg_ri (va_runS (As := [.int x, .int 0, .int 2]) (rest := []) S (mX7_within l D cI cZ bs ad ws x 0 2) (va_cwS 3 hts gX7_behind_X7_within rfl rfl rfl (by decide +kernel) ⟨Nat.le_of_ble_eq_true rfl, Nat.le_of_ble_eq_true rfl⟩) (xg_preS hK hG) rfl rfl hl.1 rfl (lv_room (Nat.le_of_ble_eq_true rfl)) dX7_behind_16 ⟨Nat.zero_le _, Nat.zero_le _⟩) (fun r2 hr2 => ?_)
    replace hr2 := hr2.symm; subst hr2
    refine xb_ifne (tgt := 25) S dX7_behind_19 (by decide) (fun c19 => ?_) (fun c19 => ?_)
    · skip
      refine lv_aload_n hx hb dX7_behind_25 rfl (lv_at hl 0 rfl) ?_
      refine xg_mi (va_runV (As := []) (rest := []) S (mX7_playSummer l D cI cZ bs ad ws b fk sk hO T hT n hPo g hP ev wh dn rf db he hSo TA hA f hTi u v hCh nn (by first | assumption | omega) (by first | assumption | omega)) (cwV 0 hts gX7_behind_X7_playSummer rfl rfl rfl (by decide +kernel) ⟨Nat.le_of_ble_eq_true rfl, Nat.le_of_ble_eq_true rfl⟩) (xg_preV hK hG b hO rfl rfl) rfl rfl hl.1 rfl (lv_room (Nat.le_of_ble_eq_true rfl)) dX7_behind_26 ⟨Nat.zero_le _, Nat.zero_le _⟩) hG (fun r3 w4 H locs hr3 hG => ?_)
      obtain ⟨hr3, hvw4_0, hvw4_1, hvw4_2, hvw4_3, hvw4_4, hvw4_5, hvw4_6, hvw4_7, hsw4⟩ := hr3
      replace hr3 := hr3.symm; subst hr3
      have hO : w4[b]? = some (ad b, .inr (7, [.ref (ad (b + 1)), .ref (ad (b + 14)), .ref (ad (b + 27)), .int fk, .int sk, .ref (ad (b + 40)), .ref (ad (b + 42)), .ref (ad (b + 58)), .ref (ad (b + 60)), .ref (ad (b + 61))])) := hvw4_0
      have hT : xv_T cI ad w4 (b + 1) T := hvw4_1
      have hPo : w4[b + 40]? = some (ad (b + 40), .inr (3, [.ref (ad (b + 41)), .int n])) := hvw4_2
      have hP : w4[b + 41]? = some (ad (b + 41), .inl (cI, 60, .inl g)) := hvw4_3
      have hSo : w4[b + 42]? = some (ad (b + 42), .inr (4, [.ref (ad (b + 43)), .ref (ad (b + 56)), .ref (ad (b + 57)), .int ((dk_ply T g nn (ev, wh, (TA, f, (he, u, v), (dn, rf, db)))).1), .int ((dk_ply T g nn (ev, wh, (TA, f, (he, u, v), (dn, rf, db)))).2.1), .int ((dk_ply T g nn (ev, wh, (TA, f, (he, u, v), (dn, rf, db)))).2.2.2.2.2.1), .int ((dk_ply T g nn (ev, wh, (TA, f, (he, u, v), (dn, rf, db)))).2.2.2.2.2.2.1), .int ((dk_ply T g nn (ev, wh, (TA, f, (he, u, v), (dn, rf, db)))).2.2.2.2.2.2.2), .int ((dk_ply T g nn (ev, wh, (TA, f, (he, u, v), (dn, rf, db)))).2.2.2.2.1.1)])) := hvw4_4
      obtain ⟨x5, ex5⟩ : ∃ zz : Int32, ((dk_ply T g nn (ev, wh, (TA, f, (he, u, v), (dn, rf, db)))).1) = zz := ⟨_, rfl⟩
      rw [ex5] at hSo
      obtain ⟨x6, ex6⟩ : ∃ zz : Int32, ((dk_ply T g nn (ev, wh, (TA, f, (he, u, v), (dn, rf, db)))).2.1) = zz := ⟨_, rfl⟩
      rw [ex6] at hSo
      obtain ⟨x7, ex7⟩ : ∃ zz : Int32, ((dk_ply T g nn (ev, wh, (TA, f, (he, u, v), (dn, rf, db)))).2.2.2.2.2.1) = zz := ⟨_, rfl⟩
      rw [ex7] at hSo
      obtain ⟨x8, ex8⟩ : ∃ zz : Int32, ((dk_ply T g nn (ev, wh, (TA, f, (he, u, v), (dn, rf, db)))).2.2.2.2.2.2.1) = zz := ⟨_, rfl⟩
      rw [ex8] at hSo
      obtain ⟨x9, ex9⟩ : ∃ zz : Int32, ((dk_ply T g nn (ev, wh, (TA, f, (he, u, v), (dn, rf, db)))).2.2.2.2.2.2.2) = zz := ⟨_, rfl⟩
      rw [ex9] at hSo
      obtain ⟨x10, ex10⟩ : ∃ zz : Int32, ((dk_ply T g nn (ev, wh, (TA, f, (he, u, v), (dn, rf, db)))).2.2.2.2.1.1) = zz := ⟨_, rfl⟩
      rw [ex10] at hSo
      have hA : xv_T cI ad w4 (b + 43) ((dk_ply T g nn (ev, wh, (TA, f, (he, u, v), (dn, rf, db)))).2.2.1) := hvw4_5
      obtain ⟨T11, eT11⟩ : ∃ zz : Nat → Nat → Int32, ((dk_ply T g nn (ev, wh, (TA, f, (he, u, v), (dn, rf, db)))).2.2.1) = zz := ⟨_, rfl⟩
      rw [eT11] at hA
      have hCh : w4[b + 57]? = some (ad (b + 57), .inr (0, [.long ((dk_ply T g nn (ev, wh, (TA, f, (he, u, v), (dn, rf, db)))).2.2.2.2.1.2.1), .long ((dk_ply T g nn (ev, wh, (TA, f, (he, u, v), (dn, rf, db)))).2.2.2.2.1.2.2)])) := hvw4_7
      obtain ⟨x12, ex12⟩ : ∃ zz : Int64, ((dk_ply T g nn (ev, wh, (TA, f, (he, u, v), (dn, rf, db)))).2.2.2.2.1.2.1) = zz := ⟨_, rfl⟩
      rw [ex12] at hCh
      obtain ⟨x13, ex13⟩ : ∃ zz : Int64, ((dk_ply T g nn (ev, wh, (TA, f, (he, u, v), (dn, rf, db)))).2.2.2.2.1.2.2) = zz := ⟨_, rfl⟩
      rw [ex13] at hCh
      obtain ⟨f14, ef14⟩ : ∃ zz : Nat → Int32, ((dk_ply T g nn (ev, wh, (TA, f, (he, u, v), (dn, rf, db)))).2.2.2.1) = zz := ⟨_, rfl⟩
      have hTi : w4[b + 56]? = some (ad (b + 56), .inl (cI, 36, .inl f14)) := by rw [← ef14]; exact hvw4_6
      have hSw4 : xv_S ws w4 (b + 42) 16 := hsw4.mono (by omega) (by omega)
      refine lv_topi (fun x15 ex15 => ?_)
      replace ex15 := ex15.symm
      refine lv_istore_n (lv' := [(3, .int x15), (0, .ref (ad b)), (1, .int p), (2, .int x)]) hx hb dX7_behind_29 rfl hl (by decide) rfl (fun ls hl => ?_)
      refine lv_iload_n hx hb dX7_behind_30 rfl (lv_at hl 0 rfl) ?_
      refine lv_if_eq (tgt := 38) hx hb dX7_behind_31 (by decide) (fun c31 => ?_) (fun c31 => ?_)
      · skip
        refine lv_aload_n hx hb dX7_behind_38 rfl (lv_at hl 1 rfl) ?_
        refine xg_get (C := RX7) (T := TX7) (N := 10) S hK hG (fun w h => List.mem_cons_of_mem _ (List.mem_append_left _ (List.mem_append_left _ (List.mem_append_left _ (List.mem_append_left _ (List.mem_append_right _ (h))))))) b hO rfl 6 (by decide) k1 (fun _ h9 => h9) rfl dX7_behind_39 ?_
        refine xg_get (C := RX4) (T := TX4) (N := 9) S hK hG (fun w h => List.mem_cons_of_mem _ (List.mem_append_left _ (List.mem_append_left _ (List.mem_append_left _ (List.mem_append_right _ (h)))))) (b + 42) hSo rfl 0 (by decide) k2 (fun _ h9 => h9) rfl dX7_behind_42 ?_
        refine lv_iload_n hx hb dX7_behind_45 rfl (lv_at hl 2 rfl) ?_
        refine lv_iload_n hx hb dX7_behind_46 rfl (lv_at hl 3 rfl) ?_
        refine xg_ri (va_runV (As := [.int p, .int x]) (rest := []) S (mX5_standing l D cI cZ bs ad w4 (b + 43) T11 hA p x) (cwV 2 hts gX7_behind_X5_standing rfl rfl rfl (by decide +kernel) ⟨Nat.le_of_ble_eq_true rfl, Nat.le_of_ble_eq_true rfl⟩) (xg_preV hK hG (b + 43) hA.1 rfl rfl) rfl rfl hl.1 rfl (lv_room (Nat.le_of_ble_eq_true rfl)) dX7_behind_47 ⟨Nat.zero_le _, Nat.zero_le _⟩) (fun r16 hr16 => ?_)
        replace hr16 := hr16.symm; subst hr16
        have hfin : dj_aft (dt_isT T p = true ∧ xw_in x 0 2 = true) (dk_ply T g nn (ev, wh, (TA, f, (he, u, v), (dn, rf, db)))) (ev, wh, (TA, f, (he, u, v), (dn, rf, db))) = (x5, x6, (T11, f14, (x10, x12, x13), (x7, x8, x9))) := by subst ex5 ex6 ex7 ex8 ex9 ex10 eT11 ex12 ex13 ef14 ex15; exact if_pos ⟨c8, c19⟩
        rw [hQ]
        exact xg_emi S hr hlk hK hG ⟨(by subst ex5 ex6 ex7 ex8 ex9 ex10 eT11 ex12 ex13 ef14 ex15; simp only [dj_beh, c8, c19, c31, if_true, if_false, Bool.false_eq_true]), hO, hT, hPo, hP, (by rw [hfin]; exact hSo), (by rw [hfin]; exact hA), (by rw [hfin]; exact hTi), (by rw [hfin]; exact hCh), hSw4⟩ dX7_behind_50
      · skip
        refine lv_iload_n hx hb dX7_behind_34 rfl (lv_at hl 0 rfl) ?_
        refine lv_goto (tgt := 50) hx hb dX7_behind_35 (by decide) ?_
        have hfin : dj_aft (dt_isT T p = true ∧ xw_in x 0 2 = true) (dk_ply T g nn (ev, wh, (TA, f, (he, u, v), (dn, rf, db)))) (ev, wh, (TA, f, (he, u, v), (dn, rf, db))) = (x5, x6, (T11, f14, (x10, x12, x13), (x7, x8, x9))) := by subst ex5 ex6 ex7 ex8 ex9 ex10 eT11 ex12 ex13 ef14 ex15; exact if_pos ⟨c8, c19⟩
        rw [hQ]
        exact xg_emi S hr hlk hK hG ⟨(by subst ex5 ex6 ex7 ex8 ex9 ex10 eT11 ex12 ex13 ef14 ex15; simp only [dj_beh, c8, c19, c31, if_true, if_false, Bool.false_eq_true]), hO, hT, hPo, hP, (by rw [hfin]; exact hSo), (by rw [hfin]; exact hA), (by rw [hfin]; exact hTi), (by rw [hfin]; exact hCh), hSw4⟩ dX7_behind_50
    · skip
      refine lv_bipush (v := (-2)) hx hb dX7_behind_22 (by decide) ?_
      have hfin : dj_aft (dt_isT T p = true ∧ xw_in x 0 2 = true) (dk_ply T g nn (ev, wh, (TA, f, (he, u, v), (dn, rf, db)))) (ev, wh, (TA, f, (he, u, v), (dn, rf, db))) = (ev, wh, (TA, f, (he, u, v), (dn, rf, db))) := by skip; exact if_neg (by simp only [c8, c19, Bool.false_eq_true, and_false, false_and, not_false_eq_true])
      rw [hQ]
      exact xg_emi S hr hlk hK hG ⟨(by skip; simp only [dj_beh, c8, c19, if_true, if_false, Bool.false_eq_true]), hO, hT, hPo, hP, (by rw [hfin]; exact hSo), (by rw [hfin]; exact hA), (by rw [hfin]; exact hTi), (by rw [hfin]; exact hCh), xv_S.rf⟩ dX7_behind_24
  · skip
    refine lv_iconst (v := (-1)) hx hb dX7_behind_11 (by decide) ?_
    have hfin : dj_aft (dt_isT T p = true ∧ xw_in x 0 2 = true) (dk_ply T g nn (ev, wh, (TA, f, (he, u, v), (dn, rf, db)))) (ev, wh, (TA, f, (he, u, v), (dn, rf, db))) = (ev, wh, (TA, f, (he, u, v), (dn, rf, db))) := by skip; exact if_neg (by simp only [c8, Bool.false_eq_true, and_false, false_and, not_false_eq_true])
    rw [hQ]
    exact xg_emi S hr hlk hK hG ⟨(by skip; simp only [dj_beh, c8, if_true, if_false, Bool.false_eq_true]), hO, hT, hPo, hP, (by rw [hfin]; exact hSo), (by rw [hfin]; exact hA), (by rw [hfin]; exact hTi), (by rw [hfin]; exact hCh), xv_S.rf⟩ dX7_behind_12
set_option maxHeartbeats 4000000 in
set_option maxRecDepth 100000 in
theorem mX7_ties (l : Launch) (D : va_G) (cI cZ : ClassId) (bs : Nat) (ad : Nat → Nat) (ws : va_W) (b : Nat) (fk : Int32) (sk : Int32) (hO : ws[b]? = some (ad b, .inr (7, [.ref (ad (b + 1)), .ref (ad (b + 14)), .ref (ad (b + 27)), .int fk, .int sk, .ref (ad (b + 40)), .ref (ad (b + 42)), .ref (ad (b + 58)), .ref (ad (b + 60)), .ref (ad (b + 61))]))) (T : Nat → Nat → Int32) (hT : xv_T cI ad ws (b + 1) T) (n : Int32) (hPo : ws[b + 40]? = some (ad (b + 40), .inr (3, [.ref (ad (b + 41)), .int n]))) (g : Nat → Int32) (hP : ws[b + 41]? = some (ad (b + 41), .inl (cI, 60, .inl g))) (ev : Int32) (wh : Int32) (dn : Int32) (rf : Int32) (db : Int32) (he : Int32) (hSo : ws[b + 42]? = some (ad (b + 42), .inr (4, [.ref (ad (b + 43)), .ref (ad (b + 56)), .ref (ad (b + 57)), .int ev, .int wh, .int dn, .int rf, .int db, .int he]))) (TA : Nat → Nat → Int32) (hA : xv_T cI ad ws (b + 43) TA) (f : Nat → Int32) (hTi : ws[b + 56]? = some (ad (b + 56), .inl (cI, 36, .inl f))) (u : Int64) (v : Int64) (hCh : ws[b + 57]? = some (ad (b + 57), .inr (0, [.long u, .long v]))) (x : Int32) (nn : Nat) (hnn : n = nI nn) (hn60 : nn ≤ 60) : Met l yX7_ties wsX7_ties ({ frames := 6, cells := 0, slots := 0, locals := 139 } : Room) (va_Pc [.ref (ad b), .int x] (fun U => xg_W D cI cZ bs ws U)) (va_Qi (fun (r : Int32) (w : va_W) => r = dj_tie (dk_ret T g nn) (dk_ply T g nn (ev, wh, (TA, f, (he, u, v), (dn, rf, db)))) x ∧ w[b]? = some (ad b, .inr (7, [.ref (ad (b + 1)), .ref (ad (b + 14)), .ref (ad (b + 27)), .int fk, .int sk, .ref (ad (b + 40)), .ref (ad (b + 42)), .ref (ad (b + 58)), .ref (ad (b + 60)), .ref (ad (b + 61))])) ∧ xv_T cI ad w (b + 1) T ∧ w[b + 40]? = some (ad (b + 40), .inr (3, [.ref (ad (b + 41)), .int n])) ∧ w[b + 41]? = some (ad (b + 41), .inl (cI, 60, .inl g)) ∧ w[b + 42]? = some (ad (b + 42), .inr (4, [.ref (ad (b + 43)), .ref (ad (b + 56)), .ref (ad (b + 57)), .int ((dj_aft (xw_in x 0 1 = true) (dk_ply T g nn (ev, wh, (TA, f, (he, u, v), (dn, rf, db)))) (ev, wh, (TA, f, (he, u, v), (dn, rf, db)))).1), .int ((dj_aft (xw_in x 0 1 = true) (dk_ply T g nn (ev, wh, (TA, f, (he, u, v), (dn, rf, db)))) (ev, wh, (TA, f, (he, u, v), (dn, rf, db)))).2.1), .int ((dj_aft (xw_in x 0 1 = true) (dk_ply T g nn (ev, wh, (TA, f, (he, u, v), (dn, rf, db)))) (ev, wh, (TA, f, (he, u, v), (dn, rf, db)))).2.2.2.2.2.1), .int ((dj_aft (xw_in x 0 1 = true) (dk_ply T g nn (ev, wh, (TA, f, (he, u, v), (dn, rf, db)))) (ev, wh, (TA, f, (he, u, v), (dn, rf, db)))).2.2.2.2.2.2.1), .int ((dj_aft (xw_in x 0 1 = true) (dk_ply T g nn (ev, wh, (TA, f, (he, u, v), (dn, rf, db)))) (ev, wh, (TA, f, (he, u, v), (dn, rf, db)))).2.2.2.2.2.2.2), .int ((dj_aft (xw_in x 0 1 = true) (dk_ply T g nn (ev, wh, (TA, f, (he, u, v), (dn, rf, db)))) (ev, wh, (TA, f, (he, u, v), (dn, rf, db)))).2.2.2.2.1.1)])) ∧ xv_T cI ad w (b + 43) ((dj_aft (xw_in x 0 1 = true) (dk_ply T g nn (ev, wh, (TA, f, (he, u, v), (dn, rf, db)))) (ev, wh, (TA, f, (he, u, v), (dn, rf, db)))).2.2.1) ∧ w[b + 56]? = some (ad (b + 56), .inl (cI, 36, .inl ((dj_aft (xw_in x 0 1 = true) (dk_ply T g nn (ev, wh, (TA, f, (he, u, v), (dn, rf, db)))) (ev, wh, (TA, f, (he, u, v), (dn, rf, db)))).2.2.2.1))) ∧ w[b + 57]? = some (ad (b + 57), .inr (0, [.long ((dj_aft (xw_in x 0 1 = true) (dk_ply T g nn (ev, wh, (TA, f, (he, u, v), (dn, rf, db)))) (ev, wh, (TA, f, (he, u, v), (dn, rf, db)))).2.2.2.2.1.2.1), .long ((dj_aft (xw_in x 0 1 = true) (dk_ply T g nn (ev, wh, (TA, f, (he, u, v), (dn, rf, db)))) (ev, wh, (TA, f, (he, u, v), (dn, rf, db)))).2.2.2.2.1.2.2)])) ∧ xv_S ws w (b + 42) 16) (fun w t => xg_W D cI cZ bs w t) (xg_A bs)) 0 0 (xg_A bs) := by
  refine xg_met cX7_ties 4 (some .int) RX7 (by decide) rfl rfl (Nat.le_of_ble_eq_true rfl) ?_
  intro pg en s m below meth c ls S hr hlk hnm hB hl
  have hK := hB.1
  have hG := xg_start hB
  obtain ⟨hx, hb, hml, hown, hts⟩ := id S
  have hl : lv_has ls 4 [(0, .ref (ad b)), (1, .int x)] := hl
  obtain ⟨Q, hQ⟩ : ∃ Q, Q = MQ below (va_Qi (fun (r : Int32) (w : va_W) => r = dj_tie (dk_ret T g nn) (dk_ply T g nn (ev, wh, (TA, f, (he, u, v), (dn, rf, db)))) x ∧ w[b]? = some (ad b, .inr (7, [.ref (ad (b + 1)), .ref (ad (b + 14)), .ref (ad (b + 27)), .int fk, .int sk, .ref (ad (b + 40)), .ref (ad (b + 42)), .ref (ad (b + 58)), .ref (ad (b + 60)), .ref (ad (b + 61))])) ∧ xv_T cI ad w (b + 1) T ∧ w[b + 40]? = some (ad (b + 40), .inr (3, [.ref (ad (b + 41)), .int n])) ∧ w[b + 41]? = some (ad (b + 41), .inl (cI, 60, .inl g)) ∧ w[b + 42]? = some (ad (b + 42), .inr (4, [.ref (ad (b + 43)), .ref (ad (b + 56)), .ref (ad (b + 57)), .int ((dj_aft (xw_in x 0 1 = true) (dk_ply T g nn (ev, wh, (TA, f, (he, u, v), (dn, rf, db)))) (ev, wh, (TA, f, (he, u, v), (dn, rf, db)))).1), .int ((dj_aft (xw_in x 0 1 = true) (dk_ply T g nn (ev, wh, (TA, f, (he, u, v), (dn, rf, db)))) (ev, wh, (TA, f, (he, u, v), (dn, rf, db)))).2.1), .int ((dj_aft (xw_in x 0 1 = true) (dk_ply T g nn (ev, wh, (TA, f, (he, u, v), (dn, rf, db)))) (ev, wh, (TA, f, (he, u, v), (dn, rf, db)))).2.2.2.2.2.1), .int ((dj_aft (xw_in x 0 1 = true) (dk_ply T g nn (ev, wh, (TA, f, (he, u, v), (dn, rf, db)))) (ev, wh, (TA, f, (he, u, v), (dn, rf, db)))).2.2.2.2.2.2.1), .int ((dj_aft (xw_in x 0 1 = true) (dk_ply T g nn (ev, wh, (TA, f, (he, u, v), (dn, rf, db)))) (ev, wh, (TA, f, (he, u, v), (dn, rf, db)))).2.2.2.2.2.2.2), .int ((dj_aft (xw_in x 0 1 = true) (dk_ply T g nn (ev, wh, (TA, f, (he, u, v), (dn, rf, db)))) (ev, wh, (TA, f, (he, u, v), (dn, rf, db)))).2.2.2.2.1.1)])) ∧ xv_T cI ad w (b + 43) ((dj_aft (xw_in x 0 1 = true) (dk_ply T g nn (ev, wh, (TA, f, (he, u, v), (dn, rf, db)))) (ev, wh, (TA, f, (he, u, v), (dn, rf, db)))).2.2.1) ∧ w[b + 56]? = some (ad (b + 56), .inl (cI, 36, .inl ((dj_aft (xw_in x 0 1 = true) (dk_ply T g nn (ev, wh, (TA, f, (he, u, v), (dn, rf, db)))) (ev, wh, (TA, f, (he, u, v), (dn, rf, db)))).2.2.2.1))) ∧ w[b + 57]? = some (ad (b + 57), .inr (0, [.long ((dj_aft (xw_in x 0 1 = true) (dk_ply T g nn (ev, wh, (TA, f, (he, u, v), (dn, rf, db)))) (ev, wh, (TA, f, (he, u, v), (dn, rf, db)))).2.2.2.2.1.2.1), .long ((dj_aft (xw_in x 0 1 = true) (dk_ply T g nn (ev, wh, (TA, f, (he, u, v), (dn, rf, db)))) (ev, wh, (TA, f, (he, u, v), (dn, rf, db)))).2.2.2.2.1.2.2)])) ∧ xv_S ws w (b + 42) 16) (fun w t => xg_W D cI cZ bs w t) (xg_A bs)) ([.ref (ad b), .int x] : List Value).toArray s 0 0 (xg_A bs) := ⟨_, rfl⟩
  rw [← hQ]
  have k0 := hts (.fieldLink RX7 39 "DareBridge" "summer" "LDareBridge$Summer;") (List.mem_of_getElem? (i := 1) rfl)
  have k1 := hts (.fieldLink RX7 156 "DareBridge$Summer" "ties" "[I") (List.mem_of_getElem? (i := 2) rfl)
  refine lv_iload_n hx hb dX7_ties_0 rfl (lv_at hl 1 rfl) ?_
  refine lv_iconst (v := 0) hx hb dX7_ties_1 (by decide) ?_
  refine lv_iconst (v := 1) hx hb dX7_ties_2 (by decide) ?_
  refine xg_ri (va_runS (As := [.int x, .int 0, .int 1]) (rest := []) S (mX7_within l D cI cZ bs ad ws x 0 1) (va_cwS 3 hts gX7_ties_X7_within rfl rfl rfl (by decide +kernel) ⟨Nat.le_of_ble_eq_true rfl, Nat.le_of_ble_eq_true rfl⟩) (xg_preS hK hG) rfl rfl hl.1 rfl (lv_room (Nat.le_of_ble_eq_true rfl)) dX7_ties_3 ⟨Nat.zero_le _, Nat.zero_le _⟩) (fun r1 hr1 => ?_)
  replace hr1 := hr1.symm; subst hr1
  refine xb_ifne (tgt := 12) S dX7_ties_6 (by decide) (fun c6 => ?_) (fun c6 => ?_)
  · skip
    refine lv_aload_n hx hb dX7_ties_12 rfl (lv_at hl 0 rfl) ?_
    refine xg_mi (va_runV (As := []) (rest := []) S (mX7_playSummer l D cI cZ bs ad ws b fk sk hO T hT n hPo g hP ev wh dn rf db he hSo TA hA f hTi u v hCh nn (by first | assumption | omega) (by first | assumption | omega)) (cwV 0 hts gX7_ties_X7_playSummer rfl rfl rfl (by decide +kernel) ⟨Nat.le_of_ble_eq_true rfl, Nat.le_of_ble_eq_true rfl⟩) (xg_preV hK hG b hO rfl rfl) rfl rfl hl.1 rfl (lv_room (Nat.le_of_ble_eq_true rfl)) dX7_ties_13 ⟨Nat.zero_le _, Nat.zero_le _⟩) hG (fun r2 w3 H locs hr2 hG => ?_)
    obtain ⟨hr2, hvw3_0, hvw3_1, hvw3_2, hvw3_3, hvw3_4, hvw3_5, hvw3_6, hvw3_7, hsw3⟩ := hr2
    replace hr2 := hr2.symm; subst hr2
    have hO : w3[b]? = some (ad b, .inr (7, [.ref (ad (b + 1)), .ref (ad (b + 14)), .ref (ad (b + 27)), .int fk, .int sk, .ref (ad (b + 40)), .ref (ad (b + 42)), .ref (ad (b + 58)), .ref (ad (b + 60)), .ref (ad (b + 61))])) := hvw3_0
    have hT : xv_T cI ad w3 (b + 1) T := hvw3_1
    have hPo : w3[b + 40]? = some (ad (b + 40), .inr (3, [.ref (ad (b + 41)), .int n])) := hvw3_2
    have hP : w3[b + 41]? = some (ad (b + 41), .inl (cI, 60, .inl g)) := hvw3_3
    have hSo : w3[b + 42]? = some (ad (b + 42), .inr (4, [.ref (ad (b + 43)), .ref (ad (b + 56)), .ref (ad (b + 57)), .int ((dk_ply T g nn (ev, wh, (TA, f, (he, u, v), (dn, rf, db)))).1), .int ((dk_ply T g nn (ev, wh, (TA, f, (he, u, v), (dn, rf, db)))).2.1), .int ((dk_ply T g nn (ev, wh, (TA, f, (he, u, v), (dn, rf, db)))).2.2.2.2.2.1), .int ((dk_ply T g nn (ev, wh, (TA, f, (he, u, v), (dn, rf, db)))).2.2.2.2.2.2.1), .int ((dk_ply T g nn (ev, wh, (TA, f, (he, u, v), (dn, rf, db)))).2.2.2.2.2.2.2), .int ((dk_ply T g nn (ev, wh, (TA, f, (he, u, v), (dn, rf, db)))).2.2.2.2.1.1)])) := hvw3_4
    obtain ⟨x4, ex4⟩ : ∃ zz : Int32, ((dk_ply T g nn (ev, wh, (TA, f, (he, u, v), (dn, rf, db)))).1) = zz := ⟨_, rfl⟩
    rw [ex4] at hSo
    obtain ⟨x5, ex5⟩ : ∃ zz : Int32, ((dk_ply T g nn (ev, wh, (TA, f, (he, u, v), (dn, rf, db)))).2.1) = zz := ⟨_, rfl⟩
    rw [ex5] at hSo
    obtain ⟨x6, ex6⟩ : ∃ zz : Int32, ((dk_ply T g nn (ev, wh, (TA, f, (he, u, v), (dn, rf, db)))).2.2.2.2.2.1) = zz := ⟨_, rfl⟩
    rw [ex6] at hSo
    obtain ⟨x7, ex7⟩ : ∃ zz : Int32, ((dk_ply T g nn (ev, wh, (TA, f, (he, u, v), (dn, rf, db)))).2.2.2.2.2.2.1) = zz := ⟨_, rfl⟩
    rw [ex7] at hSo
    obtain ⟨x8, ex8⟩ : ∃ zz : Int32, ((dk_ply T g nn (ev, wh, (TA, f, (he, u, v), (dn, rf, db)))).2.2.2.2.2.2.2) = zz := ⟨_, rfl⟩
    rw [ex8] at hSo
    obtain ⟨x9, ex9⟩ : ∃ zz : Int32, ((dk_ply T g nn (ev, wh, (TA, f, (he, u, v), (dn, rf, db)))).2.2.2.2.1.1) = zz := ⟨_, rfl⟩
    rw [ex9] at hSo
    have hA : xv_T cI ad w3 (b + 43) ((dk_ply T g nn (ev, wh, (TA, f, (he, u, v), (dn, rf, db)))).2.2.1) := hvw3_5
    obtain ⟨T10, eT10⟩ : ∃ zz : Nat → Nat → Int32, ((dk_ply T g nn (ev, wh, (TA, f, (he, u, v), (dn, rf, db)))).2.2.1) = zz := ⟨_, rfl⟩
    rw [eT10] at hA
    have hCh : w3[b + 57]? = some (ad (b + 57), .inr (0, [.long ((dk_ply T g nn (ev, wh, (TA, f, (he, u, v), (dn, rf, db)))).2.2.2.2.1.2.1), .long ((dk_ply T g nn (ev, wh, (TA, f, (he, u, v), (dn, rf, db)))).2.2.2.2.1.2.2)])) := hvw3_7
    obtain ⟨x11, ex11⟩ : ∃ zz : Int64, ((dk_ply T g nn (ev, wh, (TA, f, (he, u, v), (dn, rf, db)))).2.2.2.2.1.2.1) = zz := ⟨_, rfl⟩
    rw [ex11] at hCh
    obtain ⟨x12, ex12⟩ : ∃ zz : Int64, ((dk_ply T g nn (ev, wh, (TA, f, (he, u, v), (dn, rf, db)))).2.2.2.2.1.2.2) = zz := ⟨_, rfl⟩
    rw [ex12] at hCh
    obtain ⟨f13, ef13⟩ : ∃ zz : Nat → Int32, ((dk_ply T g nn (ev, wh, (TA, f, (he, u, v), (dn, rf, db)))).2.2.2.1) = zz := ⟨_, rfl⟩
    have hTi : w3[b + 56]? = some (ad (b + 56), .inl (cI, 36, .inl f13)) := by rw [← ef13]; exact hvw3_6
    have hSw3 : xv_S ws w3 (b + 42) 16 := hsw3.mono (by omega) (by omega)
    refine lv_topi (fun x14 ex14 => ?_)
    replace ex14 := ex14.symm
    refine lv_istore_n (lv' := [(2, .int x14), (0, .ref (ad b)), (1, .int x)]) hx hb dX7_ties_16 rfl hl (by decide) rfl (fun ls hl => ?_)
    refine lv_iload_n hx hb dX7_ties_17 rfl (lv_at hl 0 rfl) ?_
    refine lv_if_eq (tgt := 23) hx hb dX7_ties_18 (by decide) (fun c18 => ?_) (fun c18 => ?_)
    · skip
      refine lv_aload_n hx hb dX7_ties_23 rfl (lv_at hl 1 rfl) ?_
      refine xg_get (C := RX7) (T := TX7) (N := 10) S hK hG (fun w h => List.mem_cons_of_mem _ (List.mem_append_left _ (List.mem_append_left _ (List.mem_append_left _ (List.mem_append_left _ (List.mem_append_right _ (h))))))) b hO rfl 6 (by decide) k0 (fun _ h9 => h9) rfl dX7_ties_24 ?_
      refine xg_ri (va_runV (As := []) (rest := []) S (mX4_closest l D cI cZ bs ad w3 (b + 42) x4 x5 x6 x7 x8 x9 hSo T10 hA f13 hTi x11 x12 hCh) (cwV 0 hts gX7_ties_X4_closest rfl rfl rfl (by decide +kernel) ⟨Nat.le_of_ble_eq_true rfl, Nat.le_of_ble_eq_true rfl⟩) (xg_preV hK hG (b + 42) hSo rfl rfl) rfl rfl hl.1 rfl (lv_room (Nat.le_of_ble_eq_true rfl)) dX7_ties_27 ⟨Nat.zero_le _, Nat.zero_le _⟩) (fun r15 hr15 => ?_)
      replace hr15 := hr15.symm; subst hr15
      refine lv_topi (fun x16 ex16 => ?_)
      replace ex16 := ex16.symm
      refine lv_istore_n (lv' := [(3, .int x16), (2, .int x14), (0, .ref (ad b)), (1, .int x)]) hx hb dX7_ties_30 rfl hl (by decide) rfl (fun ls hl => ?_)
      refine lv_iload_n hx hb dX7_ties_31 rfl (lv_at hl 0 rfl) ?_
      refine lv_if_ge (tgt := 38) hx hb dX7_ties_32 (by decide) (fun c32 => ?_) (fun c32 => ?_)
      · skip
        refine lv_iload_n hx hb dX7_ties_38 rfl (lv_at hl 3 rfl) ?_
        refine lv_if_ne (tgt := 57) hx hb dX7_ties_39 (by decide) (fun c39 => ?_) (fun c39 => ?_)
        · skip
          refine lv_aload_n hx hb dX7_ties_57 rfl (lv_at hl 2 rfl) ?_
          refine xg_get (C := RX7) (T := TX7) (N := 10) S hK hG (fun w h => List.mem_cons_of_mem _ (List.mem_append_left _ (List.mem_append_left _ (List.mem_append_left _ (List.mem_append_left _ (List.mem_append_right _ (h))))))) b hO rfl 6 (by decide) k0 (fun _ h9 => h9) rfl dX7_ties_58 ?_
          refine xg_get (C := RX4) (T := TX4) (N := 9) S hK hG (fun w h => List.mem_cons_of_mem _ (List.mem_append_left _ (List.mem_append_left _ (List.mem_append_left _ (List.mem_append_right _ (h)))))) (b + 42) hSo rfl 1 (by decide) k1 (fun _ h9 => h9) rfl dX7_ties_61 ?_
          refine lv_iload_n hx hb dX7_ties_64 rfl (lv_at hl 0 rfl) ?_
          refine xg_ri (va_runS (As := [.ref (ad (b + 56)), .int x16]) (rest := []) S (mX7_at l D cI cZ bs ad w3 (b + 56) 36 f13 hTi x16 (by decide)) (va_cwS 2 hts gX7_ties_X7_at rfl rfl rfl (by decide +kernel) ⟨Nat.le_of_ble_eq_true rfl, Nat.le_of_ble_eq_true rfl⟩) (xg_preS hK hG) rfl rfl hl.1 rfl (lv_room (Nat.le_of_ble_eq_true rfl)) dX7_ties_65 ⟨Nat.zero_le _, Nat.zero_le _⟩) (fun r17 hr17 => ?_)
          replace hr17 := hr17.symm; subst hr17
          have hfin : dj_aft (xw_in x 0 1 = true) (dk_ply T g nn (ev, wh, (TA, f, (he, u, v), (dn, rf, db)))) (ev, wh, (TA, f, (he, u, v), (dn, rf, db))) = (x4, x5, (T10, f13, (x9, x11, x12), (x6, x7, x8))) := by subst ex4 ex5 ex6 ex7 ex8 ex9 eT10 ex11 ex12 ef13 ex14 ex16; exact if_pos c6
          rw [hQ]
          exact xg_emi S hr hlk hK hG ⟨(by subst ex4 ex5 ex6 ex7 ex8 ex9 eT10 ex11 ex12 ef13 ex14 ex16; first | (simp only [dj_tie, c6, c18, c32, c39, if_false, Bool.false_eq_true]; done) | (unfold dj_tie; rw [if_pos c6]; simp only [xw_rem, c6, c18, c32, c39, if_true, if_false, Bool.false_eq_true])), hO, hT, hPo, hP, (by rw [hfin]; exact hSo), (by rw [hfin]; exact hA), (by rw [hfin]; exact hTi), (by rw [hfin]; exact hCh), hSw3⟩ dX7_ties_68
        · skip
          refine lv_iload_n hx hb dX7_ties_42 rfl (lv_at hl 0 rfl) ?_
          refine lv_bipush (v := 6) hx hb dX7_ties_43 (by decide) ?_
          refine lv_idiv hx hb dX7_ties_45 (by decide) ?_
          refine lv_bipush (v := 10) hx hb dX7_ties_46 (by decide) ?_
          refine lv_imul hx hb dX7_ties_48 ?_
          refine lv_iload_n hx hb dX7_ties_49 rfl (lv_at hl 0 rfl) ?_
          refine lv_bipush (v := 6) hx hb dX7_ties_50 (by decide) ?_
          refine lv_irem hx hb dX7_ties_52 (by decide) ?_
          refine lv_iadd hx hb dX7_ties_53 ?_
          refine lv_goto (tgt := 68) hx hb dX7_ties_54 (by decide) ?_
          have hfin : dj_aft (xw_in x 0 1 = true) (dk_ply T g nn (ev, wh, (TA, f, (he, u, v), (dn, rf, db)))) (ev, wh, (TA, f, (he, u, v), (dn, rf, db))) = (x4, x5, (T10, f13, (x9, x11, x12), (x6, x7, x8))) := by subst ex4 ex5 ex6 ex7 ex8 ex9 eT10 ex11 ex12 ef13 ex14 ex16; exact if_pos c6
          rw [hQ]
          exact xg_emi S hr hlk hK hG ⟨(by subst ex4 ex5 ex6 ex7 ex8 ex9 eT10 ex11 ex12 ef13 ex14 ex16; first | (simp only [dj_tie, c6, c18, c32, c39, if_false, Bool.false_eq_true]; done) | (unfold dj_tie; rw [if_pos c6]; simp only [xw_rem, c6, c18, c32, c39, if_true, if_false, Bool.false_eq_true])), hO, hT, hPo, hP, (by rw [hfin]; exact hSo), (by rw [hfin]; exact hA), (by rw [hfin]; exact hTi), (by rw [hfin]; exact hCh), hSw3⟩ dX7_ties_68
      · skip
        refine lv_bipush (v := (-6)) hx hb dX7_ties_35 (by decide) ?_
        have hfin : dj_aft (xw_in x 0 1 = true) (dk_ply T g nn (ev, wh, (TA, f, (he, u, v), (dn, rf, db)))) (ev, wh, (TA, f, (he, u, v), (dn, rf, db))) = (x4, x5, (T10, f13, (x9, x11, x12), (x6, x7, x8))) := by subst ex4 ex5 ex6 ex7 ex8 ex9 eT10 ex11 ex12 ef13 ex14 ex16; exact if_pos c6
        rw [hQ]
        exact xg_emi S hr hlk hK hG ⟨(by subst ex4 ex5 ex6 ex7 ex8 ex9 eT10 ex11 ex12 ef13 ex14 ex16; first | (simp only [dj_tie, c6, c18, c32, if_false, Bool.false_eq_true]; done) | (unfold dj_tie; rw [if_pos c6]; simp only [xw_rem, c6, c18, c32, if_true, if_false, Bool.false_eq_true])), hO, hT, hPo, hP, (by rw [hfin]; exact hSo), (by rw [hfin]; exact hA), (by rw [hfin]; exact hTi), (by rw [hfin]; exact hCh), hSw3⟩ dX7_ties_37
    · skip
      refine lv_iload_n hx hb dX7_ties_21 rfl (lv_at hl 0 rfl) ?_
      have hfin : dj_aft (xw_in x 0 1 = true) (dk_ply T g nn (ev, wh, (TA, f, (he, u, v), (dn, rf, db)))) (ev, wh, (TA, f, (he, u, v), (dn, rf, db))) = (x4, x5, (T10, f13, (x9, x11, x12), (x6, x7, x8))) := by subst ex4 ex5 ex6 ex7 ex8 ex9 eT10 ex11 ex12 ef13 ex14; exact if_pos c6
      rw [hQ]
      exact xg_emi S hr hlk hK hG ⟨(by subst ex4 ex5 ex6 ex7 ex8 ex9 eT10 ex11 ex12 ef13 ex14; first | (simp only [dj_tie, c6, c18, if_false, Bool.false_eq_true]; done) | (unfold dj_tie; rw [if_pos c6]; simp only [xw_rem, c6, c18, if_true, if_false, Bool.false_eq_true])), hO, hT, hPo, hP, (by rw [hfin]; exact hSo), (by rw [hfin]; exact hA), (by rw [hfin]; exact hTi), (by rw [hfin]; exact hCh), hSw3⟩ dX7_ties_22
  · skip
    refine lv_bipush (v := (-2)) hx hb dX7_ties_9 (by decide) ?_
    have hfin : dj_aft (xw_in x 0 1 = true) (dk_ply T g nn (ev, wh, (TA, f, (he, u, v), (dn, rf, db)))) (ev, wh, (TA, f, (he, u, v), (dn, rf, db))) = (ev, wh, (TA, f, (he, u, v), (dn, rf, db))) := by skip; exact if_neg (by simp only [c6, Bool.false_eq_true, and_false, false_and, not_false_eq_true])
    rw [hQ]
    exact xg_emi S hr hlk hK hG ⟨(by skip; first | (simp only [dj_tie, c6, if_false, Bool.false_eq_true]; done) | (unfold dj_tie; rw [if_pos c6]; simp only [xw_rem, c6, if_true, if_false, Bool.false_eq_true])), hO, hT, hPo, hP, (by rw [hfin]; exact hSo), (by rw [hfin]; exact hA), (by rw [hfin]; exact hTi), (by rw [hfin]; exact hCh), xv_S.rf⟩ dX7_ties_11
set_option maxHeartbeats 4000000 in
set_option maxRecDepth 100000 in
theorem mX7_unhurt (l : Launch) (D : va_G) (cI cZ : ClassId) (bs : Nat) (ad : Nat → Nat) (ws : va_W) (b : Nat) (fk : Int32) (sk : Int32) (hO : ws[b]? = some (ad b, .inr (7, [.ref (ad (b + 1)), .ref (ad (b + 14)), .ref (ad (b + 27)), .int fk, .int sk, .ref (ad (b + 40)), .ref (ad (b + 42)), .ref (ad (b + 58)), .ref (ad (b + 60)), .ref (ad (b + 61))]))) (T : Nat → Nat → Int32) (hT : xv_T cI ad ws (b + 1) T) (n : Int32) (hPo : ws[b + 40]? = some (ad (b + 40), .inr (3, [.ref (ad (b + 41)), .int n]))) (g : Nat → Int32) (hP : ws[b + 41]? = some (ad (b + 41), .inl (cI, 60, .inl g))) (ev : Int32) (wh : Int32) (dn : Int32) (rf : Int32) (db : Int32) (he : Int32) (hSo : ws[b + 42]? = some (ad (b + 42), .inr (4, [.ref (ad (b + 43)), .ref (ad (b + 56)), .ref (ad (b + 57)), .int ev, .int wh, .int dn, .int rf, .int db, .int he]))) (TA : Nat → Nat → Int32) (hA : xv_T cI ad ws (b + 43) TA) (f : Nat → Int32) (hTi : ws[b + 56]? = some (ad (b + 56), .inl (cI, 36, .inl f))) (u : Int64) (v : Int64) (hCh : ws[b + 57]? = some (ad (b + 57), .inr (0, [.long u, .long v]))) (x : Int32) (nn : Nat) (hnn : n = nI nn) (hn60 : nn ≤ 60) : Met l yX7_unhurt wsX7_unhurt ({ frames := 6, cells := 0, slots := 0, locals := 139 } : Room) (va_Pc [.ref (ad b), .int x] (fun U => xg_W D cI cZ bs ws U)) (va_Ql (fun (r : Int64) (w : va_W) => r = dj_unh (dk_ret T g nn) (dk_ply T g nn (ev, wh, (TA, f, (he, u, v), (dn, rf, db)))) x ∧ w[b]? = some (ad b, .inr (7, [.ref (ad (b + 1)), .ref (ad (b + 14)), .ref (ad (b + 27)), .int fk, .int sk, .ref (ad (b + 40)), .ref (ad (b + 42)), .ref (ad (b + 58)), .ref (ad (b + 60)), .ref (ad (b + 61))])) ∧ xv_T cI ad w (b + 1) T ∧ w[b + 40]? = some (ad (b + 40), .inr (3, [.ref (ad (b + 41)), .int n])) ∧ w[b + 41]? = some (ad (b + 41), .inl (cI, 60, .inl g)) ∧ w[b + 42]? = some (ad (b + 42), .inr (4, [.ref (ad (b + 43)), .ref (ad (b + 56)), .ref (ad (b + 57)), .int ((dj_aft (xw_in x 0 1 = true) (dk_ply T g nn (ev, wh, (TA, f, (he, u, v), (dn, rf, db)))) (ev, wh, (TA, f, (he, u, v), (dn, rf, db)))).1), .int ((dj_aft (xw_in x 0 1 = true) (dk_ply T g nn (ev, wh, (TA, f, (he, u, v), (dn, rf, db)))) (ev, wh, (TA, f, (he, u, v), (dn, rf, db)))).2.1), .int ((dj_aft (xw_in x 0 1 = true) (dk_ply T g nn (ev, wh, (TA, f, (he, u, v), (dn, rf, db)))) (ev, wh, (TA, f, (he, u, v), (dn, rf, db)))).2.2.2.2.2.1), .int ((dj_aft (xw_in x 0 1 = true) (dk_ply T g nn (ev, wh, (TA, f, (he, u, v), (dn, rf, db)))) (ev, wh, (TA, f, (he, u, v), (dn, rf, db)))).2.2.2.2.2.2.1), .int ((dj_aft (xw_in x 0 1 = true) (dk_ply T g nn (ev, wh, (TA, f, (he, u, v), (dn, rf, db)))) (ev, wh, (TA, f, (he, u, v), (dn, rf, db)))).2.2.2.2.2.2.2), .int ((dj_aft (xw_in x 0 1 = true) (dk_ply T g nn (ev, wh, (TA, f, (he, u, v), (dn, rf, db)))) (ev, wh, (TA, f, (he, u, v), (dn, rf, db)))).2.2.2.2.1.1)])) ∧ xv_T cI ad w (b + 43) ((dj_aft (xw_in x 0 1 = true) (dk_ply T g nn (ev, wh, (TA, f, (he, u, v), (dn, rf, db)))) (ev, wh, (TA, f, (he, u, v), (dn, rf, db)))).2.2.1) ∧ w[b + 56]? = some (ad (b + 56), .inl (cI, 36, .inl ((dj_aft (xw_in x 0 1 = true) (dk_ply T g nn (ev, wh, (TA, f, (he, u, v), (dn, rf, db)))) (ev, wh, (TA, f, (he, u, v), (dn, rf, db)))).2.2.2.1))) ∧ w[b + 57]? = some (ad (b + 57), .inr (0, [.long ((dj_aft (xw_in x 0 1 = true) (dk_ply T g nn (ev, wh, (TA, f, (he, u, v), (dn, rf, db)))) (ev, wh, (TA, f, (he, u, v), (dn, rf, db)))).2.2.2.2.1.2.1), .long ((dj_aft (xw_in x 0 1 = true) (dk_ply T g nn (ev, wh, (TA, f, (he, u, v), (dn, rf, db)))) (ev, wh, (TA, f, (he, u, v), (dn, rf, db)))).2.2.2.2.1.2.2)])) ∧ xv_S ws w (b + 42) 16) (fun w t => xg_W D cI cZ bs w t) (xg_A bs)) 0 0 (xg_A bs) := by
  refine xg_met cX7_unhurt 3 (some .long) RX7 (by decide) rfl rfl (Nat.le_of_ble_eq_true rfl) ?_
  intro pg en s m below meth c ls S hr hlk hnm hB hl
  have hK := hB.1
  have hG := xg_start hB
  obtain ⟨hx, hb, hml, hown, hts⟩ := id S
  have hl : lv_has ls 3 [(0, .ref (ad b)), (1, .int x)] := hl
  obtain ⟨Q, hQ⟩ : ∃ Q, Q = MQ below (va_Ql (fun (r : Int64) (w : va_W) => r = dj_unh (dk_ret T g nn) (dk_ply T g nn (ev, wh, (TA, f, (he, u, v), (dn, rf, db)))) x ∧ w[b]? = some (ad b, .inr (7, [.ref (ad (b + 1)), .ref (ad (b + 14)), .ref (ad (b + 27)), .int fk, .int sk, .ref (ad (b + 40)), .ref (ad (b + 42)), .ref (ad (b + 58)), .ref (ad (b + 60)), .ref (ad (b + 61))])) ∧ xv_T cI ad w (b + 1) T ∧ w[b + 40]? = some (ad (b + 40), .inr (3, [.ref (ad (b + 41)), .int n])) ∧ w[b + 41]? = some (ad (b + 41), .inl (cI, 60, .inl g)) ∧ w[b + 42]? = some (ad (b + 42), .inr (4, [.ref (ad (b + 43)), .ref (ad (b + 56)), .ref (ad (b + 57)), .int ((dj_aft (xw_in x 0 1 = true) (dk_ply T g nn (ev, wh, (TA, f, (he, u, v), (dn, rf, db)))) (ev, wh, (TA, f, (he, u, v), (dn, rf, db)))).1), .int ((dj_aft (xw_in x 0 1 = true) (dk_ply T g nn (ev, wh, (TA, f, (he, u, v), (dn, rf, db)))) (ev, wh, (TA, f, (he, u, v), (dn, rf, db)))).2.1), .int ((dj_aft (xw_in x 0 1 = true) (dk_ply T g nn (ev, wh, (TA, f, (he, u, v), (dn, rf, db)))) (ev, wh, (TA, f, (he, u, v), (dn, rf, db)))).2.2.2.2.2.1), .int ((dj_aft (xw_in x 0 1 = true) (dk_ply T g nn (ev, wh, (TA, f, (he, u, v), (dn, rf, db)))) (ev, wh, (TA, f, (he, u, v), (dn, rf, db)))).2.2.2.2.2.2.1), .int ((dj_aft (xw_in x 0 1 = true) (dk_ply T g nn (ev, wh, (TA, f, (he, u, v), (dn, rf, db)))) (ev, wh, (TA, f, (he, u, v), (dn, rf, db)))).2.2.2.2.2.2.2), .int ((dj_aft (xw_in x 0 1 = true) (dk_ply T g nn (ev, wh, (TA, f, (he, u, v), (dn, rf, db)))) (ev, wh, (TA, f, (he, u, v), (dn, rf, db)))).2.2.2.2.1.1)])) ∧ xv_T cI ad w (b + 43) ((dj_aft (xw_in x 0 1 = true) (dk_ply T g nn (ev, wh, (TA, f, (he, u, v), (dn, rf, db)))) (ev, wh, (TA, f, (he, u, v), (dn, rf, db)))).2.2.1) ∧ w[b + 56]? = some (ad (b + 56), .inl (cI, 36, .inl ((dj_aft (xw_in x 0 1 = true) (dk_ply T g nn (ev, wh, (TA, f, (he, u, v), (dn, rf, db)))) (ev, wh, (TA, f, (he, u, v), (dn, rf, db)))).2.2.2.1))) ∧ w[b + 57]? = some (ad (b + 57), .inr (0, [.long ((dj_aft (xw_in x 0 1 = true) (dk_ply T g nn (ev, wh, (TA, f, (he, u, v), (dn, rf, db)))) (ev, wh, (TA, f, (he, u, v), (dn, rf, db)))).2.2.2.2.1.2.1), .long ((dj_aft (xw_in x 0 1 = true) (dk_ply T g nn (ev, wh, (TA, f, (he, u, v), (dn, rf, db)))) (ev, wh, (TA, f, (he, u, v), (dn, rf, db)))).2.2.2.2.1.2.2)])) ∧ xv_S ws w (b + 42) 16) (fun w t => xg_W D cI cZ bs w t) (xg_A bs)) ([.ref (ad b), .int x] : List Value).toArray s 0 0 (xg_A bs) := ⟨_, rfl⟩
  rw [← hQ]
  have k0 := hts (.fieldLink RX7 39 "DareBridge" "summer" "LDareBridge$Summer;") (List.mem_of_getElem? (i := 3) rfl)
  have k1 := hts (.fieldLink RX7 163 "DareBridge$Summer" "heights" "I") (List.mem_of_getElem? (i := 4) rfl)
  have k2 := hts (.fieldLink RX7 168 "DareBridge$Summer" "luck" "LDareBridge$Chance;") (List.mem_of_getElem? (i := 6) rfl)
  have k3 := hts (.constantLong RX7 166 (-1000000000000000004)) (List.mem_of_getElem? (i := 5) rfl)
  have k4 := hts (.constantLong RX7 161 (-1000000000000000000)) (List.mem_of_getElem? (i := 2) rfl)
  have k5 := hts (.constantLong RX7 159 (-1000000000000000002)) (List.mem_of_getElem? (i := 1) rfl)
  refine lv_iload_n hx hb dX7_unhurt_0 rfl (lv_at hl 1 rfl) ?_
  refine lv_iconst (v := 0) hx hb dX7_unhurt_1 (by decide) ?_
  refine lv_iconst (v := 1) hx hb dX7_unhurt_2 (by decide) ?_
  refine xg_ri (va_runS (As := [.int x, .int 0, .int 1]) (rest := []) S (mX7_within l D cI cZ bs ad ws x 0 1) (va_cwS 3 hts gX7_unhurt_X7_within rfl rfl rfl (by decide +kernel) ⟨Nat.le_of_ble_eq_true rfl, Nat.le_of_ble_eq_true rfl⟩) (xg_preS hK hG) rfl rfl hl.1 rfl (lv_room (Nat.le_of_ble_eq_true rfl)) dX7_unhurt_3 ⟨Nat.zero_le _, Nat.zero_le _⟩) (fun r1 hr1 => ?_)
  replace hr1 := hr1.symm; subst hr1
  refine xb_ifne (tgt := 13) S dX7_unhurt_6 (by decide) (fun c6 => ?_) (fun c6 => ?_)
  · skip
    refine lv_aload_n hx hb dX7_unhurt_13 rfl (lv_at hl 0 rfl) ?_
    refine xg_mi (va_runV (As := []) (rest := []) S (mX7_playSummer l D cI cZ bs ad ws b fk sk hO T hT n hPo g hP ev wh dn rf db he hSo TA hA f hTi u v hCh nn (by first | assumption | omega) (by first | assumption | omega)) (cwV 0 hts gX7_unhurt_X7_playSummer rfl rfl rfl (by decide +kernel) ⟨Nat.le_of_ble_eq_true rfl, Nat.le_of_ble_eq_true rfl⟩) (xg_preV hK hG b hO rfl rfl) rfl rfl hl.1 rfl (lv_room (Nat.le_of_ble_eq_true rfl)) dX7_unhurt_14 ⟨Nat.zero_le _, Nat.zero_le _⟩) hG (fun r2 w3 H locs hr2 hG => ?_)
    obtain ⟨hr2, hvw3_0, hvw3_1, hvw3_2, hvw3_3, hvw3_4, hvw3_5, hvw3_6, hvw3_7, hsw3⟩ := hr2
    replace hr2 := hr2.symm; subst hr2
    have hO : w3[b]? = some (ad b, .inr (7, [.ref (ad (b + 1)), .ref (ad (b + 14)), .ref (ad (b + 27)), .int fk, .int sk, .ref (ad (b + 40)), .ref (ad (b + 42)), .ref (ad (b + 58)), .ref (ad (b + 60)), .ref (ad (b + 61))])) := hvw3_0
    have hT : xv_T cI ad w3 (b + 1) T := hvw3_1
    have hPo : w3[b + 40]? = some (ad (b + 40), .inr (3, [.ref (ad (b + 41)), .int n])) := hvw3_2
    have hP : w3[b + 41]? = some (ad (b + 41), .inl (cI, 60, .inl g)) := hvw3_3
    have hSo : w3[b + 42]? = some (ad (b + 42), .inr (4, [.ref (ad (b + 43)), .ref (ad (b + 56)), .ref (ad (b + 57)), .int ((dk_ply T g nn (ev, wh, (TA, f, (he, u, v), (dn, rf, db)))).1), .int ((dk_ply T g nn (ev, wh, (TA, f, (he, u, v), (dn, rf, db)))).2.1), .int ((dk_ply T g nn (ev, wh, (TA, f, (he, u, v), (dn, rf, db)))).2.2.2.2.2.1), .int ((dk_ply T g nn (ev, wh, (TA, f, (he, u, v), (dn, rf, db)))).2.2.2.2.2.2.1), .int ((dk_ply T g nn (ev, wh, (TA, f, (he, u, v), (dn, rf, db)))).2.2.2.2.2.2.2), .int ((dk_ply T g nn (ev, wh, (TA, f, (he, u, v), (dn, rf, db)))).2.2.2.2.1.1)])) := hvw3_4
    obtain ⟨x4, ex4⟩ : ∃ zz : Int32, ((dk_ply T g nn (ev, wh, (TA, f, (he, u, v), (dn, rf, db)))).1) = zz := ⟨_, rfl⟩
    rw [ex4] at hSo
    obtain ⟨x5, ex5⟩ : ∃ zz : Int32, ((dk_ply T g nn (ev, wh, (TA, f, (he, u, v), (dn, rf, db)))).2.1) = zz := ⟨_, rfl⟩
    rw [ex5] at hSo
    obtain ⟨x6, ex6⟩ : ∃ zz : Int32, ((dk_ply T g nn (ev, wh, (TA, f, (he, u, v), (dn, rf, db)))).2.2.2.2.2.1) = zz := ⟨_, rfl⟩
    rw [ex6] at hSo
    obtain ⟨x7, ex7⟩ : ∃ zz : Int32, ((dk_ply T g nn (ev, wh, (TA, f, (he, u, v), (dn, rf, db)))).2.2.2.2.2.2.1) = zz := ⟨_, rfl⟩
    rw [ex7] at hSo
    obtain ⟨x8, ex8⟩ : ∃ zz : Int32, ((dk_ply T g nn (ev, wh, (TA, f, (he, u, v), (dn, rf, db)))).2.2.2.2.2.2.2) = zz := ⟨_, rfl⟩
    rw [ex8] at hSo
    obtain ⟨x9, ex9⟩ : ∃ zz : Int32, ((dk_ply T g nn (ev, wh, (TA, f, (he, u, v), (dn, rf, db)))).2.2.2.2.1.1) = zz := ⟨_, rfl⟩
    rw [ex9] at hSo
    have hA : xv_T cI ad w3 (b + 43) ((dk_ply T g nn (ev, wh, (TA, f, (he, u, v), (dn, rf, db)))).2.2.1) := hvw3_5
    obtain ⟨T10, eT10⟩ : ∃ zz : Nat → Nat → Int32, ((dk_ply T g nn (ev, wh, (TA, f, (he, u, v), (dn, rf, db)))).2.2.1) = zz := ⟨_, rfl⟩
    rw [eT10] at hA
    have hCh : w3[b + 57]? = some (ad (b + 57), .inr (0, [.long ((dk_ply T g nn (ev, wh, (TA, f, (he, u, v), (dn, rf, db)))).2.2.2.2.1.2.1), .long ((dk_ply T g nn (ev, wh, (TA, f, (he, u, v), (dn, rf, db)))).2.2.2.2.1.2.2)])) := hvw3_7
    obtain ⟨x11, ex11⟩ : ∃ zz : Int64, ((dk_ply T g nn (ev, wh, (TA, f, (he, u, v), (dn, rf, db)))).2.2.2.2.1.2.1) = zz := ⟨_, rfl⟩
    rw [ex11] at hCh
    obtain ⟨x12, ex12⟩ : ∃ zz : Int64, ((dk_ply T g nn (ev, wh, (TA, f, (he, u, v), (dn, rf, db)))).2.2.2.2.1.2.2) = zz := ⟨_, rfl⟩
    rw [ex12] at hCh
    obtain ⟨f13, ef13⟩ : ∃ zz : Nat → Int32, ((dk_ply T g nn (ev, wh, (TA, f, (he, u, v), (dn, rf, db)))).2.2.2.1) = zz := ⟨_, rfl⟩
    have hTi : w3[b + 56]? = some (ad (b + 56), .inl (cI, 36, .inl f13)) := by rw [← ef13]; exact hvw3_6
    have hSw3 : xv_S ws w3 (b + 42) 16 := hsw3.mono (by omega) (by omega)
    refine lv_topi (fun x14 ex14 => ?_)
    replace ex14 := ex14.symm
    refine lv_istore_n (lv' := [(2, .int x14), (0, .ref (ad b)), (1, .int x)]) hx hb dX7_unhurt_17 rfl hl (by decide) rfl (fun ls hl => ?_)
    refine lv_iload_n hx hb dX7_unhurt_18 rfl (lv_at hl 0 rfl) ?_
    refine lv_if_eq (tgt := 29) hx hb dX7_unhurt_19 (by decide) (fun c19 => ?_) (fun c19 => ?_)
    · skip
      refine lv_aload_n hx hb dX7_unhurt_29 rfl (lv_at hl 1 rfl) ?_
      refine xg_get (C := RX7) (T := TX7) (N := 10) S hK hG (fun w h => List.mem_cons_of_mem _ (List.mem_append_left _ (List.mem_append_left _ (List.mem_append_left _ (List.mem_append_left _ (List.mem_append_right _ (h))))))) b hO rfl 6 (by decide) k0 (fun _ h9 => h9) rfl dX7_unhurt_30 ?_
      refine xg_get (C := RX4) (T := TX4) (N := 9) S hK hG (fun w h => List.mem_cons_of_mem _ (List.mem_append_left _ (List.mem_append_left _ (List.mem_append_left _ (List.mem_append_right _ (h)))))) (b + 42) hSo rfl 8 (by decide) k1 (fun _ h9 => h9) rfl dX7_unhurt_33 ?_
      refine lv_bipush (v := 15) hx hb dX7_unhurt_36 (by decide) ?_
      refine lv_icmp_le (tgt := 47) hx hb dX7_unhurt_38 (by decide) (fun c38 => ?_) (fun c38 => ?_)
      · skip
        refine lv_aload_n hx hb dX7_unhurt_47 rfl (lv_at hl 1 rfl) ?_
        refine xg_get (C := RX7) (T := TX7) (N := 10) S hK hG (fun w h => List.mem_cons_of_mem _ (List.mem_append_left _ (List.mem_append_left _ (List.mem_append_left _ (List.mem_append_left _ (List.mem_append_right _ (h))))))) b hO rfl 6 (by decide) k0 (fun _ h9 => h9) rfl dX7_unhurt_48 ?_
        refine xg_get (C := RX4) (T := TX4) (N := 9) S hK hG (fun w h => List.mem_cons_of_mem _ (List.mem_append_left _ (List.mem_append_left _ (List.mem_append_left _ (List.mem_append_right _ (h)))))) (b + 42) hSo rfl 2 (by decide) k2 (fun _ h9 => h9) rfl dX7_unhurt_51 ?_
        refine lv_iload_n hx hb dX7_unhurt_54 rfl (lv_at hl 2 rfl) ?_
        refine xg_rl (va_runV (As := [.int x]) (rest := []) S (mX0_lowest l D cI cZ bs ad w3 (b + 57) x11 x12 hCh x) (cwV 1 hts gX7_unhurt_X0_lowest rfl rfl rfl (by decide +kernel) ⟨Nat.le_of_ble_eq_true rfl, Nat.le_of_ble_eq_true rfl⟩) (xg_preV hK hG (b + 57) hCh rfl rfl) rfl rfl hl.1 rfl (lv_room (Nat.le_of_ble_eq_true rfl)) dX7_unhurt_55 ⟨Nat.zero_le _, Nat.zero_le _⟩) (fun r15 hr15 => ?_)
        replace hr15 := hr15.symm; subst hr15
        have hfin : dj_aft (xw_in x 0 1 = true) (dk_ply T g nn (ev, wh, (TA, f, (he, u, v), (dn, rf, db)))) (ev, wh, (TA, f, (he, u, v), (dn, rf, db))) = (x4, x5, (T10, f13, (x9, x11, x12), (x6, x7, x8))) := by subst ex4 ex5 ex6 ex7 ex8 ex9 eT10 ex11 ex12 ef13 ex14; exact if_pos c6
        rw [hQ]
        exact xg_eml S hr hlk hK hG ⟨(by subst ex4 ex5 ex6 ex7 ex8 ex9 eT10 ex11 ex12 ef13 ex14; simp only [dj_unh, c6, c19, c38, if_true, if_false, Bool.false_eq_true]), hO, hT, hPo, hP, (by rw [hfin]; exact hSo), (by rw [hfin]; exact hA), (by rw [hfin]; exact hTi), (by rw [hfin]; exact hCh), hSw3⟩ dX7_unhurt_58
      · skip
        refine lv_ldc2 (v := (-1000000000000000004)) hx hb hown k3 dX7_unhurt_41 ?_
        refine lv_goto (tgt := 58) hx hb dX7_unhurt_44 (by decide) ?_
        have hfin : dj_aft (xw_in x 0 1 = true) (dk_ply T g nn (ev, wh, (TA, f, (he, u, v), (dn, rf, db)))) (ev, wh, (TA, f, (he, u, v), (dn, rf, db))) = (x4, x5, (T10, f13, (x9, x11, x12), (x6, x7, x8))) := by subst ex4 ex5 ex6 ex7 ex8 ex9 eT10 ex11 ex12 ef13 ex14; exact if_pos c6
        rw [hQ]
        exact xg_eml S hr hlk hK hG ⟨(by subst ex4 ex5 ex6 ex7 ex8 ex9 eT10 ex11 ex12 ef13 ex14; simp only [dj_unh, c6, c19, c38, if_true, if_false, Bool.false_eq_true]), hO, hT, hPo, hP, (by rw [hfin]; exact hSo), (by rw [hfin]; exact hA), (by rw [hfin]; exact hTi), (by rw [hfin]; exact hCh), hSw3⟩ dX7_unhurt_58
    · skip
      refine lv_ldc2 (v := (-1000000000000000000)) hx hb hown k4 dX7_unhurt_22 ?_
      refine lv_iload_n hx hb dX7_unhurt_25 rfl (lv_at hl 0 rfl) ?_
      refine lv_i2l (v := x14.toInt64) hx hb dX7_unhurt_26 rfl ?_
      refine lv_ladd hx hb dX7_unhurt_27 ?_
      have hfin : dj_aft (xw_in x 0 1 = true) (dk_ply T g nn (ev, wh, (TA, f, (he, u, v), (dn, rf, db)))) (ev, wh, (TA, f, (he, u, v), (dn, rf, db))) = (x4, x5, (T10, f13, (x9, x11, x12), (x6, x7, x8))) := by subst ex4 ex5 ex6 ex7 ex8 ex9 eT10 ex11 ex12 ef13 ex14; exact if_pos c6
      rw [hQ]
      exact xg_eml S hr hlk hK hG ⟨(by subst ex4 ex5 ex6 ex7 ex8 ex9 eT10 ex11 ex12 ef13 ex14; simp only [dj_unh, c6, c19, if_true, if_false, Bool.false_eq_true]), hO, hT, hPo, hP, (by rw [hfin]; exact hSo), (by rw [hfin]; exact hA), (by rw [hfin]; exact hTi), (by rw [hfin]; exact hCh), hSw3⟩ dX7_unhurt_28
  · skip
    refine lv_ldc2 (v := (-1000000000000000002)) hx hb hown k5 dX7_unhurt_9 ?_
    have hfin : dj_aft (xw_in x 0 1 = true) (dk_ply T g nn (ev, wh, (TA, f, (he, u, v), (dn, rf, db)))) (ev, wh, (TA, f, (he, u, v), (dn, rf, db))) = (ev, wh, (TA, f, (he, u, v), (dn, rf, db))) := by skip; exact if_neg (by simp only [c6, Bool.false_eq_true, and_false, false_and, not_false_eq_true])
    rw [hQ]
    exact xg_eml S hr hlk hK hG ⟨(by skip; simp only [dj_unh, c6, if_true, if_false, Bool.false_eq_true]), hO, hT, hPo, hP, (by rw [hfin]; exact hSo), (by rw [hfin]; exact hA), (by rw [hfin]; exact hTi), (by rw [hfin]; exact hCh), xv_S.rf⟩ dX7_unhurt_12
set_option maxHeartbeats 4000000 in
set_option maxRecDepth 100000 in
theorem mX7_refusalOfHeight (l : Launch) (D : va_G) (cI cZ : ClassId) (bs : Nat) (ad : Nat → Nat) (ws : va_W) (b : Nat) (fk : Int32) (sk : Int32) (hO : ws[b]? = some (ad b, .inr (7, [.ref (ad (b + 1)), .ref (ad (b + 14)), .ref (ad (b + 27)), .int fk, .int sk, .ref (ad (b + 40)), .ref (ad (b + 42)), .ref (ad (b + 58)), .ref (ad (b + 60)), .ref (ad (b + 61))]))) (T : Nat → Nat → Int32) (hT : xv_T cI ad ws (b + 1) T) (p : Int32) (y : Int32) : Met l yX7_refusalOfHeight wsX7_refusalOfHeight ({ frames := 2, cells := 0, slots := 0, locals := 42 } : Room) (va_Pc [.ref (ad b), .int p, .int y] (fun U => xg_W D cI cZ bs ws U)) (xg_Ri (fun r : Int32 => r = dj_roh T p y)) 0 0 xg_F := by
  refine xg_met cX7_refusalOfHeight 3 (some .int) RX7 (by decide) rfl rfl (Nat.le_of_ble_eq_true rfl) ?_
  intro pg en s m below meth c ls S hr hlk hnm hB hl
  have hK := hB.1
  have hG := xg_start hB
  obtain ⟨hx, hb, hml, hown, hts⟩ := id S
  have hl : lv_has ls 3 [(0, .ref (ad b)), (1, .int p), (2, .int y)] := hl
  obtain ⟨Q, hQ⟩ : ∃ Q, Q = MQ below (xg_Ri (fun r : Int32 => r = dj_roh T p y)) ([.ref (ad b), .int p, .int y] : List Value).toArray s 0 0 xg_F := ⟨_, rfl⟩
  rw [← hQ]
  have k0 := hts (.fieldLink RX7 10 "DareBridge" "now" "LDareBridge$Town;") (List.mem_of_getElem? (i := 1) rfl)
  refine lv_aload_n hx hb dX7_refusalOfHeight_0 rfl (lv_at hl 0 rfl) ?_
  refine xg_get (C := RX7) (T := TX7) (N := 10) S hK hG (fun w h => List.mem_cons_of_mem _ (List.mem_append_left _ (List.mem_append_right _ (h)))) b hO rfl 0 (by decide) k0 (fun _ h9 => h9) rfl dX7_refusalOfHeight_1 ?_
  refine lv_iload_n hx hb dX7_refusalOfHeight_4 rfl (lv_at hl 1 rfl) ?_
  refine xg_ri (va_runV (As := [.int p]) (rest := []) S (mX5_isThere l D cI cZ bs ad ws (b + 1) T hT p) (cwV 1 hts gX7_refusalOfHeight_X5_isThere rfl rfl rfl (by decide +kernel) ⟨Nat.le_of_ble_eq_true rfl, Nat.le_of_ble_eq_true rfl⟩) (xg_preV hK hG (b + 1) hT.1 rfl rfl) rfl rfl hl.1 rfl (lv_room (Nat.le_of_ble_eq_true rfl)) dX7_refusalOfHeight_5 ⟨Nat.zero_le _, Nat.zero_le _⟩) (fun r1 hr1 => ?_)
  replace hr1 := hr1.symm; subst hr1
  refine xb_ifne (tgt := 13) S dX7_refusalOfHeight_8 (by decide) (fun c8 => ?_) (fun c8 => ?_)
  · skip
    refine lv_iload_n hx hb dX7_refusalOfHeight_13 rfl (lv_at hl 2 rfl) ?_
    refine lv_iconst (v := 1) hx hb dX7_refusalOfHeight_14 (by decide) ?_
    refine lv_bipush (v := 15) hx hb dX7_refusalOfHeight_15 (by decide) ?_
    refine xg_ri (va_runS (As := [.int y, .int 1, .int 15]) (rest := []) S (mX7_within l D cI cZ bs ad ws y 1 15) (va_cwS 3 hts gX7_refusalOfHeight_X7_within rfl rfl rfl (by decide +kernel) ⟨Nat.le_of_ble_eq_true rfl, Nat.le_of_ble_eq_true rfl⟩) (xg_preS hK hG) rfl rfl hl.1 rfl (lv_room (Nat.le_of_ble_eq_true rfl)) dX7_refusalOfHeight_17 ⟨Nat.zero_le _, Nat.zero_le _⟩) (fun r2 hr2 => ?_)
    replace hr2 := hr2.symm; subst hr2
    refine xb_ifeq (tgt := 27) S dX7_refusalOfHeight_20 (by decide) (fun c20 => ?_) (fun c20 => ?_)
    · skip
      refine lv_bipush (v := (-2)) hx hb dX7_refusalOfHeight_27 (by decide) ?_
      rw [hQ]
      exact xg_eri S hr hlk (by skip; simp only [dj_roh, c8, c20, if_true, if_false, Bool.false_eq_true]) dX7_refusalOfHeight_29
    · skip
      refine lv_iconst (v := 0) hx hb dX7_refusalOfHeight_23 (by decide) ?_
      refine lv_goto (tgt := 29) hx hb dX7_refusalOfHeight_24 (by decide) ?_
      rw [hQ]
      exact xg_eri S hr hlk (by skip; simp only [dj_roh, c8, c20, if_true, if_false, Bool.false_eq_true]) dX7_refusalOfHeight_29
  · skip
    refine lv_iconst (v := (-1)) hx hb dX7_refusalOfHeight_11 (by decide) ?_
    rw [hQ]
    exact xg_eri S hr hlk (by skip; simp only [dj_roh, c8, if_true, if_false, Bool.false_eq_true]) dX7_refusalOfHeight_12
set_option maxHeartbeats 4000000 in
set_option maxRecDepth 100000 in
theorem mX7_refusalOfClimb (l : Launch) (D : va_G) (cI cZ : ClassId) (bs : Nat) (ad : Nat → Nat) (ws : va_W) (b : Nat) (fk : Int32) (sk : Int32) (hO : ws[b]? = some (ad b, .inr (7, [.ref (ad (b + 1)), .ref (ad (b + 14)), .ref (ad (b + 27)), .int fk, .int sk, .ref (ad (b + 40)), .ref (ad (b + 42)), .ref (ad (b + 58)), .ref (ad (b + 60)), .ref (ad (b + 61))]))) (T : Nat → Nat → Int32) (hT : xv_T cI ad ws (b + 1) T) (p : Int32) (p2 : Int32) (y : Int32) (z : Int32) : Met l yX7_refusalOfClimb wsX7_refusalOfClimb ({ frames := 2, cells := 0, slots := 0, locals := 42 } : Room) (va_Pc [.ref (ad b), .int p, .int p2, .int y, .int z] (fun U => xg_W D cI cZ bs ws U)) (xg_Ri (fun r : Int32 => r = dj_roc T p p2 y z)) 0 0 xg_F := by
  refine xg_met cX7_refusalOfClimb 5 (some .int) RX7 (by decide) rfl rfl (Nat.le_of_ble_eq_true rfl) ?_
  intro pg en s m below meth c ls S hr hlk hnm hB hl
  have hK := hB.1
  have hG := xg_start hB
  obtain ⟨hx, hb, hml, hown, hts⟩ := id S
  have hl : lv_has ls 5 [(0, .ref (ad b)), (1, .int p), (2, .int p2), (3, .int y), (4, .int z)] := hl
  obtain ⟨Q, hQ⟩ : ∃ Q, Q = MQ below (xg_Ri (fun r : Int32 => r = dj_roc T p p2 y z)) ([.ref (ad b), .int p, .int p2, .int y, .int z] : List Value).toArray s 0 0 xg_F := ⟨_, rfl⟩
  rw [← hQ]
  have k0 := hts (.fieldLink RX7 10 "DareBridge" "now" "LDareBridge$Town;") (List.mem_of_getElem? (i := 1) rfl)
  refine lv_aload_n hx hb dX7_refusalOfClimb_0 rfl (lv_at hl 0 rfl) ?_
  refine xg_get (C := RX7) (T := TX7) (N := 10) S hK hG (fun w h => List.mem_cons_of_mem _ (List.mem_append_left _ (List.mem_append_right _ (h)))) b hO rfl 0 (by decide) k0 (fun _ h9 => h9) rfl dX7_refusalOfClimb_1 ?_
  refine lv_iload_n hx hb dX7_refusalOfClimb_4 rfl (lv_at hl 1 rfl) ?_
  refine xg_ri (va_runV (As := [.int p]) (rest := []) S (mX5_isThere l D cI cZ bs ad ws (b + 1) T hT p) (cwV 1 hts gX7_refusalOfClimb_X5_isThere rfl rfl rfl (by decide +kernel) ⟨Nat.le_of_ble_eq_true rfl, Nat.le_of_ble_eq_true rfl⟩) (xg_preV hK hG (b + 1) hT.1 rfl rfl) rfl rfl hl.1 rfl (lv_room (Nat.le_of_ble_eq_true rfl)) dX7_refusalOfClimb_5 ⟨Nat.zero_le _, Nat.zero_le _⟩) (fun r1 hr1 => ?_)
  replace hr1 := hr1.symm; subst hr1
  refine xb_ifeq (tgt := 27) S dX7_refusalOfClimb_8 (by decide) (fun c8 => ?_) (fun c8 => ?_)
  · skip
    refine lv_iconst (v := (-1)) hx hb dX7_refusalOfClimb_27 (by decide) ?_
    rw [hQ]
    exact xg_eri S hr hlk (by skip; simp only [dj_roc, c8, if_true, if_false, Bool.false_eq_true]) dX7_refusalOfClimb_28
  · skip
    refine lv_aload_n hx hb dX7_refusalOfClimb_11 rfl (lv_at hl 0 rfl) ?_
    refine xg_get (C := RX7) (T := TX7) (N := 10) S hK hG (fun w h => List.mem_cons_of_mem _ (List.mem_append_left _ (List.mem_append_right _ (h)))) b hO rfl 0 (by decide) k0 (fun _ h9 => h9) rfl dX7_refusalOfClimb_12 ?_
    refine lv_iload_n hx hb dX7_refusalOfClimb_15 rfl (lv_at hl 2 rfl) ?_
    refine xg_ri (va_runV (As := [.int p2]) (rest := []) S (mX5_isThere l D cI cZ bs ad ws (b + 1) T hT p2) (cwV 1 hts gX7_refusalOfClimb_X5_isThere rfl rfl rfl (by decide +kernel) ⟨Nat.le_of_ble_eq_true rfl, Nat.le_of_ble_eq_true rfl⟩) (xg_preV hK hG (b + 1) hT.1 rfl rfl) rfl rfl hl.1 rfl (lv_room (Nat.le_of_ble_eq_true rfl)) dX7_refusalOfClimb_16 ⟨Nat.zero_le _, Nat.zero_le _⟩) (fun r2 hr2 => ?_)
    replace hr2 := hr2.symm; subst hr2
    refine xb_ifeq (tgt := 27) S dX7_refusalOfClimb_19 (by decide) (fun c19 => ?_) (fun c19 => ?_)
    · skip
      refine lv_iconst (v := (-1)) hx hb dX7_refusalOfClimb_27 (by decide) ?_
      rw [hQ]
      exact xg_eri S hr hlk (by skip; simp only [dj_roc, c8, c19, if_true, if_false, Bool.false_eq_true]) dX7_refusalOfClimb_28
    · skip
      refine lv_iload_n hx hb dX7_refusalOfClimb_22 rfl (lv_at hl 1 rfl) ?_
      refine lv_iload_n hx hb dX7_refusalOfClimb_23 rfl (lv_at hl 2 rfl) ?_
      refine lv_icmp_ne (tgt := 29) hx hb dX7_refusalOfClimb_24 (by decide) (fun c24 => ?_) (fun c24 => ?_)
      · skip
        refine lv_iload hx hb dX7_refusalOfClimb_29 (lv_at hl 4 rfl) ?_
        refine lv_iconst (v := 1) hx hb dX7_refusalOfClimb_31 (by decide) ?_
        refine lv_bipush (v := 15) hx hb dX7_refusalOfClimb_32 (by decide) ?_
        refine xg_ri (va_runS (As := [.int z, .int 1, .int 15]) (rest := []) S (mX7_within l D cI cZ bs ad ws z 1 15) (va_cwS 3 hts gX7_refusalOfClimb_X7_within rfl rfl rfl (by decide +kernel) ⟨Nat.le_of_ble_eq_true rfl, Nat.le_of_ble_eq_true rfl⟩) (xg_preS hK hG) rfl rfl hl.1 rfl (lv_room (Nat.le_of_ble_eq_true rfl)) dX7_refusalOfClimb_34 ⟨Nat.zero_le _, Nat.zero_le _⟩) (fun r3 hr3 => ?_)
        replace hr3 := hr3.symm; subst hr3
        refine xb_ifeq (tgt := 54) S dX7_refusalOfClimb_37 (by decide) (fun c37 => ?_) (fun c37 => ?_)
        · skip
          refine lv_bipush (v := (-2)) hx hb dX7_refusalOfClimb_54 (by decide) ?_
          rw [hQ]
          exact xg_eri S hr hlk (by skip; simp only [dj_roc, c8, c19, c24, c37, if_true, if_false, Bool.false_eq_true]) dX7_refusalOfClimb_56
        · skip
          refine lv_iload_n hx hb dX7_refusalOfClimb_40 rfl (lv_at hl 3 rfl) ?_
          refine lv_iconst (v := 1) hx hb dX7_refusalOfClimb_41 (by decide) ?_
          refine lv_iload hx hb dX7_refusalOfClimb_42 (lv_at hl 4 rfl) ?_
          refine xg_ri (va_runS (As := [.int y, .int 1, .int z]) (rest := []) S (mX7_within l D cI cZ bs ad ws y 1 z) (va_cwS 3 hts gX7_refusalOfClimb_X7_within rfl rfl rfl (by decide +kernel) ⟨Nat.le_of_ble_eq_true rfl, Nat.le_of_ble_eq_true rfl⟩) (xg_preS hK hG) rfl rfl hl.1 rfl (lv_room (Nat.le_of_ble_eq_true rfl)) dX7_refusalOfClimb_44 ⟨Nat.zero_le _, Nat.zero_le _⟩) (fun r4 hr4 => ?_)
          replace hr4 := hr4.symm; subst hr4
          refine xb_ifeq (tgt := 54) S dX7_refusalOfClimb_47 (by decide) (fun c47 => ?_) (fun c47 => ?_)
          · skip
            refine lv_bipush (v := (-2)) hx hb dX7_refusalOfClimb_54 (by decide) ?_
            rw [hQ]
            exact xg_eri S hr hlk (by skip; simp only [dj_roc, c8, c19, c24, c37, c47, if_true, if_false, Bool.false_eq_true]) dX7_refusalOfClimb_56
          · skip
            refine lv_iconst (v := 0) hx hb dX7_refusalOfClimb_50 (by decide) ?_
            refine lv_goto (tgt := 56) hx hb dX7_refusalOfClimb_51 (by decide) ?_
            rw [hQ]
            exact xg_eri S hr hlk (by skip; simp only [dj_roc, c8, c19, c24, c37, c47, if_true, if_false, Bool.false_eq_true]) dX7_refusalOfClimb_56
      · skip
        refine lv_iconst (v := (-1)) hx hb dX7_refusalOfClimb_27 (by decide) ?_
        rw [hQ]
        exact xg_eri S hr hlk (by skip; simp only [dj_roc, c8, c19, c24, if_true, if_false, Bool.false_eq_true]) dX7_refusalOfClimb_28
set_option maxHeartbeats 4000000 in
set_option maxRecDepth 100000 in
theorem mX7_trait (l : Launch) (D : va_G) (cI cZ : ClassId) (bs : Nat) (ad : Nat → Nat) (ws : va_W) (b : Nat) (fk : Int32) (sk : Int32) (hO : ws[b]? = some (ad b, .inr (7, [.ref (ad (b + 1)), .ref (ad (b + 14)), .ref (ad (b + 27)), .int fk, .int sk, .ref (ad (b + 40)), .ref (ad (b + 42)), .ref (ad (b + 58)), .ref (ad (b + 60)), .ref (ad (b + 61))]))) (T : Nat → Nat → Int32) (hT : xv_T cI ad ws (b + 1) T) (p : Int32) (y : Int32) : Met l yX7_trait wsX7_trait ({ frames := 2, cells := 0, slots := 0, locals := 42 } : Room) (va_Pc [.ref (ad b), .int p, .int y] (fun U => xg_W D cI cZ bs ws U)) (xg_Ri (fun r : Int32 => r = dj_tra T p y)) 0 0 xg_F := by
  refine xg_met cX7_trait 3 (some .int) RX7 (by decide) rfl rfl (Nat.le_of_ble_eq_true rfl) ?_
  intro pg en s m below meth c ls S hr hlk hnm hB hl
  have hK := hB.1
  have hG := xg_start hB
  obtain ⟨hx, hb, hml, hown, hts⟩ := id S
  have hl : lv_has ls 3 [(0, .ref (ad b)), (1, .int p), (2, .int y)] := hl
  obtain ⟨Q, hQ⟩ : ∃ Q, Q = MQ below (xg_Ri (fun r : Int32 => r = dj_tra T p y)) ([.ref (ad b), .int p, .int y] : List Value).toArray s 0 0 xg_F := ⟨_, rfl⟩
  rw [← hQ]
  have k0 := hts (.fieldLink RX7 10 "DareBridge" "now" "LDareBridge$Town;") (List.mem_of_getElem? (i := 1) rfl)
  have k1 := hts (.fieldLink RX7 268 "DareBridge$Town" "skill" "[I") (List.mem_of_getElem? (i := 2) rfl)
  have k2 := hts (.fieldLink RX7 271 "DareBridge$Town" "fear" "[I") (List.mem_of_getElem? (i := 3) rfl)
  have k3 := hts (.fieldLink RX7 274 "DareBridge$Town" "pride" "[I") (List.mem_of_getElem? (i := 4) rfl)
  have k4 := hts (.fieldLink RX7 277 "DareBridge$Town" "wish" "[I") (List.mem_of_getElem? (i := 5) rfl)
  refine lv_aload_n hx hb dX7_trait_0 rfl (lv_at hl 0 rfl) ?_
  refine xg_get (C := RX7) (T := TX7) (N := 10) S hK hG (fun w h => List.mem_cons_of_mem _ (List.mem_append_left _ (List.mem_append_right _ (h)))) b hO rfl 0 (by decide) k0 (fun _ h9 => h9) rfl dX7_trait_1 ?_
  refine lv_iload_n hx hb dX7_trait_4 rfl (lv_at hl 1 rfl) ?_
  refine xg_ri (va_runV (As := [.int p]) (rest := []) S (mX5_isThere l D cI cZ bs ad ws (b + 1) T hT p) (cwV 1 hts gX7_trait_X5_isThere rfl rfl rfl (by decide +kernel) ⟨Nat.le_of_ble_eq_true rfl, Nat.le_of_ble_eq_true rfl⟩) (xg_preV hK hG (b + 1) hT.1 rfl rfl) rfl rfl hl.1 rfl (lv_room (Nat.le_of_ble_eq_true rfl)) dX7_trait_5 ⟨Nat.zero_le _, Nat.zero_le _⟩) (fun r1 hr1 => ?_)
  replace hr1 := hr1.symm; subst hr1
  refine xb_ifne (tgt := 14) S dX7_trait_8 (by decide) (fun c8 => ?_) (fun c8 => ?_)
  · skip
    refine lv_iload_n hx hb dX7_trait_14 rfl (lv_at hl 2 rfl) ?_
    by_cases sw2_0 : y = 0
    · skip
      refine lv_tableIn (off := 29) (tgt := 44) hx hb dX7_trait_15 (by rw [sw2_0]; decide) (by rw [sw2_0]; decide) (by rw [sw2_0]; rfl) (by decide) ?_
      refine lv_aload_n hx hb dX7_trait_44 rfl (lv_at hl 0 rfl) ?_
      refine xg_get (C := RX7) (T := TX7) (N := 10) S hK hG (fun w h => List.mem_cons_of_mem _ (List.mem_append_left _ (List.mem_append_right _ (h)))) b hO rfl 0 (by decide) k0 (fun _ h9 => h9) rfl dX7_trait_45 ?_
      refine xg_get (C := RX5) (T := TX5) (N := 13) S hK hG (fun w h => List.mem_cons_of_mem _ (List.mem_append_right _ (h))) (b + 1) hT.1 rfl 2 (by decide) k1 (fun _ h9 => h9) rfl dX7_trait_48 ?_
      refine lv_iload_n hx hb dX7_trait_51 rfl (lv_at hl 1 rfl) ?_
      refine xg_ri (va_runS (As := [.ref (ad (b + 4)), .int p]) (rest := []) S (mX7_at l D cI cZ bs ad ws (b + 4) 6 (T 2) (show ws[b + 4]? = some (ad (b + 4), .inl (cI, 6, .inl (T 2))) from hT.2 2 (by decide)) p (by decide)) (va_cwS 2 hts gX7_trait_X7_at rfl rfl rfl (by decide +kernel) ⟨Nat.le_of_ble_eq_true rfl, Nat.le_of_ble_eq_true rfl⟩) (xg_preS hK hG) rfl rfl hl.1 rfl (lv_room (Nat.le_of_ble_eq_true rfl)) dX7_trait_52 ⟨Nat.zero_le _, Nat.zero_le _⟩) (fun r3 hr3 => ?_)
      replace hr3 := hr3.symm; subst hr3
      rw [hQ]
      exact xg_eri S hr hlk (by skip; simp only [dj_tra, c8, sw2_0, xs_10, xs_20, xs_21, xs_30, xs_31, xs_32, if_true, if_false, Bool.false_eq_true]) dX7_trait_55
    · skip
      by_cases sw2_1 : y = 1
      · skip
        refine lv_tableIn (off := 41) (tgt := 56) hx hb dX7_trait_15 (by rw [sw2_1]; decide) (by rw [sw2_1]; decide) (by rw [sw2_1]; rfl) (by decide) ?_
        refine lv_aload_n hx hb dX7_trait_56 rfl (lv_at hl 0 rfl) ?_
        refine xg_get (C := RX7) (T := TX7) (N := 10) S hK hG (fun w h => List.mem_cons_of_mem _ (List.mem_append_left _ (List.mem_append_right _ (h)))) b hO rfl 0 (by decide) k0 (fun _ h9 => h9) rfl dX7_trait_57 ?_
        refine xg_get (C := RX5) (T := TX5) (N := 13) S hK hG (fun w h => List.mem_cons_of_mem _ (List.mem_append_right _ (h))) (b + 1) hT.1 rfl 3 (by decide) k2 (fun _ h9 => h9) rfl dX7_trait_60 ?_
        refine lv_iload_n hx hb dX7_trait_63 rfl (lv_at hl 1 rfl) ?_
        refine xg_ri (va_runS (As := [.ref (ad (b + 5)), .int p]) (rest := []) S (mX7_at l D cI cZ bs ad ws (b + 5) 6 (T 3) (show ws[b + 5]? = some (ad (b + 5), .inl (cI, 6, .inl (T 3))) from hT.2 3 (by decide)) p (by decide)) (va_cwS 2 hts gX7_trait_X7_at rfl rfl rfl (by decide +kernel) ⟨Nat.le_of_ble_eq_true rfl, Nat.le_of_ble_eq_true rfl⟩) (xg_preS hK hG) rfl rfl hl.1 rfl (lv_room (Nat.le_of_ble_eq_true rfl)) dX7_trait_64 ⟨Nat.zero_le _, Nat.zero_le _⟩) (fun r4 hr4 => ?_)
        replace hr4 := hr4.symm; subst hr4
        rw [hQ]
        exact xg_eri S hr hlk (by skip; simp only [dj_tra, c8, sw2_0, sw2_1, xs_10, xs_20, xs_21, xs_30, xs_31, xs_32, if_true, if_false, Bool.false_eq_true]) dX7_trait_67
      · skip
        by_cases sw2_2 : y = 2
        · skip
          refine lv_tableIn (off := 53) (tgt := 68) hx hb dX7_trait_15 (by rw [sw2_2]; decide) (by rw [sw2_2]; decide) (by rw [sw2_2]; rfl) (by decide) ?_
          refine lv_aload_n hx hb dX7_trait_68 rfl (lv_at hl 0 rfl) ?_
          refine xg_get (C := RX7) (T := TX7) (N := 10) S hK hG (fun w h => List.mem_cons_of_mem _ (List.mem_append_left _ (List.mem_append_right _ (h)))) b hO rfl 0 (by decide) k0 (fun _ h9 => h9) rfl dX7_trait_69 ?_
          refine xg_get (C := RX5) (T := TX5) (N := 13) S hK hG (fun w h => List.mem_cons_of_mem _ (List.mem_append_right _ (h))) (b + 1) hT.1 rfl 4 (by decide) k3 (fun _ h9 => h9) rfl dX7_trait_72 ?_
          refine lv_iload_n hx hb dX7_trait_75 rfl (lv_at hl 1 rfl) ?_
          refine xg_ri (va_runS (As := [.ref (ad (b + 6)), .int p]) (rest := []) S (mX7_at l D cI cZ bs ad ws (b + 6) 6 (T 4) (show ws[b + 6]? = some (ad (b + 6), .inl (cI, 6, .inl (T 4))) from hT.2 4 (by decide)) p (by decide)) (va_cwS 2 hts gX7_trait_X7_at rfl rfl rfl (by decide +kernel) ⟨Nat.le_of_ble_eq_true rfl, Nat.le_of_ble_eq_true rfl⟩) (xg_preS hK hG) rfl rfl hl.1 rfl (lv_room (Nat.le_of_ble_eq_true rfl)) dX7_trait_76 ⟨Nat.zero_le _, Nat.zero_le _⟩) (fun r5 hr5 => ?_)
          replace hr5 := hr5.symm; subst hr5
          rw [hQ]
          exact xg_eri S hr hlk (by skip; simp only [dj_tra, c8, sw2_0, sw2_1, sw2_2, xs_10, xs_20, xs_21, xs_30, xs_31, xs_32, if_true, if_false, Bool.false_eq_true]) dX7_trait_79
        · skip
          by_cases sw2_3 : y = 3
          · skip
            refine lv_tableIn (off := 65) (tgt := 80) hx hb dX7_trait_15 (by rw [sw2_3]; decide) (by rw [sw2_3]; decide) (by rw [sw2_3]; rfl) (by decide) ?_
            refine lv_aload_n hx hb dX7_trait_80 rfl (lv_at hl 0 rfl) ?_
            refine xg_get (C := RX7) (T := TX7) (N := 10) S hK hG (fun w h => List.mem_cons_of_mem _ (List.mem_append_left _ (List.mem_append_right _ (h)))) b hO rfl 0 (by decide) k0 (fun _ h9 => h9) rfl dX7_trait_81 ?_
            refine xg_get (C := RX5) (T := TX5) (N := 13) S hK hG (fun w h => List.mem_cons_of_mem _ (List.mem_append_right _ (h))) (b + 1) hT.1 rfl 5 (by decide) k4 (fun _ h9 => h9) rfl dX7_trait_84 ?_
            refine lv_iload_n hx hb dX7_trait_87 rfl (lv_at hl 1 rfl) ?_
            refine xg_ri (va_runS (As := [.ref (ad (b + 7)), .int p]) (rest := []) S (mX7_at l D cI cZ bs ad ws (b + 7) 6 (T 5) (show ws[b + 7]? = some (ad (b + 7), .inl (cI, 6, .inl (T 5))) from hT.2 5 (by decide)) p (by decide)) (va_cwS 2 hts gX7_trait_X7_at rfl rfl rfl (by decide +kernel) ⟨Nat.le_of_ble_eq_true rfl, Nat.le_of_ble_eq_true rfl⟩) (xg_preS hK hG) rfl rfl hl.1 rfl (lv_room (Nat.le_of_ble_eq_true rfl)) dX7_trait_88 ⟨Nat.zero_le _, Nat.zero_le _⟩) (fun r6 hr6 => ?_)
            replace hr6 := hr6.symm; subst hr6
            rw [hQ]
            exact xg_eri S hr hlk (by skip; simp only [dj_tra, c8, sw2_0, sw2_1, sw2_2, sw2_3, xs_10, xs_20, xs_21, xs_30, xs_31, xs_32, if_true, if_false, Bool.false_eq_true]) dX7_trait_91
          · skip
            have tsw2_0 : (y : Int32).toInt ≠ 0 := fun q => sw2_0 (Int32.toInt_inj.mp (by rw [q]; rfl))
            have tsw2_1 : (y : Int32).toInt ≠ 1 := fun q => sw2_1 (Int32.toInt_inj.mp (by rw [q]; rfl))
            have tsw2_2 : (y : Int32).toInt ≠ 2 := fun q => sw2_2 (Int32.toInt_inj.mp (by rw [q]; rfl))
            have tsw2_3 : (y : Int32).toInt ≠ 3 := fun q => sw2_3 (Int32.toInt_inj.mp (by rw [q]; rfl))
            refine lv_tableOut (tgt := 92) hx hb dX7_trait_15 (by omega) (by decide) ?_
            refine lv_bipush (v := (-2)) hx hb dX7_trait_92 (by decide) ?_
            rw [hQ]
            exact xg_eri S hr hlk (by skip; simp only [dj_tra, c8, sw2_0, sw2_1, sw2_2, sw2_3, xs_10, xs_20, xs_21, xs_30, xs_31, xs_32, if_true, if_false, Bool.false_eq_true]) dX7_trait_94
  · skip
    refine lv_bipush (v := (-2)) hx hb dX7_trait_11 (by decide) ?_
    rw [hQ]
    exact xg_eri S hr hlk (by skip; simp only [dj_tra, c8, xs_10, xs_20, xs_21, xs_30, xs_31, xs_32, if_true, if_false, Bool.false_eq_true]) dX7_trait_13
