set_option maxHeartbeats 4000000 in
set_option maxRecDepth 100000 in
theorem mX5_perform (l : Launch) (D : va_G) (cI cZ : ClassId) (bs : Nat) (ad : Nat → Nat) (ws : va_W) (b : Nat) (T : Nat → Nat → Int32) (hT : xv_T cI ad ws b T) (p : Int32) (y : Int32) : Met l yX5_perform wsX5_perform ({ frames := 2, cells := 0, slots := 0, locals := 47 } : Room) (va_Pc [.ref (ad b), .int p, .int y] (fun U => xg_W D cI cZ bs ws U)) (va_Qi (fun (r : Int32) (w : va_W) => r = xb_i (dt_pfB T p y) ∧ xv_T cI ad w b (dt_pfT T p y) ∧ xv_S ws w b 13) (fun w t => xg_W D cI cZ bs w t) (xg_A bs)) 0 0 (xg_A bs) := by
  refine xg_met cX5_perform 4 (some .boolean) RX5 (by decide) rfl rfl (Nat.le_of_ble_eq_true rfl) ?_
  intro pg en s m below meth c ls S hr hlk hnm hB hl
  have hK := hB.1
  have hG := xg_start hB
  obtain ⟨hx, hb, hml, hown, hts⟩ := id S
  have hl : lv_has ls 4 [(0, .ref (ad b)), (1, .int p), (2, .int y)] := hl
  obtain ⟨Q, hQ⟩ : ∃ Q, Q = MQ below (va_Qi (fun (r : Int32) (w : va_W) => r = xb_i (dt_pfB T p y) ∧ xv_T cI ad w b (dt_pfT T p y) ∧ xv_S ws w b 13) (fun w t => xg_W D cI cZ bs w t) (xg_A bs)) ([.ref (ad b), .int p, .int y] : List Value).toArray s 0 0 (xg_A bs) := ⟨_, rfl⟩
  rw [← hQ]
  have k0 := hts (.fieldLink RX5 30 "DareBridge$Town" "high" "[I") (List.mem_of_getElem? (i := 1) rfl)
  have k1 := hts (.initialized RX7) (List.mem_of_getElem? (i := 10) rfl)
  have k2 := hts (.static yX7_at) (List.mem_of_getElem? (i := 9) rfl)
  have k3 := hts (.methodLink RX5 73 Lib.Math.max.name) (List.mem_of_getElem? (i := 2) rfl)
  have k4 := hts (.static Lib.Math.max.name) (List.mem_of_getElem? (i := 3) rfl)
  have k5 := hts (.initialized "java/lang/Math") (List.mem_of_getElem? (i := 4) rfl)
  have k6 := hts (.code Lib.Math.max.name Lib.Math.max.code 2 (some .int)) (List.mem_of_getElem? (i := 5) rfl)
  have k7 := hts (.static yX7_put) (List.mem_of_getElem? (i := 12) rfl)
  have k8 := hts (.fieldLink RX5 33 "DareBridge$Town" "fame" "[I") (List.mem_of_getElem? (i := 6) rfl)
  have k9 := hts (.fieldLink RX5 9 "DareBridge$Town" "rules" "[I") (List.mem_of_getElem? (i := 7) rfl)
  have k10 := hts (.static yX7_drawAfter) (List.mem_of_getElem? (i := 14) rfl)
  have k11 := hts (.fieldLink RX5 36 "DareBridge$Town" "plaster" "[I") (List.mem_of_getElem? (i := 8) rfl)
  refine lv_aload_n hx hb dX5_perform_0 rfl (lv_at hl 0 rfl) ?_
  refine xg_get (C := RX5) (T := TX5) (N := 13) S hK hG (fun w h => List.mem_cons_of_mem _ (List.mem_append_right _ (h))) b hT.1 rfl 6 (by decide) k0 (fun _ h9 => h9) rfl dX5_perform_1 ?_
  refine lv_iload_n hx hb dX5_perform_4 rfl (lv_at hl 1 rfl) ?_
  refine lv_aload_n hx hb dX5_perform_5 rfl (lv_at hl 0 rfl) ?_
  refine xg_get (C := RX5) (T := TX5) (N := 13) S hK hG (fun w h => List.mem_cons_of_mem _ (List.mem_append_right _ (h))) b hT.1 rfl 6 (by decide) k0 (fun _ h9 => h9) rfl dX5_perform_6 ?_
  refine lv_iload_n hx hb dX5_perform_9 rfl (lv_at hl 1 rfl) ?_
  refine xg_ri (va_runSN (As := [.ref (ad (b + 7)), .int p]) (rest := [.int p, .ref (ad (b + 7))]) S (mX7_at l D cI cZ bs ad ws (b + 7) 6 (T 6) (show ws[b + 7]? = some (ad (b + 7), .inl (cI, 6, .inl (T 6))) from hT.2 6 (by decide)) p (by decide)) ⟨(va_cnB 2 hts gX5_perform_X7_at_n59 rfl rfl rfl (hK.2.1 _ xg_nest_10) k1 (by decide +kernel) ⟨Nat.le_of_ble_eq_true rfl, Nat.le_of_ble_eq_true rfl⟩), k2, trivial⟩ (xg_preS hK hG) rfl rfl hl.1 rfl (lv_room (Nat.le_of_ble_eq_true rfl)) dX5_perform_10 ⟨Nat.zero_le _, Nat.zero_le _⟩) (fun r1 hr1 => ?_)
  replace hr1 := hr1.symm; subst hr1
  refine lv_iload_n hx hb dX5_perform_13 rfl (lv_at hl 2 rfl) ?_
  refine va_mmax hx hb (hml.trans hl.1.symm) hown k3 k4 k5 k6 (Nat.le_of_ble_eq_true rfl) (Nat.le_of_ble_eq_true rfl) (Nat.zero_le _) (Nat.zero_le _) dX5_perform_14 ?_
  refine xg_mv (va_runSN (As := [.ref (ad (b + 7)), .int p, .int (if (xb_at 6 (T 6) p) < y then y else xb_at 6 (T 6) p)]) (rest := []) S (mX7_put l D cI cZ bs ad ws (b + 7) 6 (T 6) (show ws[b + 7]? = some (ad (b + 7), .inl (cI, 6, .inl (T 6))) from hT.2 6 (by decide)) p (if (xb_at 6 (T 6) p) < y then y else xb_at 6 (T 6) p) (by decide)) ⟨(va_cnB 3 hts gX5_perform_X7_put_n63 rfl rfl rfl (hK.2.1 _ xg_nest_9) k1 (by decide +kernel) ⟨Nat.le_of_ble_eq_true rfl, Nat.le_of_ble_eq_true rfl⟩), k7, trivial⟩ (xg_preS hK hG) rfl rfl hl.1 rfl (lv_room (Nat.le_of_ble_eq_true rfl)) dX5_perform_17 ⟨Nat.zero_le _, Nat.zero_le _⟩) hG (fun w3 H locs hr2 hG => ?_)
  obtain ⟨hvw3_0, hsw3⟩ := hr2
  obtain ⟨T4, eT4⟩ : ∃ zz : Nat → Nat → Int32, va_up T 6 (xb_pt 6 (T 6) p (if (xb_at 6 (T 6) p) < y then y else xb_at 6 (T 6) p)) = zz := ⟨_, rfl⟩
  have hT : xv_T cI ad w3 b T4 := by rw [← eT4]; exact hT.rowS 6 (by decide) hvw3_0 hsw3
  have hSw3 : xv_S ws w3 b 13 := hsw3.mono (by omega) (by omega)
  refine lv_aload_n hx hb dX5_perform_20 rfl (lv_at hl 0 rfl) ?_
  refine xg_get (C := RX5) (T := TX5) (N := 13) S hK hG (fun w h => List.mem_cons_of_mem _ (List.mem_append_right _ (h))) b hT.1 rfl 7 (by decide) k8 (fun _ h9 => h9) rfl dX5_perform_21 ?_
  refine lv_iload_n hx hb dX5_perform_24 rfl (lv_at hl 1 rfl) ?_
  refine lv_aload_n hx hb dX5_perform_25 rfl (lv_at hl 0 rfl) ?_
  refine xg_get (C := RX5) (T := TX5) (N := 13) S hK hG (fun w h => List.mem_cons_of_mem _ (List.mem_append_right _ (h))) b hT.1 rfl 7 (by decide) k8 (fun _ h9 => h9) rfl dX5_perform_26 ?_
  refine lv_iload_n hx hb dX5_perform_29 rfl (lv_at hl 1 rfl) ?_
  refine xg_ri (va_runSN (As := [.ref (ad (b + 8)), .int p]) (rest := [.int p, .ref (ad (b + 8))]) S (mX7_at l D cI cZ bs ad w3 (b + 8) 6 (T4 7) (show w3[b + 8]? = some (ad (b + 8), .inl (cI, 6, .inl (T4 7))) from hT.2 7 (by decide)) p (by decide)) ⟨(va_cnB 2 hts gX5_perform_X7_at_n59 rfl rfl rfl (hK.2.1 _ xg_nest_10) k1 (by decide +kernel) ⟨Nat.le_of_ble_eq_true rfl, Nat.le_of_ble_eq_true rfl⟩), k2, trivial⟩ (xg_preS hK hG) rfl rfl hl.1 rfl (lv_room (Nat.le_of_ble_eq_true rfl)) dX5_perform_30 ⟨Nat.zero_le _, Nat.zero_le _⟩) (fun r5 hr5 => ?_)
  replace hr5 := hr5.symm; subst hr5
  refine lv_iload_n hx hb dX5_perform_33 rfl (lv_at hl 2 rfl) ?_
  refine lv_iadd hx hb dX5_perform_34 ?_
  refine xg_mv (va_runSN (As := [.ref (ad (b + 8)), .int p, .int ((xb_at 6 (T4 7) p) + y)]) (rest := []) S (mX7_put l D cI cZ bs ad w3 (b + 8) 6 (T4 7) (show w3[b + 8]? = some (ad (b + 8), .inl (cI, 6, .inl (T4 7))) from hT.2 7 (by decide)) p ((xb_at 6 (T4 7) p) + y) (by decide)) ⟨(va_cnB 3 hts gX5_perform_X7_put_n63 rfl rfl rfl (hK.2.1 _ xg_nest_9) k1 (by decide +kernel) ⟨Nat.le_of_ble_eq_true rfl, Nat.le_of_ble_eq_true rfl⟩), k7, trivial⟩ (xg_preS hK hG) rfl rfl hl.1 rfl (lv_room (Nat.le_of_ble_eq_true rfl)) dX5_perform_35 ⟨Nat.zero_le _, Nat.zero_le _⟩) hG (fun w7 H locs hr6 hG => ?_)
  obtain ⟨hvw7_0, hsw7⟩ := hr6
  obtain ⟨T8, eT8⟩ : ∃ zz : Nat → Nat → Int32, va_up T4 7 (xb_pt 6 (T4 7) p ((xb_at 6 (T4 7) p) + y)) = zz := ⟨_, rfl⟩
  have hT : xv_T cI ad w7 b T8 := by rw [← eT8]; exact hT.rowS 7 (by decide) hvw7_0 hsw7
  have hSw7 : xv_S ws w7 b 13 := hSw3.trans (hsw7.mono (by omega) (by omega))
  refine lv_aload_n hx hb dX5_perform_38 rfl (lv_at hl 0 rfl) ?_
  refine xg_get (C := RX5) (T := TX5) (N := 13) S hK hG (fun w h => List.mem_cons_of_mem _ (List.mem_append_right _ (h))) b hT.1 rfl 0 (by decide) k9 (fun _ h9 => h9) rfl dX5_perform_39 ?_
  refine lv_bipush (v := 6) hx hb dX5_perform_42 (by decide) ?_
  refine xg_ri (va_runSN (As := [.ref (ad (b + 1)), .int 6]) (rest := []) S (mX7_at l D cI cZ bs ad w7 (b + 1) 7 (T8 0) (show w7[b + 1]? = some (ad (b + 1), .inl (cI, 7, .inl (T8 0))) from hT.2 0 (by decide)) 6 (by decide)) ⟨(va_cnB 2 hts gX5_perform_X7_at_n59 rfl rfl rfl (hK.2.1 _ xg_nest_10) k1 (by decide +kernel) ⟨Nat.le_of_ble_eq_true rfl, Nat.le_of_ble_eq_true rfl⟩), k2, trivial⟩ (xg_preS hK hG) rfl rfl hl.1 rfl (lv_room (Nat.le_of_ble_eq_true rfl)) dX5_perform_44 ⟨Nat.zero_le _, Nat.zero_le _⟩) (fun r9 hr9 => ?_)
  replace hr9 := hr9.symm; subst hr9
  refine xg_ri (va_runSN (As := [.int (xb_at 7 (T8 0) 6)]) (rest := []) S (mX7_drawAfter l D cI cZ bs ad w7 (xb_at 7 (T8 0) 6)) ⟨(va_cnB 1 hts gX5_perform_X7_drawAfter_n94 rfl rfl rfl (hK.2.1 _ xg_nest_16) k1 (by decide +kernel) ⟨Nat.le_of_ble_eq_true rfl, Nat.le_of_ble_eq_true rfl⟩), k10, trivial⟩ (xg_preS hK hG) rfl rfl hl.1 rfl (lv_room (Nat.le_of_ble_eq_true rfl)) dX5_perform_47 ⟨Nat.zero_le _, Nat.zero_le _⟩) (fun r10 hr10 => ?_)
  replace hr10 := hr10.symm; subst hr10
  refine lv_topi (fun x11 ex11 => ?_)
  replace ex11 := ex11.symm
  refine lv_istore_n (lv' := [(3, .int x11), (0, .ref (ad b)), (1, .int p), (2, .int y)]) hx hb dX5_perform_50 rfl hl (by decide) rfl (fun ls hl => ?_)
  refine lv_aload_n hx hb dX5_perform_51 rfl (lv_at hl 1 rfl) ?_
  refine xg_get (C := RX5) (T := TX5) (N := 13) S hK hG (fun w h => List.mem_cons_of_mem _ (List.mem_append_right _ (h))) b hT.1 rfl 0 (by decide) k9 (fun _ h9 => h9) rfl dX5_perform_52 ?_
  refine lv_bipush (v := 6) hx hb dX5_perform_55 (by decide) ?_
  refine lv_iload_n hx hb dX5_perform_57 rfl (lv_at hl 0 rfl) ?_
  refine xg_mv (va_runSN (As := [.ref (ad (b + 1)), .int 6, .int x11]) (rest := []) S (mX7_put l D cI cZ bs ad w7 (b + 1) 7 (T8 0) (show w7[b + 1]? = some (ad (b + 1), .inl (cI, 7, .inl (T8 0))) from hT.2 0 (by decide)) 6 x11 (by decide)) ⟨(va_cnB 3 hts gX5_perform_X7_put_n63 rfl rfl rfl (hK.2.1 _ xg_nest_9) k1 (by decide +kernel) ⟨Nat.le_of_ble_eq_true rfl, Nat.le_of_ble_eq_true rfl⟩), k7, trivial⟩ (xg_preS hK hG) rfl rfl hl.1 rfl (lv_room (Nat.le_of_ble_eq_true rfl)) dX5_perform_58 ⟨Nat.zero_le _, Nat.zero_le _⟩) hG (fun w13 H locs hr12 hG => ?_)
  obtain ⟨hvw13_0, hsw13⟩ := hr12
  obtain ⟨T14, eT14⟩ : ∃ zz : Nat → Nat → Int32, va_up T8 0 (xb_pt 7 (T8 0) 6 x11) = zz := ⟨_, rfl⟩
  have hT : xv_T cI ad w13 b T14 := by rw [← eT14]; exact hT.rowS 0 (by decide) hvw13_0 hsw13
  have hSw13 : xv_S ws w13 b 13 := hSw7.trans (hsw13.mono (by omega) (by omega))
  refine lv_iload_n hx hb dX5_perform_61 rfl (lv_at hl 0 rfl) ?_
  refine lv_bipush (v := 10) hx hb dX5_perform_62 (by decide) ?_
  refine lv_irem hx hb dX5_perform_64 (by decide) ?_
  refine lv_aload_n hx hb dX5_perform_65 rfl (lv_at hl 1 rfl) ?_
  refine lv_iload_n hx hb dX5_perform_66 rfl (lv_at hl 2 rfl) ?_
  refine lv_iload_n hx hb dX5_perform_67 rfl (lv_at hl 3 rfl) ?_
  refine xg_ri (va_runV (As := [.int p, .int y]) (rest := [.int (x11 - x11 / 10 * 10)]) S (mX5_oddsOf l D cI cZ bs ad w13 b T14 hT p y) (cwV 2 hts gX5_perform_X5_oddsOf rfl rfl rfl (by decide +kernel) ⟨Nat.le_of_ble_eq_true rfl, Nat.le_of_ble_eq_true rfl⟩) (xg_preV hK hG b hT.1 rfl rfl) rfl rfl hl.1 rfl (lv_room (Nat.le_of_ble_eq_true rfl)) dX5_perform_68 ⟨Nat.zero_le _, Nat.zero_le _⟩) (fun r15 hr15 => ?_)
  replace hr15 := hr15.symm; subst hr15
  refine lv_icmp_lt (tgt := 76) hx hb dX5_perform_71 (by decide) (fun c71 => ?_) (fun c71 => ?_)
  · skip
    have hc : dt_pfB T p y = true := by subst eT4 eT8 ex11 eT14; unfold dt_pfB; apply decide_eq_true; simpa [dt_pf3, xw_rem, xw_mx, va_up_self, va_up_ne] using c71
    refine lv_aload_n hx hb dX5_perform_76 rfl (lv_at hl 1 rfl) ?_
    refine xg_get (C := RX5) (T := TX5) (N := 13) S hK hG (fun w h => List.mem_cons_of_mem _ (List.mem_append_right _ (h))) b hT.1 rfl 8 (by decide) k11 (fun _ h9 => h9) rfl dX5_perform_77 ?_
    refine lv_iload_n hx hb dX5_perform_80 rfl (lv_at hl 2 rfl) ?_
    refine lv_aload_n hx hb dX5_perform_81 rfl (lv_at hl 1 rfl) ?_
    refine xg_get (C := RX5) (T := TX5) (N := 13) S hK hG (fun w h => List.mem_cons_of_mem _ (List.mem_append_right _ (h))) b hT.1 rfl 0 (by decide) k9 (fun _ h9 => h9) rfl dX5_perform_82 ?_
    refine lv_iconst (v := 4) hx hb dX5_perform_85 (by decide) ?_
    refine xg_ri (va_runSN (As := [.ref (ad (b + 1)), .int 4]) (rest := [.int p, .ref (ad (b + 9))]) S (mX7_at l D cI cZ bs ad w13 (b + 1) 7 (T14 0) (show w13[b + 1]? = some (ad (b + 1), .inl (cI, 7, .inl (T14 0))) from hT.2 0 (by decide)) 4 (by decide)) ⟨(va_cnB 2 hts gX5_perform_X7_at_n59 rfl rfl rfl (hK.2.1 _ xg_nest_10) k1 (by decide +kernel) ⟨Nat.le_of_ble_eq_true rfl, Nat.le_of_ble_eq_true rfl⟩), k2, trivial⟩ (xg_preS hK hG) rfl rfl hl.1 rfl (lv_room (Nat.le_of_ble_eq_true rfl)) dX5_perform_86 ⟨Nat.zero_le _, Nat.zero_le _⟩) (fun r16 hr16 => ?_)
    replace hr16 := hr16.symm; subst hr16
    refine xg_mv (va_runSN (As := [.ref (ad (b + 9)), .int p, .int (xb_at 7 (T14 0) 4)]) (rest := []) S (mX7_put l D cI cZ bs ad w13 (b + 9) 6 (T14 8) (show w13[b + 9]? = some (ad (b + 9), .inl (cI, 6, .inl (T14 8))) from hT.2 8 (by decide)) p (xb_at 7 (T14 0) 4) (by decide)) ⟨(va_cnB 3 hts gX5_perform_X7_put_n63 rfl rfl rfl (hK.2.1 _ xg_nest_9) k1 (by decide +kernel) ⟨Nat.le_of_ble_eq_true rfl, Nat.le_of_ble_eq_true rfl⟩), k7, trivial⟩ (xg_preS hK hG) rfl rfl hl.1 rfl (lv_room (Nat.le_of_ble_eq_true rfl)) dX5_perform_89 ⟨Nat.zero_le _, Nat.zero_le _⟩) hG (fun w18 H locs hr17 hG => ?_)
    obtain ⟨hvw18_0, hsw18⟩ := hr17
    obtain ⟨T19, eT19⟩ : ∃ zz : Nat → Nat → Int32, va_up T14 8 (xb_pt 6 (T14 8) p (xb_at 7 (T14 0) 4)) = zz := ⟨_, rfl⟩
    have hT : xv_T cI ad w18 b T19 := by rw [← eT19]; exact hT.rowS 8 (by decide) hvw18_0 hsw18
    have hSw18 : xv_S ws w18 b 13 := hSw13.trans (hsw18.mono (by omega) (by omega))
    refine lv_iconst (v := 1) hx hb dX5_perform_92 (by decide) ?_
    rw [hQ]
    exact xg_emz S hr hlk rfl hK hG ⟨(by subst eT4 eT8 ex11 eT14 eT19; rw [hc]; rfl), (by rw [show (dt_pfT T p y) = T19 from (by subst eT4 eT8 ex11 eT14 eT19; (unfold dt_pfT; rw [hc]; simp [dt_pf3, xw_mx, va_up_self, va_up_ne]))]; exact hT), hSw18⟩ dX5_perform_93
  · skip
    have hc : dt_pfB T p y = false := by subst eT4 eT8 ex11 eT14; unfold dt_pfB; apply decide_eq_false; simpa [dt_pf3, xw_rem, xw_mx, va_up_self, va_up_ne] using c71
    refine lv_iconst (v := 0) hx hb dX5_perform_74 (by decide) ?_
    rw [hQ]
    exact xg_emz S hr hlk rfl hK hG ⟨(by subst eT4 eT8 ex11 eT14; rw [hc]; rfl), (by rw [show (dt_pfT T p y) = T14 from (by subst eT4 eT8 ex11 eT14; (unfold dt_pfT; rw [hc]; simp [dt_pf3, xw_mx, va_up_self, va_up_ne]))]; exact hT), hSw13⟩ dX5_perform_75
set_option maxHeartbeats 4000000 in
set_option maxRecDepth 100000 in
theorem mX5_joinedInRound (l : Launch) (D : va_G) (cI cZ : ClassId) (bs : Nat) (ad : Nat → Nat) (ws : va_W) (b : Nat) (T : Nat → Nat → Int32) (hT : xv_T cI ad ws b T) (said : Int32) : Met l yX5_joinedInRound wsX5_joinedInRound ({ frames := 2, cells := 0, slots := 0, locals := 42 } : Room) (va_Pc [.ref (ad b), .int said] (fun U => xg_W D cI cZ bs ws U)) (xg_Ri (fun r : Int32 => r = dt_jrk T said 6)) 0 0 xg_F := by
  refine xg_met cX5_joinedInRound 5 (some .int) RX5 (by decide) rfl rfl (Nat.le_of_ble_eq_true rfl) ?_
  intro pg en s m below meth c ls S hr hlk hnm hB hl
  have hK := hB.1
  have hG := xg_start hB
  obtain ⟨hx, hb, hml, hown, hts⟩ := id S
  have hl : lv_has ls 5 [(0, .ref (ad b)), (1, .int said)] := hl
  obtain ⟨Q, hQ⟩ : ∃ Q, Q = MQ below (xg_Ri (fun r : Int32 => r = dt_jrk T said 6)) ([.ref (ad b), .int said] : List Value).toArray s 0 0 xg_F := ⟨_, rfl⟩
  rw [← hQ]
  have k0 := hts (.fieldLink RX5 27 "DareBridge$Town" "wish" "[I") (List.mem_of_getElem? (i := 1) rfl)
  have k1 := hts (.initialized RX7) (List.mem_of_getElem? (i := 17) rfl)
  have k2 := hts (.static yX7_at) (List.mem_of_getElem? (i := 16) rfl)
  have k3 := hts (.fieldLink RX5 24 "DareBridge$Town" "pride" "[I") (List.mem_of_getElem? (i := 2) rfl)
  refine lv_iload_n hx hb dX5_joinedInRound_0 rfl (lv_at hl 1 rfl) ?_
  refine xg_ri (va_runS (As := [.int said]) (rest := []) S (mJ6_bitCount_0f7a4 l D cI cZ bs ad ws said) (va_cwS 1 hts gX5_joinedInRound_J6_bitCount_0f7a4 rfl rfl rfl (by decide +kernel) ⟨Nat.le_of_ble_eq_true rfl, Nat.le_of_ble_eq_true rfl⟩) (xg_preS hK hG) rfl rfl hl.1 rfl (lv_room (Nat.le_of_ble_eq_true rfl)) dX5_joinedInRound_1 ⟨Nat.zero_le _, Nat.zero_le _⟩) (fun r1 hr1 => ?_)
  replace hr1 := hr1.symm; subst hr1
  refine lv_topi (fun x2 ex2 => ?_)
  replace ex2 := ex2.symm
  refine lv_istore_n (lv' := [(2, .int x2), (0, .ref (ad b)), (1, .int said)]) hx hb dX5_joinedInRound_4 rfl hl (by decide) rfl (fun ls hl => ?_)
  refine lv_iload_n hx hb dX5_joinedInRound_5 rfl (lv_at hl 2 rfl) ?_
  refine lv_istore_n (lv' := [(3, .int said), (2, .int x2), (0, .ref (ad b)), (1, .int said)]) hx hb dX5_joinedInRound_6 rfl hl (by decide) rfl (fun ls hl => ?_)
  refine lv_iconst (v := 0) hx hb dX5_joinedInRound_7 (by decide) ?_
  refine lv_istore (lv' := [(4, .int 0), (3, .int said), (2, .int x2), (0, .ref (ad b)), (1, .int said)]) hx hb dX5_joinedInRound_8 hl (by decide) rfl (fun ls hl => ?_)
  -- the loop at 10
  have lp10 : ∀ (fu : Nat) (k : Nat), (k ≤ 6) → (7 ≤ k + fu) → ∀ y10_3 : Int32, y10_3 = dt_jrk T said k → ∀ y10_4 : Int32, y10_4 = nI k → ∀ (ls : Array Slot), lv_has ls 5 [(0, .ref (ad b)), (1, .int said), (2, .int x2), (3, .int y10_3), (4, .int y10_4)] → W pg l en ({ frames := 2, cells := 0, slots := 0, locals := 42 } : Room) s m ([.ref (ad b), .int said] : List Value).toArray below meth c s.heap [] 0 0 Q (F0 m 10 ls []) := by
    intro fu
    induction fu with
    | zero =>
      intro k hk hf
      exact absurd hf (by omega)
    | succ fu ih =>
      intro k hk hf y10_3 ey10_3 y10_4 ey10_4
      intro ls hl
      replace ey10_3 := ey10_3.symm; subst ey10_3
      replace ey10_4 := ey10_4.symm; subst ey10_4
      refine lv_iload hx hb dX5_joinedInRound_10 (lv_at hl 4 rfl) ?_
      refine lv_bipush (v := 6) hx hb dX5_joinedInRound_12 (by decide) ?_
      refine lv_icmp_ge (tgt := 66) hx hb dX5_joinedInRound_14 (by decide) (fun c14 => ?_) (fun c14 => ?_)
      · skip
        have hk9 : k = 6 := by have := xb_le (k := k) (n := 6) (by omega) (by decide) c14; omega
        refine lv_iload_n hx hb dX5_joinedInRound_66 rfl (lv_at hl 3 rfl) ?_
        rw [hQ]
        exact xg_eri S hr hlk (by subst ex2; rw [hk9]) dX5_joinedInRound_67
      · skip
        have hk9 : k < 6 := xb_lt (by omega) (by decide) c14
        refine lv_aload_n hx hb dX5_joinedInRound_17 rfl (lv_at hl 0 rfl) ?_
        refine lv_iload hx hb dX5_joinedInRound_18 (lv_at hl 4 rfl) ?_
        refine xg_ri (va_runV (As := [.int (nI k)]) (rest := []) S (mX5_isThere l D cI cZ bs ad ws b T hT (nI k)) (cwV 1 hts gX5_joinedInRound_X5_isThere rfl rfl rfl (by decide +kernel) ⟨Nat.le_of_ble_eq_true rfl, Nat.le_of_ble_eq_true rfl⟩) (xg_preV hK hG b hT.1 rfl rfl) rfl rfl hl.1 rfl (lv_room (Nat.le_of_ble_eq_true rfl)) dX5_joinedInRound_20 ⟨Nat.zero_le _, Nat.zero_le _⟩) (fun r3 hr3 => ?_)
        replace hr3 := hr3.symm; subst hr3
        refine xb_ifeq (tgt := 60) S dX5_joinedInRound_23 (by decide) (fun c23 => ?_) (fun c23 => ?_)
        · skip
          obtain ⟨x4, ex4⟩ : ∃ zz : Int32, (nI k) + 1 = zz := ⟨_, rfl⟩
          refine lv_iinc (v := x4) (lv' := [(4, .int x4), (0, .ref (ad b)), (1, .int said), (2, .int x2), (3, .int (dt_jrk T said k))]) hx hb dX5_joinedInRound_60 hl (k := 4) rfl (by rw [← ex4]; rfl) (by decide) rfl (fun ls hl => ?_)
          refine lv_goto (tgt := 10) hx hb dX5_joinedInRound_63 (by decide) ?_
          exact ih (k + 1) (by omega) (by omega) (dt_jrk T said k) (by subst ex2 ex4; simp [dt_jrk, c14, c23]) x4 (by subst ex2 ex4; exact nI_1 k) ls (lv_sub hl [1, 2, 3, 4, 0] rfl)
        · skip
          refine lv_aload_n hx hb dX5_joinedInRound_26 rfl (lv_at hl 0 rfl) ?_
          refine xg_get (C := RX5) (T := TX5) (N := 13) S hK hG (fun w h => List.mem_cons_of_mem _ (List.mem_append_right _ (h))) b hT.1 rfl 5 (by decide) k0 (fun _ h9 => h9) rfl dX5_joinedInRound_27 ?_
          refine lv_iload hx hb dX5_joinedInRound_30 (lv_at hl 4 rfl) ?_
          refine xg_ri (va_runSN (As := [.ref (ad (b + 6)), .int (nI k)]) (rest := []) S (mX7_at l D cI cZ bs ad ws (b + 6) 6 (T 5) (show ws[b + 6]? = some (ad (b + 6), .inl (cI, 6, .inl (T 5))) from hT.2 5 (by decide)) (nI k) (by decide)) ⟨(va_cnB 2 hts gX5_joinedInRound_X7_at_n59 rfl rfl rfl (hK.2.1 _ xg_nest_10) k1 (by decide +kernel) ⟨Nat.le_of_ble_eq_true rfl, Nat.le_of_ble_eq_true rfl⟩), k2, trivial⟩ (xg_preS hK hG) rfl rfl hl.1 rfl (lv_room (Nat.le_of_ble_eq_true rfl)) dX5_joinedInRound_32 ⟨Nat.zero_le _, Nat.zero_le _⟩) (fun r5 hr5 => ?_)
          replace hr5 := hr5.symm; subst hr5
          refine lv_if_ne (tgt := 60) hx hb dX5_joinedInRound_35 (by decide) (fun c35 => ?_) (fun c35 => ?_)
          · skip
            obtain ⟨x6, ex6⟩ : ∃ zz : Int32, (nI k) + 1 = zz := ⟨_, rfl⟩
            refine lv_iinc (v := x6) (lv' := [(4, .int x6), (0, .ref (ad b)), (1, .int said), (2, .int x2), (3, .int (dt_jrk T said k))]) hx hb dX5_joinedInRound_60 hl (k := 4) rfl (by rw [← ex6]; rfl) (by decide) rfl (fun ls hl => ?_)
            refine lv_goto (tgt := 10) hx hb dX5_joinedInRound_63 (by decide) ?_
            exact ih (k + 1) (by omega) (by omega) (dt_jrk T said k) (by subst ex2 ex6; simp [dt_jrk, c14, c23, c35]) x6 (by subst ex2 ex6; exact nI_1 k) ls (lv_sub hl [1, 2, 3, 4, 0] rfl)
          · skip
            refine lv_aload_n hx hb dX5_joinedInRound_38 rfl (lv_at hl 0 rfl) ?_
            refine xg_get (C := RX5) (T := TX5) (N := 13) S hK hG (fun w h => List.mem_cons_of_mem _ (List.mem_append_right _ (h))) b hT.1 rfl 4 (by decide) k3 (fun _ h9 => h9) rfl dX5_joinedInRound_39 ?_
            refine lv_iload hx hb dX5_joinedInRound_42 (lv_at hl 4 rfl) ?_
            refine xg_ri (va_runSN (As := [.ref (ad (b + 5)), .int (nI k)]) (rest := []) S (mX7_at l D cI cZ bs ad ws (b + 5) 6 (T 4) (show ws[b + 5]? = some (ad (b + 5), .inl (cI, 6, .inl (T 4))) from hT.2 4 (by decide)) (nI k) (by decide)) ⟨(va_cnB 2 hts gX5_joinedInRound_X7_at_n59 rfl rfl rfl (hK.2.1 _ xg_nest_10) k1 (by decide +kernel) ⟨Nat.le_of_ble_eq_true rfl, Nat.le_of_ble_eq_true rfl⟩), k2, trivial⟩ (xg_preS hK hG) rfl rfl hl.1 rfl (lv_room (Nat.le_of_ble_eq_true rfl)) dX5_joinedInRound_44 ⟨Nat.zero_le _, Nat.zero_le _⟩) (fun r7 hr7 => ?_)
            replace hr7 := hr7.symm; subst hr7
            refine lv_iconst (v := 2) hx hb dX5_joinedInRound_47 (by decide) ?_
            refine lv_idiv hx hb dX5_joinedInRound_48 (by decide) ?_
            refine lv_iload_n hx hb dX5_joinedInRound_49 rfl (lv_at hl 2 rfl) ?_
            refine lv_icmp_gt (tgt := 60) hx hb dX5_joinedInRound_50 (by decide) (fun c50 => ?_) (fun c50 => ?_)
            · skip
              obtain ⟨x8, ex8⟩ : ∃ zz : Int32, (nI k) + 1 = zz := ⟨_, rfl⟩
              refine lv_iinc (v := x8) (lv' := [(4, .int x8), (0, .ref (ad b)), (1, .int said), (2, .int x2), (3, .int (dt_jrk T said k))]) hx hb dX5_joinedInRound_60 hl (k := 4) rfl (by rw [← ex8]; rfl) (by decide) rfl (fun ls hl => ?_)
              refine lv_goto (tgt := 10) hx hb dX5_joinedInRound_63 (by decide) ?_
              exact ih (k + 1) (by omega) (by omega) (dt_jrk T said k) (by subst ex2 ex8; simp [dt_jrk, c14, c23, c35, c50]) x8 (by subst ex2 ex8; exact nI_1 k) ls (lv_sub hl [1, 2, 3, 4, 0] rfl)
            · skip
              refine lv_iload_n hx hb dX5_joinedInRound_53 rfl (lv_at hl 3 rfl) ?_
              refine lv_iconst (v := 1) hx hb dX5_joinedInRound_54 (by decide) ?_
              refine lv_iload hx hb dX5_joinedInRound_55 (lv_at hl 4 rfl) ?_
              refine lv_ishl hx hb dX5_joinedInRound_57 ?_
              refine lv_ior hx hb dX5_joinedInRound_58 ?_
              refine lv_topi (fun x9 ex9 => ?_)
              replace ex9 := ex9.symm
              refine lv_istore_n (lv' := [(3, .int x9), (0, .ref (ad b)), (1, .int said), (2, .int x2), (4, .int (nI k))]) hx hb dX5_joinedInRound_59 rfl hl (by decide) rfl (fun ls hl => ?_)
              obtain ⟨x10, ex10⟩ : ∃ zz : Int32, (nI k) + 1 = zz := ⟨_, rfl⟩
              refine lv_iinc (v := x10) (lv' := [(4, .int x10), (3, .int x9), (0, .ref (ad b)), (1, .int said), (2, .int x2)]) hx hb dX5_joinedInRound_60 hl (k := 4) rfl (by rw [← ex10]; rfl) (by decide) rfl (fun ls hl => ?_)
              refine lv_goto (tgt := 10) hx hb dX5_joinedInRound_63 (by decide) ?_
              exact ih (k + 1) (by omega) (by omega) x9 (by subst ex2 ex9 ex10; simp [dt_jrk, c14, c23, c35, c50]) x10 (by subst ex2 ex9 ex10; exact nI_1 k) ls (lv_sub hl [2, 3, 4, 1, 0] rfl)
  exact lp10 7 0 (by omega) (by omega) said (by subst ex2; rfl) 0 (by subst ex2; rfl) ls (lv_sub hl [3, 4, 2, 1, 0] rfl)
set_option maxHeartbeats 4000000 in
set_option maxRecDepth 100000 in
theorem mX5_joined (l : Launch) (D : va_G) (cI cZ : ClassId) (bs : Nat) (ad : Nat → Nat) (ws : va_W) (b : Nat) (T : Nat → Nat → Int32) (hT : xv_T cI ad ws b T) (said : Int32) : Met l yX5_joined wsX5_joined ({ frames := 3, cells := 0, slots := 0, locals := 66 } : Room) (va_Pc [.ref (ad b), .int said] (fun U => xg_W D cI cZ bs ws U)) (xg_Ri (fun r : Int32 => r = dt_joi T said)) 0 0 xg_F := by
  refine xg_met cX5_joined 4 (some .int) RX5 (by decide) rfl rfl (Nat.le_of_ble_eq_true rfl) ?_
  intro pg en s m below meth c ls S hr hlk hnm hB hl
  have hK := hB.1
  have hG := xg_start hB
  obtain ⟨hx, hb, hml, hown, hts⟩ := id S
  have hl : lv_has ls 4 [(0, .ref (ad b)), (1, .int said)] := hl
  obtain ⟨Q, hQ⟩ : ∃ Q, Q = MQ below (xg_Ri (fun r : Int32 => r = dt_joi T said)) ([.ref (ad b), .int said] : List Value).toArray s 0 0 xg_F := ⟨_, rfl⟩
  rw [← hQ]
  refine lv_iload_n hx hb dX5_joined_0 rfl (lv_at hl 1 rfl) ?_
  refine lv_istore_n (lv' := [(2, .int said), (0, .ref (ad b)), (1, .int said)]) hx hb dX5_joined_1 rfl hl (by decide) rfl (fun ls hl => ?_)
  refine lv_iconst (v := 0) hx hb dX5_joined_2 (by decide) ?_
  refine lv_istore_n (lv' := [(3, .int 0), (2, .int said), (0, .ref (ad b)), (1, .int said)]) hx hb dX5_joined_3 rfl hl (by decide) rfl (fun ls hl => ?_)
  -- the loop at 4
  have lp4 : ∀ (fu : Nat) (k : Nat), (k ≤ 6) → (7 ≤ k + fu) → ∀ y4_2 : Int32, y4_2 = dt_jnk T said k → ∀ y4_3 : Int32, y4_3 = nI k → ∀ (ls : Array Slot), lv_has ls 4 [(0, .ref (ad b)), (1, .int said), (2, .int y4_2), (3, .int y4_3)] → W pg l en ({ frames := 3, cells := 0, slots := 0, locals := 66 } : Room) s m ([.ref (ad b), .int said] : List Value).toArray below meth c s.heap [] 0 0 Q (F0 m 4 ls []) := by
    intro fu
    induction fu with
    | zero =>
      intro k hk hf
      exact absurd hf (by omega)
    | succ fu ih =>
      intro k hk hf y4_2 ey4_2 y4_3 ey4_3
      intro ls hl
      replace ey4_2 := ey4_2.symm; subst ey4_2
      replace ey4_3 := ey4_3.symm; subst ey4_3
      refine lv_iload_n hx hb dX5_joined_4 rfl (lv_at hl 3 rfl) ?_
      refine lv_bipush (v := 6) hx hb dX5_joined_5 (by decide) ?_
      refine lv_icmp_ge (tgt := 22) hx hb dX5_joined_7 (by decide) (fun c7 => ?_) (fun c7 => ?_)
      · skip
        have hk9 : k = 6 := by have := xb_le (k := k) (n := 6) (by omega) (by decide) c7; omega
        refine lv_iload_n hx hb dX5_joined_22 rfl (lv_at hl 2 rfl) ?_
        rw [hQ]
        exact xg_eri S hr hlk (by skip; rw [hk9]; rfl) dX5_joined_23
      · skip
        have hk9 : k < 6 := xb_lt (by omega) (by decide) c7
        refine lv_aload_n hx hb dX5_joined_10 rfl (lv_at hl 0 rfl) ?_
        refine lv_iload_n hx hb dX5_joined_11 rfl (lv_at hl 2 rfl) ?_
        refine xg_ri (va_runV (As := [.int (dt_jnk T said k)]) (rest := []) S (mX5_joinedInRound l D cI cZ bs ad ws b T hT (dt_jnk T said k)) (cwV 1 hts gX5_joined_X5_joinedInRound rfl rfl rfl (by decide +kernel) ⟨Nat.le_of_ble_eq_true rfl, Nat.le_of_ble_eq_true rfl⟩) (xg_preV hK hG b hT.1 rfl rfl) rfl rfl hl.1 rfl (lv_room (Nat.le_of_ble_eq_true rfl)) dX5_joined_12 ⟨Nat.zero_le _, Nat.zero_le _⟩) (fun r1 hr1 => ?_)
        replace hr1 := hr1.symm; subst hr1
        refine lv_topi (fun x2 ex2 => ?_)
        replace ex2 := ex2.symm
        refine lv_istore_n (lv' := [(2, .int x2), (0, .ref (ad b)), (1, .int said), (3, .int (nI k))]) hx hb dX5_joined_15 rfl hl (by decide) rfl (fun ls hl => ?_)
        obtain ⟨x3, ex3⟩ : ∃ zz : Int32, (nI k) + 1 = zz := ⟨_, rfl⟩
        refine lv_iinc (v := x3) (lv' := [(3, .int x3), (2, .int x2), (0, .ref (ad b)), (1, .int said)]) hx hb dX5_joined_16 hl (k := 3) rfl (by rw [← ex3]; rfl) (by decide) rfl (fun ls hl => ?_)
        refine lv_goto (tgt := 4) hx hb dX5_joined_19 (by decide) ?_
        exact ih (k + 1) (by omega) (by omega) x2 (by subst ex2 ex3; rfl) x3 (by subst ex2 ex3; exact nI_1 k) ls (lv_sub hl [2, 3, 1, 0] rfl)
  exact lp4 7 0 (by omega) (by omega) said (by skip; rfl) 0 (by skip; rfl) ls (lv_sub hl [2, 3, 1, 0] rfl)
set_option maxHeartbeats 4000000 in
set_option maxRecDepth 100000 in
theorem mX5_isMost (l : Launch) (D : va_G) (cI cZ : ClassId) (bs : Nat) (ad : Nat → Nat) (ws : va_W) (b : Nat) (T : Nat → Nat → Int32) (hT : xv_T cI ad ws b T) (said : Int32) : Met l yX5_isMost wsX5_isMost ({ frames := 2, cells := 0, slots := 0, locals := 43 } : Room) (va_Pc [.ref (ad b), .int said] (fun U => xg_W D cI cZ bs ws U)) (xg_Ri (fun r : Int32 => r = xb_i (dt_mst T said))) 0 0 xg_F := by
  refine xg_met cX5_isMost 2 (some .boolean) RX5 (by decide) rfl rfl (Nat.le_of_ble_eq_true rfl) ?_
  intro pg en s m below meth c ls S hr hlk hnm hB hl
  have hK := hB.1
  have hG := xg_start hB
  obtain ⟨hx, hb, hml, hown, hts⟩ := id S
  have hl : lv_has ls 2 [(0, .ref (ad b)), (1, .int said)] := hl
  obtain ⟨Q, hQ⟩ : ∃ Q, Q = MQ below (xg_Ri (fun r : Int32 => r = xb_i (dt_mst T said))) ([.ref (ad b), .int said] : List Value).toArray s 0 0 xg_F := ⟨_, rfl⟩
  rw [← hQ]
  refine lv_iconst (v := 2) hx hb dX5_isMost_0 (by decide) ?_
  refine lv_iload_n hx hb dX5_isMost_1 rfl (lv_at hl 1 rfl) ?_
  refine xg_ri (va_runS (As := [.int said]) (rest := [.int 2]) S (mJ6_bitCount_0f7a4 l D cI cZ bs ad ws said) (va_cwS 1 hts gX5_isMost_J6_bitCount_0f7a4 rfl rfl rfl (by decide +kernel) ⟨Nat.le_of_ble_eq_true rfl, Nat.le_of_ble_eq_true rfl⟩) (xg_preS hK hG) rfl rfl hl.1 rfl (lv_room (Nat.le_of_ble_eq_true rfl)) dX5_isMost_2 ⟨Nat.zero_le _, Nat.zero_le _⟩) (fun r1 hr1 => ?_)
  replace hr1 := hr1.symm; subst hr1
  refine lv_imul hx hb dX5_isMost_5 ?_
  refine lv_aload_n hx hb dX5_isMost_6 rfl (lv_at hl 0 rfl) ?_
  refine xg_ri (va_runV (As := []) (rest := [.int (2 * (xw_bc said))]) S (mX5_bits l D cI cZ bs ad ws b T hT) (cwV 0 hts gX5_isMost_X5_bits rfl rfl rfl (by decide +kernel) ⟨Nat.le_of_ble_eq_true rfl, Nat.le_of_ble_eq_true rfl⟩) (xg_preV hK hG b hT.1 rfl rfl) rfl rfl hl.1 rfl (lv_room (Nat.le_of_ble_eq_true rfl)) dX5_isMost_7 ⟨Nat.zero_le _, Nat.zero_le _⟩) (fun r2 hr2 => ?_)
  replace hr2 := hr2.symm; subst hr2
  refine xg_ri (va_runS (As := [.int (dt_btu T 6)]) (rest := [.int (2 * (xw_bc said))]) S (mJ6_bitCount_0f7a4 l D cI cZ bs ad ws (dt_btu T 6)) (va_cwS 1 hts gX5_isMost_J6_bitCount_0f7a4 rfl rfl rfl (by decide +kernel) ⟨Nat.le_of_ble_eq_true rfl, Nat.le_of_ble_eq_true rfl⟩) (xg_preS hK hG) rfl rfl hl.1 rfl (lv_room (Nat.le_of_ble_eq_true rfl)) dX5_isMost_10 ⟨Nat.zero_le _, Nat.zero_le _⟩) (fun r3 hr3 => ?_)
  replace hr3 := hr3.symm; subst hr3
  refine lv_icmp_le (tgt := 20) hx hb dX5_isMost_13 (by decide) (fun c13 => ?_) (fun c13 => ?_)
  · skip
    refine lv_iconst (v := 0) hx hb dX5_isMost_20 (by decide) ?_
    rw [hQ]
    exact xg_erz S hr hlk rfl (by skip; simp [dt_mst, xb_i, c13]) dX5_isMost_21
  · skip
    refine lv_iconst (v := 1) hx hb dX5_isMost_16 (by decide) ?_
    refine lv_goto (tgt := 21) hx hb dX5_isMost_17 (by decide) ?_
    rw [hQ]
    exact xg_erz S hr hlk rfl (by skip; simp [dt_mst, xb_i, c13]) dX5_isMost_21
set_option maxHeartbeats 4000000 in
set_option maxRecDepth 100000 in
theorem mX5_see (l : Launch) (D : va_G) (cI cZ : ClassId) (bs : Nat) (ad : Nat → Nat) (ws : va_W) (b : Nat) (T : Nat → Nat → Int32) (hT : xv_T cI ad ws b T) (p : Int32) (y : Int32) (d : Int32) : Met l yX5_see wsX5_see ({ frames := 1, cells := 0, slots := 0, locals := 22 } : Room) (va_Pc [.ref (ad b), .int p, .int y, .int d] (fun U => xg_W D cI cZ bs ws U)) (va_Qi (fun (r : Int32) (w : va_W) => r = xb_i (decide (T 12 0 < 6)) ∧ xv_T cI ad w b (dt_see T p y d) ∧ xv_S ws w b 13) (fun w t => xg_W D cI cZ bs w t) (xg_A bs)) 0 0 (xg_A bs) := by
  refine xg_met cX5_see 4 (some .boolean) RX5 (by decide) rfl rfl (Nat.le_of_ble_eq_true rfl) ?_
  intro pg en s m below meth c ls S hr hlk hnm hB hl
  have hK := hB.1
  have hG := xg_start hB
  obtain ⟨hx, hb, hml, hown, hts⟩ := id S
  have hl : lv_has ls 4 [(0, .ref (ad b)), (1, .int p), (2, .int y), (3, .int d)] := hl
  obtain ⟨Q, hQ⟩ : ∃ Q, Q = MQ below (va_Qi (fun (r : Int32) (w : va_W) => r = xb_i (decide (T 12 0 < 6)) ∧ xv_T cI ad w b (dt_see T p y d) ∧ xv_S ws w b 13) (fun w t => xg_W D cI cZ bs w t) (xg_A bs)) ([.ref (ad b), .int p, .int y, .int d] : List Value).toArray s 0 0 (xg_A bs) := ⟨_, rfl⟩
  rw [← hQ]
  have k0 := hts (.fieldLink RX5 48 "DareBridge$Town" "sights" "I") (List.mem_of_getElem? (i := 1) rfl)
  have k1 := hts (.fieldLink RX5 39 "DareBridge$Town" "sightOf" "[I") (List.mem_of_getElem? (i := 2) rfl)
  have k2 := hts (.initialized RX7) (List.mem_of_getElem? (i := 6) rfl)
  have k3 := hts (.static yX7_put) (List.mem_of_getElem? (i := 5) rfl)
  have k4 := hts (.fieldLink RX5 42 "DareBridge$Town" "sightHeight" "[I") (List.mem_of_getElem? (i := 3) rfl)
  have k5 := hts (.fieldLink RX5 45 "DareBridge$Town" "sightDid" "[I") (List.mem_of_getElem? (i := 4) rfl)
  refine lv_aload_n hx hb dX5_see_0 rfl (lv_at hl 0 rfl) ?_
  refine xg_get (C := RX5) (T := TX5) (N := 13) S hK hG (fun w h => List.mem_cons_of_mem _ (List.mem_append_right _ (h))) b hT.1 rfl 12 (by decide) k0 (fun _ h9 => h9) rfl dX5_see_1 ?_
  refine lv_bipush (v := 6) hx hb dX5_see_4 (by decide) ?_
  refine lv_icmp_lt (tgt := 11) hx hb dX5_see_6 (by decide) (fun c6 => ?_) (fun c6 => ?_)
  · skip
    refine lv_aload_n hx hb dX5_see_11 rfl (lv_at hl 0 rfl) ?_
    refine xg_get (C := RX5) (T := TX5) (N := 13) S hK hG (fun w h => List.mem_cons_of_mem _ (List.mem_append_right _ (h))) b hT.1 rfl 9 (by decide) k1 (fun _ h9 => h9) rfl dX5_see_12 ?_
    refine lv_aload_n hx hb dX5_see_15 rfl (lv_at hl 0 rfl) ?_
    refine xg_get (C := RX5) (T := TX5) (N := 13) S hK hG (fun w h => List.mem_cons_of_mem _ (List.mem_append_right _ (h))) b hT.1 rfl 12 (by decide) k0 (fun _ h9 => h9) rfl dX5_see_16 ?_
    refine lv_iload_n hx hb dX5_see_19 rfl (lv_at hl 1 rfl) ?_
    refine xg_mv (va_runSN (As := [.ref (ad (b + 10)), .int (T 12 0), .int p]) (rest := []) S (mX7_put l D cI cZ bs ad ws (b + 10) 6 (T 9) (show ws[b + 10]? = some (ad (b + 10), .inl (cI, 6, .inl (T 9))) from hT.2 9 (by decide)) (T 12 0) p (by decide)) ⟨(va_cnB 3 hts gX5_see_X7_put_n63 rfl rfl rfl (hK.2.1 _ xg_nest_9) k2 (by decide +kernel) ⟨Nat.le_of_ble_eq_true rfl, Nat.le_of_ble_eq_true rfl⟩), k3, trivial⟩ (xg_preS hK hG) rfl rfl hl.1 rfl (lv_room (Nat.le_of_ble_eq_true rfl)) dX5_see_20 ⟨Nat.zero_le _, Nat.zero_le _⟩) hG (fun w2 H locs hr1 hG => ?_)
    obtain ⟨hvw2_0, hsw2⟩ := hr1
    obtain ⟨T3, eT3⟩ : ∃ zz : Nat → Nat → Int32, va_up T 9 (xb_pt 6 (T 9) (T 12 0) p) = zz := ⟨_, rfl⟩
    have hT : xv_T cI ad w2 b T3 := by rw [← eT3]; exact hT.rowS 9 (by decide) hvw2_0 hsw2
    have hSw2 : xv_S ws w2 b 13 := hsw2.mono (by omega) (by omega)
    refine lv_aload_n hx hb dX5_see_23 rfl (lv_at hl 0 rfl) ?_
    refine xg_get (C := RX5) (T := TX5) (N := 13) S hK hG (fun w h => List.mem_cons_of_mem _ (List.mem_append_right _ (h))) b hT.1 rfl 10 (by decide) k4 (fun _ h9 => h9) rfl dX5_see_24 ?_
    refine lv_aload_n hx hb dX5_see_27 rfl (lv_at hl 0 rfl) ?_
    refine xg_get (C := RX5) (T := TX5) (N := 13) S hK hG (fun w h => List.mem_cons_of_mem _ (List.mem_append_right _ (h))) b hT.1 rfl 12 (by decide) k0 (fun _ h9 => h9) rfl dX5_see_28 ?_
    refine lv_iload_n hx hb dX5_see_31 rfl (lv_at hl 2 rfl) ?_
    refine xg_mv (va_runSN (As := [.ref (ad (b + 11)), .int (T3 12 0), .int y]) (rest := []) S (mX7_put l D cI cZ bs ad w2 (b + 11) 6 (T3 10) (show w2[b + 11]? = some (ad (b + 11), .inl (cI, 6, .inl (T3 10))) from hT.2 10 (by decide)) (T3 12 0) y (by decide)) ⟨(va_cnB 3 hts gX5_see_X7_put_n63 rfl rfl rfl (hK.2.1 _ xg_nest_9) k2 (by decide +kernel) ⟨Nat.le_of_ble_eq_true rfl, Nat.le_of_ble_eq_true rfl⟩), k3, trivial⟩ (xg_preS hK hG) rfl rfl hl.1 rfl (lv_room (Nat.le_of_ble_eq_true rfl)) dX5_see_32 ⟨Nat.zero_le _, Nat.zero_le _⟩) hG (fun w5 H locs hr4 hG => ?_)
    obtain ⟨hvw5_0, hsw5⟩ := hr4
    obtain ⟨T6, eT6⟩ : ∃ zz : Nat → Nat → Int32, va_up T3 10 (xb_pt 6 (T3 10) (T3 12 0) y) = zz := ⟨_, rfl⟩
    have hT : xv_T cI ad w5 b T6 := by rw [← eT6]; exact hT.rowS 10 (by decide) hvw5_0 hsw5
    have hSw5 : xv_S ws w5 b 13 := hSw2.trans (hsw5.mono (by omega) (by omega))
    refine lv_aload_n hx hb dX5_see_35 rfl (lv_at hl 0 rfl) ?_
    refine xg_get (C := RX5) (T := TX5) (N := 13) S hK hG (fun w h => List.mem_cons_of_mem _ (List.mem_append_right _ (h))) b hT.1 rfl 11 (by decide) k5 (fun _ h9 => h9) rfl dX5_see_36 ?_
    refine lv_aload_n hx hb dX5_see_39 rfl (lv_at hl 0 rfl) ?_
    refine xg_get (C := RX5) (T := TX5) (N := 13) S hK hG (fun w h => List.mem_cons_of_mem _ (List.mem_append_right _ (h))) b hT.1 rfl 12 (by decide) k0 (fun _ h9 => h9) rfl dX5_see_40 ?_
    refine lv_iload_n hx hb dX5_see_43 rfl (lv_at hl 3 rfl) ?_
    refine xg_mv (va_runSN (As := [.ref (ad (b + 12)), .int (T6 12 0), .int d]) (rest := []) S (mX7_put l D cI cZ bs ad w5 (b + 12) 6 (T6 11) (show w5[b + 12]? = some (ad (b + 12), .inl (cI, 6, .inl (T6 11))) from hT.2 11 (by decide)) (T6 12 0) d (by decide)) ⟨(va_cnB 3 hts gX5_see_X7_put_n63 rfl rfl rfl (hK.2.1 _ xg_nest_9) k2 (by decide +kernel) ⟨Nat.le_of_ble_eq_true rfl, Nat.le_of_ble_eq_true rfl⟩), k3, trivial⟩ (xg_preS hK hG) rfl rfl hl.1 rfl (lv_room (Nat.le_of_ble_eq_true rfl)) dX5_see_44 ⟨Nat.zero_le _, Nat.zero_le _⟩) hG (fun w8 H locs hr7 hG => ?_)
    obtain ⟨hvw8_0, hsw8⟩ := hr7
    obtain ⟨T9, eT9⟩ : ∃ zz : Nat → Nat → Int32, va_up T6 11 (xb_pt 6 (T6 11) (T6 12 0) d) = zz := ⟨_, rfl⟩
    have hT : xv_T cI ad w8 b T9 := by rw [← eT9]; exact hT.rowS 11 (by decide) hvw8_0 hsw8
    have hSw8 : xv_S ws w8 b 13 := hSw5.trans (hsw8.mono (by omega) (by omega))
    refine lv_aload_n hx hb dX5_see_47 rfl (lv_at hl 0 rfl) ?_
    refine lv_dup hx hb dX5_see_48 rfl ?_
    refine xg_get (C := RX5) (T := TX5) (N := 13) S hK hG (fun w h => List.mem_cons_of_mem _ (List.mem_append_right _ (h))) b hT.1 rfl 12 (by decide) k0 (fun _ h9 => h9) rfl dX5_see_49 ?_
    refine lv_iconst (v := 1) hx hb dX5_see_52 (by decide) ?_
    refine lv_iadd hx hb dX5_see_53 ?_
    refine xg_put2 (C := RX5) (T := TX5) (N := 13) (v := .int ((T9 12 0) + 1)) (ty := .int) S hK hG (fun w h => List.mem_cons_of_mem _ (List.mem_append_right _ (h))) tyX5 tyX5_ok nmX5 b hT.1 rfl 12 (by decide) k0 (fun _ h9 => h9) rfl (by decide +kernel) rfl rfl (Nat.le_of_ble_eq_true rfl) dX5_see_54 (fun w10 H locs hw10 hG => ?_)
    have hs11 : xv_S w8 w10 b 1 := by rw [hw10]; exact xv_S.set (by omega) (by omega)
    obtain ⟨T12, eT12⟩ : ∃ zz : Nat → Nat → Int32, va_up T9 12 (fun _ => (T9 12 0) + 1) = zz := ⟨_, rfl⟩
    have hT : xv_T cI ad w10 b T12 := by rw [hw10, ← eT12]; exact hT.sights
    have hSw10 : xv_S ws w10 b 13 := hSw8.trans (hs11.mono (by omega) (by omega))
    refine lv_iconst (v := 1) hx hb dX5_see_57 (by decide) ?_
    rw [hQ]
    exact xg_emz S hr hlk rfl hK hG ⟨(by subst eT3 eT6 eT9 eT12; simp [xb_i, c6]), (by rw [show (dt_see T p y d) = T12 from (by subst eT3 eT6 eT9 eT12; simp [dt_see, va_up_self, va_up_ne, c6])]; exact hT), hSw10⟩ dX5_see_58
  · skip
    refine lv_iconst (v := 0) hx hb dX5_see_9 (by decide) ?_
    rw [hQ]
    exact xg_emz S hr hlk rfl hK hG ⟨(by skip; simp [xb_i, c6]), (by rw [show (dt_see T p y d) = T from (by skip; simp [dt_see, va_up_self, va_up_ne, c6])]; exact hT), xv_S.rf⟩ dX5_see_10
set_option maxHeartbeats 4000000 in
set_option maxRecDepth 100000 in
theorem mX5_fitsSights (l : Launch) (D : va_G) (cI cZ : ClassId) (bs : Nat) (ad : Nat → Nat) (ws : va_W) (b : Nat) (T : Nat → Nat → Int32) (hT : xv_T cI ad ws b T) (p : Int32) (q : Int32) (ns : Nat) (hns : T 12 0 = nI ns) (hn6 : ns ≤ 6) : Met l yX5_fitsSights wsX5_fitsSights ({ frames := 4, cells := 0, slots := 0, locals := 94 } : Room) (va_Pc [.ref (ad b), .int p, .int q] (fun U => xg_W D cI cZ bs ws U)) (xg_Ri (fun r : Int32 => r = xb_i (xw_all (dt_fit T p q) ns 0))) 0 0 xg_F := by
  refine xg_met cX5_fitsSights 5 (some .boolean) RX5 (by decide) rfl rfl (Nat.le_of_ble_eq_true rfl) ?_
  intro pg en s m below meth c ls S hr hlk hnm hB hl
  have hK := hB.1
  have hG := xg_start hB
  obtain ⟨hx, hb, hml, hown, hts⟩ := id S
  have hl : lv_has ls 5 [(0, .ref (ad b)), (1, .int p), (2, .int q)] := hl
  obtain ⟨Q, hQ⟩ : ∃ Q, Q = MQ below (xg_Ri (fun r : Int32 => r = xb_i (xw_all (dt_fit T p q) ns 0))) ([.ref (ad b), .int p, .int q] : List Value).toArray s 0 0 xg_F := ⟨_, rfl⟩
  rw [← hQ]
  have k0 := hts (.fieldLink RX5 48 "DareBridge$Town" "sights" "I") (List.mem_of_getElem? (i := 1) rfl)
  have k1 := hts (.fieldLink RX5 45 "DareBridge$Town" "sightDid" "[I") (List.mem_of_getElem? (i := 2) rfl)
  have k2 := hts (.initialized RX7) (List.mem_of_getElem? (i := 6) rfl)
  have k3 := hts (.static yX7_at) (List.mem_of_getElem? (i := 5) rfl)
  have k4 := hts (.fieldLink RX5 39 "DareBridge$Town" "sightOf" "[I") (List.mem_of_getElem? (i := 3) rfl)
  have k5 := hts (.fieldLink RX5 42 "DareBridge$Town" "sightHeight" "[I") (List.mem_of_getElem? (i := 4) rfl)
  refine lv_iconst (v := 0) hx hb dX5_fitsSights_0 (by decide) ?_
  refine lv_istore_n (lv' := [(3, .int 0), (0, .ref (ad b)), (1, .int p), (2, .int q)]) hx hb dX5_fitsSights_1 rfl hl (by decide) rfl (fun ls hl => ?_)
  -- the loop at 2
  have lp2 : ∀ (fu : Nat) (k : Nat), (k ≤ ns) → (ns + 1 ≤ k + fu) → (xw_all (dt_fit T p q) ns 0 = xw_all (dt_fit T p q) (ns - k) k) → ∀ y2_3 : Int32, y2_3 = nI k → ∀ (ls : Array Slot), lv_has ls 5 [(0, .ref (ad b)), (1, .int p), (2, .int q), (3, .int y2_3)] → W pg l en ({ frames := 4, cells := 0, slots := 0, locals := 94 } : Room) s m ([.ref (ad b), .int p, .int q] : List Value).toArray below meth c s.heap [] 0 0 Q (F0 m 2 ls []) := by
    intro fu
    induction fu with
    | zero =>
      intro k hk hf hr2
      exact absurd hf (by omega)
    | succ fu ih =>
      intro k hk hf hr2 y2_3 ey2_3
      intro ls hl
      replace ey2_3 := ey2_3.symm; subst ey2_3
      refine lv_iload_n hx hb dX5_fitsSights_2 rfl (lv_at hl 3 rfl) ?_
      refine lv_aload_n hx hb dX5_fitsSights_3 rfl (lv_at hl 0 rfl) ?_
      refine xg_get (C := RX5) (T := TX5) (N := 13) S hK hG (fun w h => List.mem_cons_of_mem _ (List.mem_append_right _ (h))) b hT.1 rfl 12 (by decide) k0 (fun _ h9 => h9) rfl dX5_fitsSights_4 ?_
      refine lv_icmp_ge (tgt := 68) hx hb dX5_fitsSights_7 (by decide) (fun c7 => ?_) (fun c7 => ?_)
      · skip
        have hk9 : k = ns := by have := xb_le (k := k) (n := ns) (by omega) (by omega) (by rw [← hns]; exact c7); omega
        refine lv_iconst (v := 1) hx hb dX5_fitsSights_68 (by decide) ?_
        rw [hQ]
        exact xg_erz S hr hlk rfl (by skip; (rw [hr2, hk9, Nat.sub_self]; rfl)) dX5_fitsSights_69
      · skip
        have hk9 : k < ns := xb_lt (by omega) (by omega) (by rw [← hns]; exact c7)
        refine lv_aload_n hx hb dX5_fitsSights_10 rfl (lv_at hl 0 rfl) ?_
        refine xg_get (C := RX5) (T := TX5) (N := 13) S hK hG (fun w h => List.mem_cons_of_mem _ (List.mem_append_right _ (h))) b hT.1 rfl 11 (by decide) k1 (fun _ h9 => h9) rfl dX5_fitsSights_11 ?_
        refine lv_iload_n hx hb dX5_fitsSights_14 rfl (lv_at hl 3 rfl) ?_
        refine xg_ri (va_runSN (As := [.ref (ad (b + 12)), .int (nI k)]) (rest := []) S (mX7_at l D cI cZ bs ad ws (b + 12) 6 (T 11) (show ws[b + 12]? = some (ad (b + 12), .inl (cI, 6, .inl (T 11))) from hT.2 11 (by decide)) (nI k) (by decide)) ⟨(va_cnB 2 hts gX5_fitsSights_X7_at_n59 rfl rfl rfl (hK.2.1 _ xg_nest_10) k2 (by decide +kernel) ⟨Nat.le_of_ble_eq_true rfl, Nat.le_of_ble_eq_true rfl⟩), k3, trivial⟩ (xg_preS hK hG) rfl rfl hl.1 rfl (lv_room (Nat.le_of_ble_eq_true rfl)) dX5_fitsSights_15 ⟨Nat.zero_le _, Nat.zero_le _⟩) (fun r1 hr1 => ?_)
        replace hr1 := hr1.symm; subst hr1
        refine lv_iconst (v := 1) hx hb dX5_fitsSights_18 (by decide) ?_
        have jn27_2 : ∀ v2 : Int32, v2 = (if (xb_at 6 (T 11) (nI k)) = 1 then 1 else 0) → W pg l en ({ frames := 4, cells := 0, slots := 0, locals := 94 } : Room) s m ([.ref (ad b), .int p, .int q] : List Value).toArray below meth c s.heap [] 0 0 Q (F0 m 27 ls [.int v2]) := by
          intro v2 ev2
          replace ev2 := ev2.symm
          refine lv_istore (lv' := [(4, .int v2), (0, .ref (ad b)), (1, .int p), (2, .int q), (3, .int (nI k))]) hx hb dX5_fitsSights_27 hl (by decide) rfl (fun ls hl => ?_)
          refine lv_aload_n hx hb dX5_fitsSights_29 rfl (lv_at hl 1 rfl) ?_
          refine xg_get (C := RX5) (T := TX5) (N := 13) S hK hG (fun w h => List.mem_cons_of_mem _ (List.mem_append_right _ (h))) b hT.1 rfl 9 (by decide) k4 (fun _ h9 => h9) rfl dX5_fitsSights_30 ?_
          refine lv_iload_n hx hb dX5_fitsSights_33 rfl (lv_at hl 4 rfl) ?_
          refine xg_ri (va_runSN (As := [.ref (ad (b + 10)), .int (nI k)]) (rest := []) S (mX7_at l D cI cZ bs ad ws (b + 10) 6 (T 9) (show ws[b + 10]? = some (ad (b + 10), .inl (cI, 6, .inl (T 9))) from hT.2 9 (by decide)) (nI k) (by decide)) ⟨(va_cnB 2 hts gX5_fitsSights_X7_at_n59 rfl rfl rfl (hK.2.1 _ xg_nest_10) k2 (by decide +kernel) ⟨Nat.le_of_ble_eq_true rfl, Nat.le_of_ble_eq_true rfl⟩), k3, trivial⟩ (xg_preS hK hG) rfl rfl hl.1 rfl (lv_room (Nat.le_of_ble_eq_true rfl)) dX5_fitsSights_34 ⟨Nat.zero_le _, Nat.zero_le _⟩) (fun r3 hr3 => ?_)
          replace hr3 := hr3.symm; subst hr3
          refine lv_iload_n hx hb dX5_fitsSights_37 rfl (lv_at hl 2 rfl) ?_
          refine lv_icmp_ne (tgt := 62) hx hb dX5_fitsSights_38 (by decide) (fun c38 => ?_) (fun c38 => ?_)
          · skip
            obtain ⟨x4, ex4⟩ : ∃ zz : Int32, (nI k) + 1 = zz := ⟨_, rfl⟩
            refine lv_iinc (v := x4) (lv' := [(3, .int x4), (4, .int v2), (0, .ref (ad b)), (1, .int p), (2, .int q)]) hx hb dX5_fitsSights_62 hl (k := 4) rfl (by rw [← ex4]; rfl) (by decide) rfl (fun ls hl => ?_)
            refine lv_goto (tgt := 2) hx hb dX5_fitsSights_65 (by decide) ?_
            exact ih (k + 1) (by omega) (by omega) (by rw [hr2, xw_all_S hk9]; subst ev2 ex4; simp [dt_fit, c7, c38]) x4 (by subst ev2 ex4; exact nI_1 k) ls (lv_sub hl [2, 3, 4, 0] rfl)
          · skip
            refine lv_aload_n hx hb dX5_fitsSights_41 rfl (lv_at hl 1 rfl) ?_
            refine lv_iload_n hx hb dX5_fitsSights_42 rfl (lv_at hl 2 rfl) ?_
            refine lv_aload_n hx hb dX5_fitsSights_43 rfl (lv_at hl 1 rfl) ?_
            refine xg_get (C := RX5) (T := TX5) (N := 13) S hK hG (fun w h => List.mem_cons_of_mem _ (List.mem_append_right _ (h))) b hT.1 rfl 10 (by decide) k5 (fun _ h9 => h9) rfl dX5_fitsSights_44 ?_
            refine lv_iload_n hx hb dX5_fitsSights_47 rfl (lv_at hl 4 rfl) ?_
            refine xg_ri (va_runSN (As := [.ref (ad (b + 11)), .int (nI k)]) (rest := [.int p, .ref (ad b)]) S (mX7_at l D cI cZ bs ad ws (b + 11) 6 (T 10) (show ws[b + 11]? = some (ad (b + 11), .inl (cI, 6, .inl (T 10))) from hT.2 10 (by decide)) (nI k) (by decide)) ⟨(va_cnB 2 hts gX5_fitsSights_X7_at_n59 rfl rfl rfl (hK.2.1 _ xg_nest_10) k2 (by decide +kernel) ⟨Nat.le_of_ble_eq_true rfl, Nat.le_of_ble_eq_true rfl⟩), k3, trivial⟩ (xg_preS hK hG) rfl rfl hl.1 rfl (lv_room (Nat.le_of_ble_eq_true rfl)) dX5_fitsSights_48 ⟨Nat.zero_le _, Nat.zero_le _⟩) (fun r5 hr5 => ?_)
            replace hr5 := hr5.symm; subst hr5
            refine lv_iload_n hx hb dX5_fitsSights_51 rfl (lv_at hl 3 rfl) ?_
            refine xg_ri (va_runV (As := [.int p, .int (xb_at 6 (T 10) (nI k)), .int q]) (rest := []) S (mX5_dares l D cI cZ bs ad ws b T hT p (xb_at 6 (T 10) (nI k)) q) (cwV 3 hts gX5_fitsSights_X5_dares rfl rfl rfl (by decide +kernel) ⟨Nat.le_of_ble_eq_true rfl, Nat.le_of_ble_eq_true rfl⟩) (xg_preV hK hG b hT.1 rfl rfl) rfl rfl hl.1 rfl (lv_room (Nat.le_of_ble_eq_true rfl)) dX5_fitsSights_52 ⟨Nat.zero_le _, Nat.zero_le _⟩) (fun r6 hr6 => ?_)
            replace hr6 := hr6.symm; subst hr6
            refine lv_iload hx hb dX5_fitsSights_55 (lv_at hl 0 rfl) ?_
            refine lv_icmp_eq (tgt := 62) hx hb dX5_fitsSights_57 (by decide) (fun c57 => ?_) (fun c57 => ?_)
            · skip
              obtain ⟨x7, ex7⟩ : ∃ zz : Int32, (nI k) + 1 = zz := ⟨_, rfl⟩
              refine lv_iinc (v := x7) (lv' := [(3, .int x7), (4, .int v2), (0, .ref (ad b)), (1, .int p), (2, .int q)]) hx hb dX5_fitsSights_62 hl (k := 4) rfl (by rw [← ex7]; rfl) (by decide) rfl (fun ls hl => ?_)
              refine lv_goto (tgt := 2) hx hb dX5_fitsSights_65 (by decide) ?_
              exact ih (k + 1) (by omega) (by omega) (by rw [hr2, xw_all_S hk9]; subst ev2 ex7; simp [dt_fit, c7, c38, c57]) x7 (by subst ev2 ex7; exact nI_1 k) ls (lv_sub hl [2, 3, 4, 0] rfl)
            · skip
              refine lv_iconst (v := 0) hx hb dX5_fitsSights_60 (by decide) ?_
              rw [hQ]
              exact xg_erz S hr hlk rfl (by subst ev2; (rw [hr2, xw_all_S hk9, if_neg (by simp [dt_fit, c7, c38, c57])]; rfl)) dX5_fitsSights_61
        refine lv_icmp_ne (tgt := 26) hx hb dX5_fitsSights_19 (by decide) (fun c19 => ?_) (fun c19 => ?_)
        · skip
          refine lv_iconst (v := 0) hx hb dX5_fitsSights_26 (by decide) ?_
          exact jn27_2 _ (by rw [if_neg c19])
        · skip
          refine lv_iconst (v := 1) hx hb dX5_fitsSights_22 (by decide) ?_
          refine lv_goto (tgt := 27) hx hb dX5_fitsSights_23 (by decide) ?_
          exact jn27_2 _ (by rw [if_pos c19])
  exact lp2 (ns + 1) 0 (by omega) (by omega) rfl 0 (by skip; rfl) ls (lv_sub hl [1, 2, 3, 0] rfl)
