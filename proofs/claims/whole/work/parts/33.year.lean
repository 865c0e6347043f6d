set_option maxHeartbeats 4000000 in
set_option maxRecDepth 100000 in
theorem mX6_dare (l : Launch) (D : va_G) (cI cZ : ClassId) (bs : Nat) (ad : Nat → Nat) (ws : va_W) (b : Nat) (dn : Int32) (rf : Int32) (hu : Int32) (hO : ws[b]? = some (ad b, .inr (6, [.ref (ad (b + 1)), .int dn, .int rf, .int hu]))) (T : Nat → Nat → Int32) (hT : xv_T cI ad ws (b + 1) T) (p : Int32) (p2 : Int32) : Met l yX6_dare wsX6_dare ({ frames := 4, cells := 0, slots := 0, locals := 94 } : Room) (va_Pc [.ref (ad b), .int p, .int p2] (fun U => xg_W D cI cZ bs ws U)) (va_Qv (fun w : va_W => w[b]? = some (ad b, .inr (6, [.ref (ad (b + 1)), .int ((dy_dar p p2 (T, dn, rf, hu)).2.1), .int ((dy_dar p p2 (T, dn, rf, hu)).2.2.1), .int ((dy_dar p p2 (T, dn, rf, hu)).2.2.2)])) ∧ xv_T cI ad w (b + 1) ((dy_dar p p2 (T, dn, rf, hu)).1) ∧ xv_S ws w b 14) (fun w t => xg_W D cI cZ bs w t) (xg_A bs)) 0 0 (xg_A bs) := by
  refine xg_met cX6_dare 4 none RX6 (by decide) rfl rfl (Nat.le_of_ble_eq_true rfl) ?_
  intro pg en s m below meth c ls S hr hlk hnm hB hl
  have hK := hB.1
  have hG := xg_start hB
  obtain ⟨hx, hb, hml, hown, hts⟩ := id S
  have hl : lv_has ls 4 [(0, .ref (ad b)), (1, .int p), (2, .int p2)] := hl
  obtain ⟨Q, hQ⟩ : ∃ Q, Q = MQ below (va_Qv (fun w : va_W => w[b]? = some (ad b, .inr (6, [.ref (ad (b + 1)), .int ((dy_dar p p2 (T, dn, rf, hu)).2.1), .int ((dy_dar p p2 (T, dn, rf, hu)).2.2.1), .int ((dy_dar p p2 (T, dn, rf, hu)).2.2.2)])) ∧ xv_T cI ad w (b + 1) ((dy_dar p p2 (T, dn, rf, hu)).1) ∧ xv_S ws w b 14) (fun w t => xg_W D cI cZ bs w t) (xg_A bs)) ([.ref (ad b), .int p, .int p2] : List Value).toArray s 0 0 (xg_A bs) := ⟨_, rfl⟩
  rw [← hQ]
  have k0 := hts (.fieldLink RX6 12 "DareBridge$Year" "town" "LDareBridge$Town;") (List.mem_of_getElem? (i := 1) rfl)
  have k1 := hts (.fieldLink RX6 43 "DareBridge$Town" "high" "[I") (List.mem_of_getElem? (i := 2) rfl)
  have k2 := hts (.initialized RX7) (List.mem_of_getElem? (i := 11) rfl)
  have k3 := hts (.static yX7_at) (List.mem_of_getElem? (i := 10) rfl)
  have k4 := hts (.methodLink RX6 54 Lib.Math.min.name) (List.mem_of_getElem? (i := 3) rfl)
  have k5 := hts (.static Lib.Math.min.name) (List.mem_of_getElem? (i := 4) rfl)
  have k6 := hts (.initialized "java/lang/Math") (List.mem_of_getElem? (i := 5) rfl)
  have k7 := hts (.code Lib.Math.min.name Lib.Math.min.code 2 (some .int)) (List.mem_of_getElem? (i := 6) rfl)
  have k8 := hts (.fieldLink RX6 22 "DareBridge$Year" "done" "I") (List.mem_of_getElem? (i := 8) rfl)
  have k9 := hts (.fieldLink RX6 29 "DareBridge$Year" "hurt" "I") (List.mem_of_getElem? (i := 9) rfl)
  have k10 := hts (.fieldLink RX6 26 "DareBridge$Year" "refused" "I") (List.mem_of_getElem? (i := 7) rfl)
  refine lv_bipush (v := 15) hx hb dX6_dare_0 (by decide) ?_
  refine lv_aload_n hx hb dX6_dare_2 rfl (lv_at hl 0 rfl) ?_
  refine xg_get (C := RX6) (T := TX6) (N := 4) S hK hG (fun w h => List.mem_cons_of_mem _ (List.mem_append_left _ (List.mem_append_right _ (h)))) b hO rfl 0 (by decide) k0 (fun _ h9 => h9) rfl dX6_dare_3 ?_
  refine xg_get (C := RX5) (T := TX5) (N := 13) S hK hG (fun w h => List.mem_cons_of_mem _ (List.mem_append_right _ (h))) (b + 1) hT.1 rfl 6 (by decide) k1 (fun _ h9 => h9) rfl dX6_dare_6 ?_
  refine lv_iload_n hx hb dX6_dare_9 rfl (lv_at hl 1 rfl) ?_
  refine xg_ri (va_runSN (As := [.ref (ad (b + 8)), .int p]) (rest := [.int 15]) S (mX7_at l D cI cZ bs ad ws (b + 8) 6 (T 6) (show ws[b + 8]? = some (ad (b + 8), .inl (cI, 6, .inl (T 6))) from hT.2 6 (by decide)) p (by decide)) ⟨(va_cnB 2 hts gX6_dare_X7_at_n47 rfl rfl rfl (hK.2.1 _ xg_nest_18) k2 (by decide +kernel) ⟨Nat.le_of_ble_eq_true rfl, Nat.le_of_ble_eq_true rfl⟩), k3, trivial⟩ (xg_preS hK hG) rfl rfl hl.1 rfl (lv_room (Nat.le_of_ble_eq_true rfl)) dX6_dare_10 ⟨Nat.zero_le _, Nat.zero_le _⟩) (fun r1 hr1 => ?_)
  replace hr1 := hr1.symm; subst hr1
  refine lv_aload_n hx hb dX6_dare_13 rfl (lv_at hl 0 rfl) ?_
  refine xg_get (C := RX6) (T := TX6) (N := 4) S hK hG (fun w h => List.mem_cons_of_mem _ (List.mem_append_left _ (List.mem_append_right _ (h)))) b hO rfl 0 (by decide) k0 (fun _ h9 => h9) rfl dX6_dare_14 ?_
  refine lv_iconst (v := 0) hx hb dX6_dare_17 (by decide) ?_
  refine xg_ri (va_runV (As := [.int 0]) (rest := [.int (xb_at 6 (T 6) p), .int 15]) S (mX5_rule l D cI cZ bs ad ws (b + 1) T hT 0) (cwV 1 hts gX6_dare_X5_rule rfl rfl rfl (by decide +kernel) ⟨Nat.le_of_ble_eq_true rfl, Nat.le_of_ble_eq_true rfl⟩) (xg_preV hK hG (b + 1) hT.1 rfl rfl) rfl rfl hl.1 rfl (lv_room (Nat.le_of_ble_eq_true rfl)) dX6_dare_18 ⟨Nat.zero_le _, Nat.zero_le _⟩) (fun r2 hr2 => ?_)
  replace hr2 := hr2.symm; subst hr2
  refine lv_iadd hx hb dX6_dare_21 ?_
  refine va_mmin hx hb (hml.trans hl.1.symm) hown k4 k5 k6 k7 (Nat.le_of_ble_eq_true rfl) (Nat.le_of_ble_eq_true rfl) (Nat.zero_le _) (Nat.zero_le _) dX6_dare_22 ?_
  refine lv_topi (fun x3 ex3 => ?_)
  replace ex3 := ex3.symm
  refine lv_istore_n (lv' := [(3, .int x3), (0, .ref (ad b)), (1, .int p), (2, .int p2)]) hx hb dX6_dare_25 rfl hl (by decide) rfl (fun ls hl => ?_)
  refine lv_aload_n hx hb dX6_dare_26 rfl (lv_at hl 1 rfl) ?_
  refine xg_get (C := RX6) (T := TX6) (N := 4) S hK hG (fun w h => List.mem_cons_of_mem _ (List.mem_append_left _ (List.mem_append_right _ (h)))) b hO rfl 0 (by decide) k0 (fun _ h9 => h9) rfl dX6_dare_27 ?_
  refine lv_iload_n hx hb dX6_dare_30 rfl (lv_at hl 2 rfl) ?_
  refine lv_iload_n hx hb dX6_dare_31 rfl (lv_at hl 3 rfl) ?_
  refine lv_iload_n hx hb dX6_dare_32 rfl (lv_at hl 0 rfl) ?_
  refine xg_ri (va_runV (As := [.int p, .int p2, .int x3]) (rest := []) S (mX5_whyNot l D cI cZ bs ad ws (b + 1) T hT p p2 x3) (cwV 3 hts gX6_dare_X5_whyNot rfl rfl rfl (by decide +kernel) ⟨Nat.le_of_ble_eq_true rfl, Nat.le_of_ble_eq_true rfl⟩) (xg_preV hK hG (b + 1) hT.1 rfl rfl) rfl rfl hl.1 rfl (lv_room (Nat.le_of_ble_eq_true rfl)) dX6_dare_33 ⟨Nat.zero_le _, Nat.zero_le _⟩) (fun r4 hr4 => ?_)
  replace hr4 := hr4.symm; subst hr4
  refine lv_if_eq (tgt := 40) hx hb dX6_dare_36 (by decide) (fun c36 => ?_) (fun c36 => ?_)
  · skip
    refine lv_aload_n hx hb dX6_dare_40 rfl (lv_at hl 1 rfl) ?_
    refine xg_get (C := RX6) (T := TX6) (N := 4) S hK hG (fun w h => List.mem_cons_of_mem _ (List.mem_append_left _ (List.mem_append_right _ (h)))) b hO rfl 0 (by decide) k0 (fun _ h9 => h9) rfl dX6_dare_41 ?_
    refine lv_iload_n hx hb dX6_dare_44 rfl (lv_at hl 3 rfl) ?_
    refine lv_iload_n hx hb dX6_dare_45 rfl (lv_at hl 0 rfl) ?_
    refine lv_aload_n hx hb dX6_dare_46 rfl (lv_at hl 1 rfl) ?_
    refine xg_get (C := RX6) (T := TX6) (N := 4) S hK hG (fun w h => List.mem_cons_of_mem _ (List.mem_append_left _ (List.mem_append_right _ (h)))) b hO rfl 0 (by decide) k0 (fun _ h9 => h9) rfl dX6_dare_47 ?_
    refine lv_iload_n hx hb dX6_dare_50 rfl (lv_at hl 3 rfl) ?_
    refine xg_ri (va_runV (As := [.int p2]) (rest := [.int x3, .int p2, .ref (ad (b + 1))]) S (mX5_prideOf l D cI cZ bs ad ws (b + 1) T hT p2) (cwV 1 hts gX6_dare_X5_prideOf rfl rfl rfl (by decide +kernel) ⟨Nat.le_of_ble_eq_true rfl, Nat.le_of_ble_eq_true rfl⟩) (xg_preV hK hG (b + 1) hT.1 rfl rfl) rfl rfl hl.1 rfl (lv_room (Nat.le_of_ble_eq_true rfl)) dX6_dare_51 ⟨Nat.zero_le _, Nat.zero_le _⟩) (fun r5 hr5 => ?_)
    replace hr5 := hr5.symm; subst hr5
    refine xg_ri (va_runV (As := [.int p2, .int x3, .int (dt_prd T p2)]) (rest := []) S (mX5_dares l D cI cZ bs ad ws (b + 1) T hT p2 x3 (dt_prd T p2)) (cwV 3 hts gX6_dare_X5_dares rfl rfl rfl (by decide +kernel) ⟨Nat.le_of_ble_eq_true rfl, Nat.le_of_ble_eq_true rfl⟩) (xg_preV hK hG (b + 1) hT.1 rfl rfl) rfl rfl hl.1 rfl (lv_room (Nat.le_of_ble_eq_true rfl)) dX6_dare_54 ⟨Nat.zero_le _, Nat.zero_le _⟩) (fun r6 hr6 => ?_)
    replace hr6 := hr6.symm; subst hr6
    refine xb_ifne (tgt := 80) S dX6_dare_57 (by decide) (fun c57 => ?_) (fun c57 => ?_)
    · skip
      refine lv_aload_n hx hb dX6_dare_80 rfl (lv_at hl 1 rfl) ?_
      refine lv_dup hx hb dX6_dare_81 rfl ?_
      refine xg_get (C := RX6) (T := TX6) (N := 4) S hK hG (fun w h => List.mem_cons_of_mem _ (List.mem_append_left _ (List.mem_append_right _ (h)))) b hO rfl 1 (by decide) k8 (fun _ h9 => h9) rfl dX6_dare_82 ?_
      refine lv_iconst (v := 1) hx hb dX6_dare_85 (by decide) ?_
      refine lv_iadd hx hb dX6_dare_86 ?_
      refine xg_put2 (C := RX6) (T := TX6) (N := 4) (v := .int (dn + 1)) (ty := .int) S hK hG (fun w h => List.mem_cons_of_mem _ (List.mem_append_left _ (List.mem_append_right _ (h)))) tyX6 tyX6_ok nmX6 b hO rfl 1 (by decide) k8 (fun _ h9 => h9) rfl (by decide +kernel) rfl rfl (Nat.le_of_ble_eq_true rfl) dX6_dare_87 (fun w7 H locs hw7 hG => ?_)
      have hs8 : xv_S ws w7 b 1 := by rw [hw7]; exact xv_S.set (by omega) (by omega)
      obtain ⟨x9, ex9⟩ : ∃ zz : Int32, dn + 1 = zz := ⟨_, rfl⟩
      have hO : w7[b]? = some (ad b, .inr (6, [.ref (ad (b + 1)), .int x9, .int rf, .int hu])) := by rw [hw7, ← ex9]; exact xv_self hO
      have hT : xv_T cI ad w7 (b + 1) T := hT.of_S hs8 (by omega)
      have hSw7 : xv_S ws w7 b 14 := hs8.mono (by omega) (by omega)
      refine lv_aload_n hx hb dX6_dare_90 rfl (lv_at hl 1 rfl) ?_
      refine xg_get (C := RX6) (T := TX6) (N := 4) S hK hG (fun w h => List.mem_cons_of_mem _ (List.mem_append_left _ (List.mem_append_right _ (h)))) b hO rfl 0 (by decide) k0 (fun _ h9 => h9) rfl dX6_dare_91 ?_
      refine lv_iload_n hx hb dX6_dare_94 rfl (lv_at hl 3 rfl) ?_
      refine lv_iload_n hx hb dX6_dare_95 rfl (lv_at hl 0 rfl) ?_
      refine xg_mi (va_runV (As := [.int p2, .int x3]) (rest := []) S (mX5_perform l D cI cZ bs ad w7 (b + 1) T hT p2 x3) (cwV 2 hts gX6_dare_X5_perform rfl rfl rfl (by decide +kernel) ⟨Nat.le_of_ble_eq_true rfl, Nat.le_of_ble_eq_true rfl⟩) (xg_preV hK hG (b + 1) hT.1 rfl rfl) rfl rfl hl.1 rfl (lv_room (Nat.le_of_ble_eq_true rfl)) dX6_dare_96 ⟨Nat.zero_le _, Nat.zero_le _⟩) hG (fun r10 w11 H locs hr10 hG => ?_)
      obtain ⟨hr10, hvw11_0, hsw11⟩ := hr10
      replace hr10 := hr10.symm; subst hr10
      have hT : xv_T cI ad w11 (b + 1) (dt_pfT T p2 x3) := hvw11_0
      obtain ⟨T12, eT12⟩ : ∃ zz : Nat → Nat → Int32, dt_pfT T p2 x3 = zz := ⟨_, rfl⟩
      rw [eT12] at hT
      have hO : w11[b]? = some (ad b, .inr (6, [.ref (ad (b + 1)), .int x9, .int rf, .int hu])) := hsw11.at hO (by omega)
      have hSw11 : xv_S ws w11 b 14 := hSw7.trans (hsw11.mono (by omega) (by omega))
      refine xb_ifeq (tgt := 112) S dX6_dare_99 (by decide) (fun c99 => ?_) (fun c99 => ?_)
      · skip
        rw [hQ]
        exact xg_emv S hr hlk hK hG ⟨(by rw [show ((dy_dar p p2 (T, dn, rf, hu)).2.1) = x9 from (by subst ex3 ex9 eT12; simp only [dy_dar, dy_h, xw_mn, c36, c57, c99, if_true, if_false, Bool.false_eq_true])]; rw [show ((dy_dar p p2 (T, dn, rf, hu)).2.2.1) = rf from (by subst ex3 ex9 eT12; simp only [dy_dar, dy_h, xw_mn, c36, c57, c99, if_true, if_false, Bool.false_eq_true])]; rw [show ((dy_dar p p2 (T, dn, rf, hu)).2.2.2) = hu from (by subst ex3 ex9 eT12; simp only [dy_dar, dy_h, xw_mn, c36, c57, c99, if_true, if_false, Bool.false_eq_true])]; exact hO), (by rw [show ((dy_dar p p2 (T, dn, rf, hu)).1) = T12 from (by subst ex3 ex9 eT12; simp only [dy_dar, dy_h, xw_mn, c36, c57, c99, if_true, if_false, Bool.false_eq_true])]; exact hT), hSw11⟩ dX6_dare_112
      · skip
        refine lv_aload_n hx hb dX6_dare_102 rfl (lv_at hl 1 rfl) ?_
        refine lv_dup hx hb dX6_dare_103 rfl ?_
        refine xg_get (C := RX6) (T := TX6) (N := 4) S hK hG (fun w h => List.mem_cons_of_mem _ (List.mem_append_left _ (List.mem_append_right _ (h)))) b hO rfl 3 (by decide) k9 (fun _ h9 => h9) rfl dX6_dare_104 ?_
        refine lv_iconst (v := 1) hx hb dX6_dare_107 (by decide) ?_
        refine lv_iadd hx hb dX6_dare_108 ?_
        refine xg_put2 (C := RX6) (T := TX6) (N := 4) (v := .int (hu + 1)) (ty := .int) S hK hG (fun w h => List.mem_cons_of_mem _ (List.mem_append_left _ (List.mem_append_right _ (h)))) tyX6 tyX6_ok nmX6 b hO rfl 3 (by decide) k9 (fun _ h9 => h9) rfl (by decide +kernel) rfl rfl (Nat.le_of_ble_eq_true rfl) dX6_dare_109 (fun w13 H locs hw13 hG => ?_)
        have hs14 : xv_S w11 w13 b 1 := by rw [hw13]; exact xv_S.set (by omega) (by omega)
        obtain ⟨x15, ex15⟩ : ∃ zz : Int32, hu + 1 = zz := ⟨_, rfl⟩
        have hO : w13[b]? = some (ad b, .inr (6, [.ref (ad (b + 1)), .int x9, .int rf, .int x15])) := by rw [hw13, ← ex15]; exact xv_self hO
        have hT : xv_T cI ad w13 (b + 1) T12 := hT.of_S hs14 (by omega)
        have hSw13 : xv_S ws w13 b 14 := hSw11.trans (hs14.mono (by omega) (by omega))
        rw [hQ]
        exact xg_emv S hr hlk hK hG ⟨(by rw [show ((dy_dar p p2 (T, dn, rf, hu)).2.1) = x9 from (by subst ex3 ex9 eT12 ex15; simp only [dy_dar, dy_h, xw_mn, c36, c57, c99, if_true, if_false, Bool.false_eq_true])]; rw [show ((dy_dar p p2 (T, dn, rf, hu)).2.2.1) = rf from (by subst ex3 ex9 eT12 ex15; simp only [dy_dar, dy_h, xw_mn, c36, c57, c99, if_true, if_false, Bool.false_eq_true])]; rw [show ((dy_dar p p2 (T, dn, rf, hu)).2.2.2) = x15 from (by subst ex3 ex9 eT12 ex15; simp only [dy_dar, dy_h, xw_mn, c36, c57, c99, if_true, if_false, Bool.false_eq_true])]; exact hO), (by rw [show ((dy_dar p p2 (T, dn, rf, hu)).1) = T12 from (by subst ex3 ex9 eT12 ex15; simp only [dy_dar, dy_h, xw_mn, c36, c57, c99, if_true, if_false, Bool.false_eq_true])]; exact hT), hSw13⟩ dX6_dare_112
    · skip
      refine lv_aload_n hx hb dX6_dare_60 rfl (lv_at hl 1 rfl) ?_
      refine lv_dup hx hb dX6_dare_61 rfl ?_
      refine xg_get (C := RX6) (T := TX6) (N := 4) S hK hG (fun w h => List.mem_cons_of_mem _ (List.mem_append_left _ (List.mem_append_right _ (h)))) b hO rfl 2 (by decide) k10 (fun _ h9 => h9) rfl dX6_dare_62 ?_
      refine lv_iconst (v := 1) hx hb dX6_dare_65 (by decide) ?_
      refine lv_iadd hx hb dX6_dare_66 ?_
      refine xg_put2 (C := RX6) (T := TX6) (N := 4) (v := .int (rf + 1)) (ty := .int) S hK hG (fun w h => List.mem_cons_of_mem _ (List.mem_append_left _ (List.mem_append_right _ (h)))) tyX6 tyX6_ok nmX6 b hO rfl 2 (by decide) k10 (fun _ h9 => h9) rfl (by decide +kernel) rfl rfl (Nat.le_of_ble_eq_true rfl) dX6_dare_67 (fun w16 H locs hw16 hG => ?_)
      have hs17 : xv_S ws w16 b 1 := by rw [hw16]; exact xv_S.set (by omega) (by omega)
      obtain ⟨x18, ex18⟩ : ∃ zz : Int32, rf + 1 = zz := ⟨_, rfl⟩
      have hO : w16[b]? = some (ad b, .inr (6, [.ref (ad (b + 1)), .int dn, .int x18, .int hu])) := by rw [hw16, ← ex18]; exact xv_self hO
      have hT : xv_T cI ad w16 (b + 1) T := hT.of_S hs17 (by omega)
      have hSw16 : xv_S ws w16 b 14 := hs17.mono (by omega) (by omega)
      refine lv_aload_n hx hb dX6_dare_70 rfl (lv_at hl 1 rfl) ?_
      refine xg_get (C := RX6) (T := TX6) (N := 4) S hK hG (fun w h => List.mem_cons_of_mem _ (List.mem_append_left _ (List.mem_append_right _ (h)))) b hO rfl 0 (by decide) k0 (fun _ h9 => h9) rfl dX6_dare_71 ?_
      refine lv_iload_n hx hb dX6_dare_74 rfl (lv_at hl 3 rfl) ?_
      refine lv_iload_n hx hb dX6_dare_75 rfl (lv_at hl 0 rfl) ?_
      refine xg_mv (va_runV (As := [.int p2, .int x3]) (rest := []) S (mX5_refuse l D cI cZ bs ad w16 (b + 1) T hT p2 x3) (cwV 2 hts gX6_dare_X5_refuse rfl rfl rfl (by decide +kernel) ⟨Nat.le_of_ble_eq_true rfl, Nat.le_of_ble_eq_true rfl⟩) (xg_preV hK hG (b + 1) hT.1 rfl rfl) rfl rfl hl.1 rfl (lv_room (Nat.le_of_ble_eq_true rfl)) dX6_dare_76 ⟨Nat.zero_le _, Nat.zero_le _⟩) hG (fun w20 H locs hr19 hG => ?_)
      obtain ⟨hvw20_0, hsw20⟩ := hr19
      have hT : xv_T cI ad w20 (b + 1) (dt_ref T p2 x3) := hvw20_0
      obtain ⟨T21, eT21⟩ : ∃ zz : Nat → Nat → Int32, dt_ref T p2 x3 = zz := ⟨_, rfl⟩
      rw [eT21] at hT
      have hO : w20[b]? = some (ad b, .inr (6, [.ref (ad (b + 1)), .int dn, .int x18, .int hu])) := hsw20.at hO (by omega)
      have hSw20 : xv_S ws w20 b 14 := hSw16.trans (hsw20.mono (by omega) (by omega))
      rw [hQ]
      exact xg_emv S hr hlk hK hG ⟨(by rw [show ((dy_dar p p2 (T, dn, rf, hu)).2.1) = dn from (by subst ex3 ex18 eT21; simp only [dy_dar, dy_h, xw_mn, c36, c57, if_true, if_false, Bool.false_eq_true])]; rw [show ((dy_dar p p2 (T, dn, rf, hu)).2.2.1) = x18 from (by subst ex3 ex18 eT21; simp only [dy_dar, dy_h, xw_mn, c36, c57, if_true, if_false, Bool.false_eq_true])]; rw [show ((dy_dar p p2 (T, dn, rf, hu)).2.2.2) = hu from (by subst ex3 ex18 eT21; simp only [dy_dar, dy_h, xw_mn, c36, c57, if_true, if_false, Bool.false_eq_true])]; exact hO), (by rw [show ((dy_dar p p2 (T, dn, rf, hu)).1) = T21 from (by subst ex3 ex18 eT21; simp only [dy_dar, dy_h, xw_mn, c36, c57, if_true, if_false, Bool.false_eq_true])]; exact hT), hSw20⟩ dX6_dare_79
  · skip
    rw [hQ]
    exact xg_emv S hr hlk hK hG ⟨(by rw [show ((dy_dar p p2 (T, dn, rf, hu)).2.1) = dn from (by subst ex3; simp only [dy_dar, dy_h, xw_mn, c36, if_true, if_false, Bool.false_eq_true])]; rw [show ((dy_dar p p2 (T, dn, rf, hu)).2.2.1) = rf from (by subst ex3; simp only [dy_dar, dy_h, xw_mn, c36, if_true, if_false, Bool.false_eq_true])]; rw [show ((dy_dar p p2 (T, dn, rf, hu)).2.2.2) = hu from (by subst ex3; simp only [dy_dar, dy_h, xw_mn, c36, if_true, if_false, Bool.false_eq_true])]; exact hO), (by rw [show ((dy_dar p p2 (T, dn, rf, hu)).1) = T from (by subst ex3; simp only [dy_dar, dy_h, xw_mn, c36, if_true, if_false, Bool.false_eq_true])]; exact hT), xv_S.rf⟩ dX6_dare_39
set_option maxHeartbeats 4000000 in
set_option maxRecDepth 100000 in
theorem mX6_pass (l : Launch) (D : va_G) (cI cZ : ClassId) (bs : Nat) (ad : Nat → Nat) (ws : va_W) (b : Nat) (b2 : Nat) (dn : Int32) (rf : Int32) (hu : Int32) (hO : ws[b]? = some (ad b, .inr (6, [.ref (ad (b + 1)), .int dn, .int rf, .int hu]))) (T : Nat → Nat → Int32) (hT : xv_T cI ad ws (b + 1) T) (U : Nat → Nat → Int32) (hU : xv_T cI ad ws b2 U) (seed : Int32) (n : Int32) (nn : Nat) (hnn : n = nI nn) (hn99 : nn ≤ 99) (hbc : b + 14 ≤ b2 ∨ b2 + 13 ≤ b) : Met l yX6_pass wsX6_pass ({ frames := 5, cells := 0, slots := 0, locals := 117 } : Room) (va_Pc [.ref (ad b), .ref (ad b2), .int seed, .int n] (fun U => xg_W D cI cZ bs ws U)) (va_Qv (fun w : va_W => w[b]? = some (ad b, .inr (6, [.ref (ad (b + 1)), .int ((dy_run U seed nn).2.2.1), .int ((dy_run U seed nn).2.2.2.1), .int ((dy_run U seed nn).2.2.2.2)])) ∧ xv_T cI ad w (b + 1) ((dy_run U seed nn).2.1) ∧ xv_T cI ad w b2 U ∧ xv_S ws w b 14) (fun w t => xg_W D cI cZ bs w t) (xg_A bs)) 0 0 (xg_A bs) := by
  refine xg_met cX6_pass 6 none RX6 (by decide) rfl rfl (Nat.le_of_ble_eq_true rfl) ?_
  intro pg en s m below meth c ls S hr hlk hnm hB hl
  have hK := hB.1
  have hG := xg_start hB
  obtain ⟨hx, hb, hml, hown, hts⟩ := id S
  have hl : lv_has ls 6 [(0, .ref (ad b)), (1, .ref (ad b2)), (2, .int seed), (3, .int n)] := hl
  obtain ⟨Q, hQ⟩ : ∃ Q, Q = MQ below (va_Qv (fun w : va_W => w[b]? = some (ad b, .inr (6, [.ref (ad (b + 1)), .int ((dy_run U seed nn).2.2.1), .int ((dy_run U seed nn).2.2.2.1), .int ((dy_run U seed nn).2.2.2.2)])) ∧ xv_T cI ad w (b + 1) ((dy_run U seed nn).2.1) ∧ xv_T cI ad w b2 U ∧ xv_S ws w b 14) (fun w t => xg_W D cI cZ bs w t) (xg_A bs)) ([.ref (ad b), .ref (ad b2), .int seed, .int n] : List Value).toArray s 0 0 (xg_A bs) := ⟨_, rfl⟩
  rw [← hQ]
  have k0 := hts (.fieldLink RX6 12 "DareBridge$Year" "town" "LDareBridge$Town;") (List.mem_of_getElem? (i := 1) rfl)
  have k1 := hts (.fieldLink RX6 22 "DareBridge$Year" "done" "I") (List.mem_of_getElem? (i := 2) rfl)
  have k2 := hts (.fieldLink RX6 26 "DareBridge$Year" "refused" "I") (List.mem_of_getElem? (i := 3) rfl)
  have k3 := hts (.fieldLink RX6 29 "DareBridge$Year" "hurt" "I") (List.mem_of_getElem? (i := 4) rfl)
  have k4 := hts (.initialized RX7) (List.mem_of_getElem? (i := 24) rfl)
  have k5 := hts (.static yX7_drawAfter) (List.mem_of_getElem? (i := 32) rfl)
  refine lv_aload_n hx hb dX6_pass_0 rfl (lv_at hl 0 rfl) ?_
  refine xg_get (C := RX6) (T := TX6) (N := 4) S hK hG (fun w h => List.mem_cons_of_mem _ (List.mem_append_left _ (List.mem_append_right _ (h)))) b hO rfl 0 (by decide) k0 (fun _ h9 => h9) rfl dX6_pass_1 ?_
  refine lv_aload_n hx hb dX6_pass_4 rfl (lv_at hl 1 rfl) ?_
  refine xg_mv (va_runV (As := [.ref (ad b2)]) (rest := []) S (mX5_copyFrom l D cI cZ bs ad ws (b + 1) b2 T hT U hU (by omega)) (cwV 1 hts gX6_pass_X5_copyFrom rfl rfl rfl (by decide +kernel) ⟨Nat.le_of_ble_eq_true rfl, Nat.le_of_ble_eq_true rfl⟩) (xg_preV hK hG (b + 1) hT.1 rfl rfl) rfl rfl hl.1 rfl (lv_room (Nat.le_of_ble_eq_true rfl)) dX6_pass_5 ⟨Nat.zero_le _, Nat.zero_le _⟩) hG (fun w2 H locs hr1 hG => ?_)
  obtain ⟨hvw2_0, hvw2_1, hsw2⟩ := hr1
  have hT : xv_T cI ad w2 (b + 1) U := hvw2_0
  have hU : xv_T cI ad w2 b2 U := hvw2_1
  have hO : w2[b]? = some (ad b, .inr (6, [.ref (ad (b + 1)), .int dn, .int rf, .int hu])) := hsw2.at hO (by omega)
  have hSw2 : xv_S ws w2 b 14 := hsw2.mono (by omega) (by omega)
  refine lv_aload_n hx hb dX6_pass_8 rfl (lv_at hl 0 rfl) ?_
  refine lv_iconst (v := 0) hx hb dX6_pass_9 (by decide) ?_
  refine xg_put2 (C := RX6) (T := TX6) (N := 4) (v := .int 0) (ty := .int) S hK hG (fun w h => List.mem_cons_of_mem _ (List.mem_append_left _ (List.mem_append_right _ (h)))) tyX6 tyX6_ok nmX6 b hO rfl 1 (by decide) k1 (fun _ h9 => h9) rfl (by decide +kernel) rfl rfl (Nat.le_of_ble_eq_true rfl) dX6_pass_10 (fun w3 H locs hw3 hG => ?_)
  have hs4 : xv_S w2 w3 b 1 := by rw [hw3]; exact xv_S.set (by omega) (by omega)
  have hO : w3[b]? = some (ad b, .inr (6, [.ref (ad (b + 1)), .int 0, .int rf, .int hu])) := by rw [hw3]; exact xv_self hO
  have hT : xv_T cI ad w3 (b + 1) U := hT.of_S hs4 (by omega)
  have hU : xv_T cI ad w3 b2 U := hU.of_S hs4 (by omega)
  have hSw3 : xv_S ws w3 b 14 := hSw2.trans (hs4.mono (by omega) (by omega))
  refine lv_aload_n hx hb dX6_pass_13 rfl (lv_at hl 0 rfl) ?_
  refine lv_iconst (v := 0) hx hb dX6_pass_14 (by decide) ?_
  refine xg_put2 (C := RX6) (T := TX6) (N := 4) (v := .int 0) (ty := .int) S hK hG (fun w h => List.mem_cons_of_mem _ (List.mem_append_left _ (List.mem_append_right _ (h)))) tyX6 tyX6_ok nmX6 b hO rfl 2 (by decide) k2 (fun _ h9 => h9) rfl (by decide +kernel) rfl rfl (Nat.le_of_ble_eq_true rfl) dX6_pass_15 (fun w5 H locs hw5 hG => ?_)
  have hs6 : xv_S w3 w5 b 1 := by rw [hw5]; exact xv_S.set (by omega) (by omega)
  have hO : w5[b]? = some (ad b, .inr (6, [.ref (ad (b + 1)), .int 0, .int 0, .int hu])) := by rw [hw5]; exact xv_self hO
  have hT : xv_T cI ad w5 (b + 1) U := hT.of_S hs6 (by omega)
  have hU : xv_T cI ad w5 b2 U := hU.of_S hs6 (by omega)
  have hSw5 : xv_S ws w5 b 14 := hSw3.trans (hs6.mono (by omega) (by omega))
  refine lv_aload_n hx hb dX6_pass_18 rfl (lv_at hl 0 rfl) ?_
  refine lv_iconst (v := 0) hx hb dX6_pass_19 (by decide) ?_
  refine xg_put2 (C := RX6) (T := TX6) (N := 4) (v := .int 0) (ty := .int) S hK hG (fun w h => List.mem_cons_of_mem _ (List.mem_append_left _ (List.mem_append_right _ (h)))) tyX6 tyX6_ok nmX6 b hO rfl 3 (by decide) k3 (fun _ h9 => h9) rfl (by decide +kernel) rfl rfl (Nat.le_of_ble_eq_true rfl) dX6_pass_20 (fun w7 H locs hw7 hG => ?_)
  have hs8 : xv_S w5 w7 b 1 := by rw [hw7]; exact xv_S.set (by omega) (by omega)
  have hO : w7[b]? = some (ad b, .inr (6, [.ref (ad (b + 1)), .int 0, .int 0, .int 0])) := by rw [hw7]; exact xv_self hO
  have hT : xv_T cI ad w7 (b + 1) U := hT.of_S hs8 (by omega)
  have hU : xv_T cI ad w7 b2 U := hU.of_S hs8 (by omega)
  have hSw7 : xv_S ws w7 b 14 := hSw5.trans (hs8.mono (by omega) (by omega))
  refine lv_iload_n hx hb dX6_pass_23 rfl (lv_at hl 2 rfl) ?_
  refine lv_istore (lv' := [(4, .int seed), (0, .ref (ad b)), (1, .ref (ad b2)), (2, .int seed), (3, .int n)]) hx hb dX6_pass_24 hl (by decide) rfl (fun ls hl => ?_)
  refine lv_iconst (v := 1) hx hb dX6_pass_26 (by decide) ?_
  refine lv_istore (lv' := [(5, .int 1), (4, .int seed), (0, .ref (ad b)), (1, .ref (ad b2)), (2, .int seed), (3, .int n)]) hx hb dX6_pass_27 hl (by decide) rfl (fun ls hl => ?_)
  -- the loop at 29
  have lp29 : ∀ (fu : Nat) (k : Nat) (dr : Int32) (d1 : Int32) (r1 : Int32) (h1 : Int32) (T1 : Nat → Nat → Int32), (k ≤ nn) → (nn + 1 ≤ k + fu) → (dy_run U seed k = (dr, T1, d1, r1, h1)) → ∀ y29_5 : Int32, y29_5 = nI (k + 1) → ∀ (w29 : va_W) (H : Heap) (locs : List Loc), xg_H D bs w29 s.heap H locs → (w29[b]? = some (ad b, .inr (6, [.ref (ad (b + 1)), .int d1, .int r1, .int h1]))) → (xv_T cI ad w29 (b + 1) T1) → (xv_T cI ad w29 b2 U) → xv_S ws w29 b 14 → ∀ (ls : Array Slot), lv_has ls 6 [(0, .ref (ad b)), (1, .ref (ad b2)), (2, .int seed), (3, .int n), (4, .int dr), (5, .int y29_5)] → W pg l en ({ frames := 5, cells := 0, slots := 0, locals := 117 } : Room) s m ([.ref (ad b), .ref (ad b2), .int seed, .int n] : List Value).toArray below meth c H locs 0 0 Q (F0 m 29 ls []) := by
    intro fu
    induction fu with
    | zero =>
      intro k dr d1 r1 h1 T1 hk hf hr2
      exact absurd hf (by omega)
    | succ fu ih =>
      intro k dr d1 r1 h1 T1 hk hf hr2 y29_5 ey29_5
      intro w29 H locs hG hO hT hU hSw29
      intro ls hl
      replace ey29_5 := ey29_5.symm; subst ey29_5
      refine lv_iload hx hb dX6_pass_29 (lv_at hl 5 rfl) ?_
      refine lv_iload_n hx hb dX6_pass_31 rfl (lv_at hl 3 rfl) ?_
      refine lv_icmp_gt (tgt := 79) hx hb dX6_pass_32 (by decide) (fun c32 => ?_) (fun c32 => ?_)
      · skip
        have hk9 : k = nn := by have := xb_gt (k := k + 1) (n := nn) (by omega) (by omega) (by rw [← hnn]; exact c32); omega
        have hfin : dy_run U seed nn = (dr, T1, d1, r1, h1) := by rw [← hk9]; exact hr2
        rw [hQ]
        exact xg_emv S hr hlk hK hG ⟨(by rw [hfin]; exact hO), (by rw [hfin]; exact hT), hU, hSw29⟩ dX6_pass_79
      · skip
        have hk9 : k + 1 ≤ nn := xb_ngt (by omega) (by omega) (by rw [← hnn]; exact c32)
        refine lv_iload hx hb dX6_pass_35 (lv_at hl 4 rfl) ?_
        refine xg_ri (va_runSN (As := [.int dr]) (rest := []) S (mX7_drawAfter l D cI cZ bs ad w29 dr) ⟨(va_cnB 1 hts gX6_pass_X7_drawAfter_n32 rfl rfl rfl (hK.2.1 _ xg_nest_17) k4 (by decide +kernel) ⟨Nat.le_of_ble_eq_true rfl, Nat.le_of_ble_eq_true rfl⟩), k5, trivial⟩ (xg_preS hK hG) rfl rfl hl.1 rfl (lv_room (Nat.le_of_ble_eq_true rfl)) dX6_pass_37 ⟨Nat.zero_le _, Nat.zero_le _⟩) (fun r9 hr9 => ?_)
        replace hr9 := hr9.symm; subst hr9
        refine lv_topi (fun x10 ex10 => ?_)
        replace ex10 := ex10.symm
        refine lv_istore (lv' := [(4, .int x10), (0, .ref (ad b)), (1, .ref (ad b2)), (2, .int seed), (3, .int n), (5, .int (nI (k + 1)))]) hx hb dX6_pass_40 hl (by decide) rfl (fun ls hl => ?_)
        refine lv_aload_n hx hb dX6_pass_42 rfl (lv_at hl 1 rfl) ?_
        refine lv_iload hx hb dX6_pass_43 (lv_at hl 0 rfl) ?_
        refine lv_bipush (v := 6) hx hb dX6_pass_45 (by decide) ?_
        refine lv_irem hx hb dX6_pass_47 (by decide) ?_
        refine lv_iload hx hb dX6_pass_48 (lv_at hl 0 rfl) ?_
        refine lv_bipush (v := 6) hx hb dX6_pass_50 (by decide) ?_
        refine lv_idiv hx hb dX6_pass_52 (by decide) ?_
        refine lv_bipush (v := 6) hx hb dX6_pass_53 (by decide) ?_
        refine lv_irem hx hb dX6_pass_55 (by decide) ?_
        refine xg_mv (va_runV (As := [.int (x10 - x10 / 6 * 6), .int ((x10 / 6) - (x10 / 6) / 6 * 6)]) (rest := []) S (mX6_dare l D cI cZ bs ad w29 b d1 r1 h1 hO T1 hT (x10 - x10 / 6 * 6) ((x10 / 6) - (x10 / 6) / 6 * 6)) (cwV 2 hts gX6_pass_X6_dare rfl rfl rfl (by decide +kernel) ⟨Nat.le_of_ble_eq_true rfl, Nat.le_of_ble_eq_true rfl⟩) (xg_preV hK hG b hO rfl rfl) rfl rfl hl.1 rfl (lv_room (Nat.le_of_ble_eq_true rfl)) dX6_pass_56 ⟨Nat.zero_le _, Nat.zero_le _⟩) hG (fun w12 H locs hr11 hG => ?_)
        obtain ⟨hvw12_0, hvw12_1, hsw12⟩ := hr11
        have hO : w12[b]? = some (ad b, .inr (6, [.ref (ad (b + 1)), .int ((dy_dar (x10 - x10 / 6 * 6) ((x10 / 6) - (x10 / 6) / 6 * 6) (T1, d1, r1, h1)).2.1), .int ((dy_dar (x10 - x10 / 6 * 6) ((x10 / 6) - (x10 / 6) / 6 * 6) (T1, d1, r1, h1)).2.2.1), .int ((dy_dar (x10 - x10 / 6 * 6) ((x10 / 6) - (x10 / 6) / 6 * 6) (T1, d1, r1, h1)).2.2.2)])) := hvw12_0
        obtain ⟨x13, ex13⟩ : ∃ zz : Int32, (dy_dar (x10 - x10 / 6 * 6) ((x10 / 6) - (x10 / 6) / 6 * 6) (T1, d1, r1, h1)).2.1 = zz := ⟨_, rfl⟩
        rw [ex13] at hO
        obtain ⟨x14, ex14⟩ : ∃ zz : Int32, (dy_dar (x10 - x10 / 6 * 6) ((x10 / 6) - (x10 / 6) / 6 * 6) (T1, d1, r1, h1)).2.2.1 = zz := ⟨_, rfl⟩
        rw [ex14] at hO
        obtain ⟨x15, ex15⟩ : ∃ zz : Int32, (dy_dar (x10 - x10 / 6 * 6) ((x10 / 6) - (x10 / 6) / 6 * 6) (T1, d1, r1, h1)).2.2.2 = zz := ⟨_, rfl⟩
        rw [ex15] at hO
        have hT : xv_T cI ad w12 (b + 1) ((dy_dar (x10 - x10 / 6 * 6) ((x10 / 6) - (x10 / 6) / 6 * 6) (T1, d1, r1, h1)).1) := hvw12_1
        obtain ⟨T16, eT16⟩ : ∃ zz : Nat → Nat → Int32, (dy_dar (x10 - x10 / 6 * 6) ((x10 / 6) - (x10 / 6) / 6 * 6) (T1, d1, r1, h1)).1 = zz := ⟨_, rfl⟩
        rw [eT16] at hT
        have hU : xv_T cI ad w12 b2 U := hU.of_S hsw12 (by omega)
        have hSw12 : xv_S ws w12 b 14 := hSw29.trans (hsw12.mono (by omega) (by omega))
        refine lv_iload hx hb dX6_pass_59 (lv_at hl 5 rfl) ?_
        refine lv_iconst (v := 3) hx hb dX6_pass_61 (by decide) ?_
        refine lv_irem hx hb dX6_pass_62 (by decide) ?_
        refine lv_if_ne (tgt := 73) hx hb dX6_pass_63 (by decide) (fun c63 => ?_) (fun c63 => ?_)
        · skip
          obtain ⟨x17, ex17⟩ : ∃ zz : Int32, (nI (k + 1)) + 1 = zz := ⟨_, rfl⟩
          refine lv_iinc (v := x17) (lv' := [(5, .int x17), (4, .int x10), (0, .ref (ad b)), (1, .ref (ad b2)), (2, .int seed), (3, .int n)]) hx hb dX6_pass_73 hl (k := 5) rfl (by rw [← ex17]; rfl) (by decide) rfl (fun ls hl => ?_)
          refine lv_goto (tgt := 29) hx hb dX6_pass_76 (by decide) ?_
          exact ih (k + 1) x10 x13 x14 x15 T16 (by omega) (by omega) (by subst ex10 ex13 ex14 ex15 eT16 ex17; simp only [dy_run, hr2, dy_stp, xw_rem, c32, c63, if_true, if_false]) x17 (by subst ex10 ex13 ex14 ex15 eT16 ex17; exact nI_1 (k + 1)) w12 _ _ hG hO hT hU hSw12 ls (lv_sub hl [2, 3, 4, 5, 1, 0] rfl)
        · skip
          refine lv_aload_n hx hb dX6_pass_66 rfl (lv_at hl 1 rfl) ?_
          refine xg_get (C := RX6) (T := TX6) (N := 4) S hK hG (fun w h => List.mem_cons_of_mem _ (List.mem_append_left _ (List.mem_append_right _ (h)))) b hO rfl 0 (by decide) k0 (fun _ h9 => h9) rfl dX6_pass_67 ?_
          refine xg_mv (va_runV (As := []) (rest := []) S (mX5_night l D cI cZ bs ad w12 (b + 1) T16 hT) (cwV 0 hts gX6_pass_X5_night rfl rfl rfl (by decide +kernel) ⟨Nat.le_of_ble_eq_true rfl, Nat.le_of_ble_eq_true rfl⟩) (xg_preV hK hG (b + 1) hT.1 rfl rfl) rfl rfl hl.1 rfl (lv_room (Nat.le_of_ble_eq_true rfl)) dX6_pass_70 ⟨Nat.zero_le _, Nat.zero_le _⟩) hG (fun w19 H locs hr18 hG => ?_)
          obtain ⟨hvw19_0, hsw19⟩ := hr18
          have hT : xv_T cI ad w19 (b + 1) (dt_nit T16) := hvw19_0
          obtain ⟨T20, eT20⟩ : ∃ zz : Nat → Nat → Int32, dt_nit T16 = zz := ⟨_, rfl⟩
          rw [eT20] at hT
          have hO : w19[b]? = some (ad b, .inr (6, [.ref (ad (b + 1)), .int x13, .int x14, .int x15])) := hsw19.at hO (by omega)
          have hU : xv_T cI ad w19 b2 U := hU.of_S hsw19 (by omega)
          have hSw19 : xv_S ws w19 b 14 := hSw12.trans (hsw19.mono (by omega) (by omega))
          obtain ⟨x21, ex21⟩ : ∃ zz : Int32, (nI (k + 1)) + 1 = zz := ⟨_, rfl⟩
          refine lv_iinc (v := x21) (lv' := [(5, .int x21), (4, .int x10), (0, .ref (ad b)), (1, .ref (ad b2)), (2, .int seed), (3, .int n)]) hx hb dX6_pass_73 hl (k := 5) rfl (by rw [← ex21]; rfl) (by decide) rfl (fun ls hl => ?_)
          refine lv_goto (tgt := 29) hx hb dX6_pass_76 (by decide) ?_
          exact ih (k + 1) x10 x13 x14 x15 T20 (by omega) (by omega) (by subst ex10 ex13 ex14 ex15 eT16 eT20 ex21; simp only [dy_run, hr2, dy_stp, xw_rem, c32, c63, if_true, if_false]) x21 (by subst ex10 ex13 ex14 ex15 eT16 eT20 ex21; exact nI_1 (k + 1)) w19 _ _ hG hO hT hU hSw19 ls (lv_sub hl [2, 3, 4, 5, 1, 0] rfl)
  exact lp29 (nn + 1) 0 seed 0 0 0 U (by omega) (by omega) (by skip; rfl) 1 rfl w7 _ _ hG hO hT hU hSw7 ls (lv_sub hl [2, 3, 4, 5, 1, 0] rfl)
