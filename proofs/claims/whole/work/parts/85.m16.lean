set_option maxHeartbeats 4000000 in
set_option maxRecDepth 100000 in
theorem mX8_unhurt (l : Launch) (D : va_G) (cI cZ : ClassId) (bs : Nat) (ad : Nat → Nat) (ws : va_W) (b : Nat) (A : Nat → Nat → Int32) (I : Nat → Int32) (L : Int64) (hM : xv_M cI cZ ad ws b A I L) (w9 : Int32) (n : Nat) (hn : I 20 = nI n) (hn60 : n ≤ 60) (e : Nat) (he : (em_rfG A I n).2 25 = nI e) (he60 : e ≤ 60) (hev : em_rfR A I n = -6 → ∀ k : Nat, k < e → ((em_rfG A I n).1 11 k = 42 → vp_in ((em_rfG A I n).1 12 k) 6) ∧ ((em_rfG A I n).1 11 k = 42 ∨ (em_rfG A I n).1 11 k = 43 → vp_in ((em_rfG A I n).1 13 k) 6)) : Met l yX8_unhurt wsX8_unhurt ({ frames := 6, cells := 0, slots := 0, locals := 131 } : Room) (va_Pc [.ref (ad b), .int w9] (fun U => xg_W D cI cZ bs ws U)) (va_Ql (fun (r : Int64) (w : va_W) => r = em_unh A I n e w9 ∧ xv_M cI cZ ad w b ((em_tiG A I n w9).1) ((em_tiG A I n w9).2) L ∧ xv_S ws w b 24) (fun w t => xg_W D cI cZ bs w t) (xg_A bs)) 0 0 (xg_A bs) := by
  refine xg_met cX8_unhurt 8 (some .long) RX8 (by decide) rfl rfl (Nat.le_of_ble_eq_true rfl) ?_
  intro pg en s m below meth c ls S hr hlk hnm hB hl
  have hK := hB.1
  have hG := xg_start hB
  obtain ⟨hx, hb, hml, hown, hts⟩ := id S
  have hl : lv_has ls 8 [(0, .ref (ad b)), (1, .int w9)] := hl
  obtain ⟨Q, hQ⟩ : ∃ Q, Q = MQ below (va_Ql (fun (r : Int64) (w : va_W) => r = em_unh A I n e w9 ∧ xv_M cI cZ ad w b ((em_tiG A I n w9).1) ((em_tiG A I n w9).2) L ∧ xv_S ws w b 24) (fun w t => xg_W D cI cZ bs w t) (xg_A bs)) ([.ref (ad b), .int w9] : List Value).toArray s 0 0 (xg_A bs) := ⟨_, rfl⟩
  rw [← hQ]
  have k0 := hts (.fieldLink RX8 149 "DareBridgeModel" "events" "I") (List.mem_of_getElem? (i := 3) rfl)
  have k1 := hts (.constantLong RX8 248 (-1000000000000000004)) (List.mem_of_getElem? (i := 8) rfl)
  have k2 := hts (.fieldLink RX8 43 "DareBridgeModel" "sort" "[I") (List.mem_of_getElem? (i := 4) rfl)
  have k3 := hts (.fieldLink RX8 46 "DareBridgeModel" "who" "[I") (List.mem_of_getElem? (i := 5) rfl)
  have k4 := hts (.fieldLink RX8 52 "DareBridgeModel" "height" "[I") (List.mem_of_getElem? (i := 6) rfl)
  have k5 := hts (.fieldLink RX8 49 "DareBridgeModel" "whom" "[I") (List.mem_of_getElem? (i := 7) rfl)
  have k6 := hts (.constantLong RX8 246 (-1000000000000000000)) (List.mem_of_getElem? (i := 2) rfl)
  have k7 := hts (.constantLong RX8 244 (-1000000000000000002)) (List.mem_of_getElem? (i := 1) rfl)
  refine lv_iload_n hx hb dX8_unhurt_0 rfl (lv_at hl 1 rfl) ?_
  refine lv_i2l (v := w9.toInt64) hx hb dX8_unhurt_1 rfl ?_
  refine lv_lconst (v := 0) hx hb dX8_unhurt_2 (by decide) ?_
  refine lv_lconst (v := 1) hx hb dX8_unhurt_3 (by decide) ?_
  refine xg_ri (va_runS (As := [.long w9.toInt64, .long 0, .long 1]) (rest := []) S (mX8_in l D cI cZ bs ad ws w9.toInt64 0 1) (va_cwS 3 hts gX8_unhurt_X8_in rfl rfl rfl (by decide +kernel) ⟨Nat.le_of_ble_eq_true rfl, Nat.le_of_ble_eq_true rfl⟩) (xg_preS hK hG) rfl rfl hl.1 rfl (lv_room (Nat.le_of_ble_eq_true rfl)) dX8_unhurt_4 ⟨Nat.zero_le _, Nat.zero_le _⟩) (fun r1 hr1 => ?_)
  replace hr1 := hr1.symm; subst hr1
  rw [xw_inL_lit w9 0 1 0 1 (by decide) (by decide)]
  refine xb_ifne (tgt := 14) S dX8_unhurt_7 (by decide) (fun c7 => ?_) (fun c7 => ?_)
  · skip
    refine lv_aload_n hx hb dX8_unhurt_14 rfl (lv_at hl 0 rfl) ?_
    refine xg_mi (va_runV (As := []) (rest := []) S (mX8_refusal l D cI cZ bs ad ws b A I L hM n hn hn60) (cwV 0 hts gX8_unhurt_X8_refusal rfl rfl rfl (by decide +kernel) ⟨Nat.le_of_ble_eq_true rfl, Nat.le_of_ble_eq_true rfl⟩) (xg_preV hK hG b hM.1 rfl rfl) rfl rfl hl.1 rfl (lv_room (Nat.le_of_ble_eq_true rfl)) dX8_unhurt_15 ⟨Nat.zero_le _, Nat.zero_le _⟩) hG (fun r2 w3 H locs hr2 hG => ?_)
    obtain ⟨hr2, hvw3_0, hsw3⟩ := hr2
    replace hr2 := hr2.symm; subst hr2
    have hM : xv_M cI cZ ad w3 b ((em_rfG A I n).1) ((em_rfG A I n).2) L := hvw3_0
    obtain ⟨A4, eA4⟩ : ∃ zz : Nat → Nat → Int32, ((em_rfG A I n).1) = zz := ⟨_, rfl⟩
    rw [eA4] at hM
    obtain ⟨I5, eI5⟩ : ∃ zz : Nat → Int32, ((em_rfG A I n).2) = zz := ⟨_, rfl⟩
    rw [eI5] at hM
    have hSw3 : xv_S ws w3 b 24 := hsw3.mono (by omega) (by omega)
    have he9 : I5 25 = nI e := by subst eA4 eI5; exact he
    refine lv_topi (fun x6 ex6 => ?_)
    replace ex6 := ex6.symm
    refine lv_istore_n (lv' := [(2, .int x6), (0, .ref (ad b)), (1, .int w9)]) hx hb dX8_unhurt_18 rfl hl (by decide) rfl (fun ls hl => ?_)
    refine lv_iload_n hx hb dX8_unhurt_19 rfl (lv_at hl 0 rfl) ?_
    refine lv_bipush (v := (-6)) hx hb dX8_unhurt_20 (by decide) ?_
    refine lv_icmp_eq (tgt := 32) hx hb dX8_unhurt_22 (by decide) (fun c22 => ?_) (fun c22 => ?_)
    · skip
      refine lv_lconst (v := 1) hx hb dX8_unhurt_32 (by decide) ?_
      refine lv_lstore_n (lv' := [(3, .long 1), (2, .int x6), (0, .ref (ad b)), (1, .int w9)]) hx hb dX8_unhurt_33 rfl hl (by decide) rfl (fun ls hl => ?_)
      refine lv_iconst (v := 0) hx hb dX8_unhurt_34 (by decide) ?_
      refine lv_istore (lv' := [(5, .int 0), (3, .long 1), (2, .int x6), (0, .ref (ad b)), (1, .int w9)]) hx hb dX8_unhurt_35 hl (by decide) rfl (fun ls hl => ?_)
      refine lv_iconst (v := 0) hx hb dX8_unhurt_37 (by decide) ?_
      refine lv_istore (lv' := [(6, .int 0), (5, .int 0), (3, .long 1), (2, .int x6), (0, .ref (ad b)), (1, .int w9)]) hx hb dX8_unhurt_38 hl (by decide) rfl (fun ls hl => ?_)
      -- the loop at 40
      have lp40 : ∀ (fu : Nat) (k : Nat), (k ≤ e) → (e < k + fu) → ∀ y40_3 : Int64, y40_3 = (em_uhk (em_rfG A I n).1 (em_rfG A I n).2 k).2 → ∀ y40_5 : Int32, y40_5 = (em_uhk (em_rfG A I n).1 (em_rfG A I n).2 k).1 → ∀ y40_6 : Int32, y40_6 = nI k → ∀ (ls : Array Slot), lv_has ls 8 [(0, .ref (ad b)), (1, .int w9), (2, .int x6), (3, .long y40_3), (5, .int y40_5), (6, .int y40_6)] → W pg l en ({ frames := 6, cells := 0, slots := 0, locals := 131 } : Room) s m ([.ref (ad b), .int w9] : List Value).toArray below meth c H locs 0 0 Q (F0 m 40 ls []) := by
        intro fu
        induction fu with
        | zero =>
          intro k hk hf
          exact absurd hf (by omega)
        | succ fu ih40 =>
          intro k hk hf y40_3 ey40_3 y40_5 ey40_5 y40_6 ey40_6
          intro ls hl
          replace ey40_3 := ey40_3.symm; subst ey40_3
          replace ey40_5 := ey40_5.symm; subst ey40_5
          replace ey40_6 := ey40_6.symm; subst ey40_6
          refine lv_iload hx hb dX8_unhurt_40 (lv_at hl 5 rfl) ?_
          refine lv_aload_n hx hb dX8_unhurt_42 rfl (lv_at hl 0 rfl) ?_
          refine xg_get (C := RX8) (T := TX8) (N := 46) S hK hG (fun w h => List.mem_cons_of_mem _ (List.mem_append_right _ (h))) b hM.1 rfl 25 (by decide) k0 (fun _ h9 => h9) rfl dX8_unhurt_43 ?_
          refine lv_icmp_ge (tgt := 192) hx hb dX8_unhurt_46 (by decide) (fun c46 => ?_) (fun c46 => ?_)
          · skip
            have hk9 : em_uhk (em_rfG A I n).1 (em_rfG A I n).2 k = em_uhk (em_rfG A I n).1 (em_rfG A I n).2 e := by rw [show k = e by have := xb_le (k := k) (n := e) (by omega) (by omega) (by rw [← he9]; exact c46); omega]
            refine lv_iload hx hb dX8_unhurt_192 (lv_at hl 4 rfl) ?_
            refine lv_bipush (v := 15) hx hb dX8_unhurt_194 (by decide) ?_
            refine lv_icmp_le (tgt := 205) hx hb dX8_unhurt_196 (by decide) (fun c196 => ?_) (fun c196 => ?_)
            · skip
              obtain ⟨m9, v9, hm1, hm2, hm3, hm4⟩ := em_uhk_N (em_rfG A I n).1 (em_rfG A I n).2 k
              refine lv_lload_n hx hb dX8_unhurt_205 rfl (lv_at hl 3 rfl) ?_
              refine lv_iload hx hb dX8_unhurt_206 (lv_at hl 4 rfl) ?_
              refine xg_rl (va_runS (As := [.int ((em_uhk (em_rfG A I n).1 (em_rfG A I n).2 k).1)]) (rest := [.long ((em_uhk (em_rfG A I n).1 (em_rfG A I n).2 k).2)]) S (mX8_tens l D cI cZ bs ad w3 ((em_uhk (em_rfG A I n).1 (em_rfG A I n).2 k).1) m9 hm2 (by omega)) (va_cwS 1 hts gX8_unhurt_X8_tens rfl rfl rfl (by decide +kernel) ⟨Nat.le_of_ble_eq_true rfl, Nat.le_of_ble_eq_true rfl⟩) (xg_preS hK hG) rfl rfl hl.1 rfl (lv_room (Nat.le_of_ble_eq_true rfl)) dX8_unhurt_208 ⟨Nat.zero_le _, Nat.zero_le _⟩) (fun r7 hr7 => ?_)
              replace hr7 := hr7.symm; subst hr7
              refine lv_iload_n hx hb dX8_unhurt_211 rfl (lv_at hl 1 rfl) ?_
              refine xg_rl (va_runS (As := [.long ((em_uhk (em_rfG A I n).1 (em_rfG A I n).2 k).2), .long (em_tns m9), .int w9]) (rest := []) S (mX8_lowest l D cI cZ bs ad w3 ((em_uhk (em_rfG A I n).1 (em_rfG A I n).2 k).2) (em_tns m9) w9 v9 (10 ^ m9) hm3 (em_tns_N m9) hm4 (em_cl17 hm1 hm4).2.2 (em_cl17 hm1 hm4).2.1) (va_cwS 3 hts gX8_unhurt_X8_lowest rfl rfl rfl (by decide +kernel) ⟨Nat.le_of_ble_eq_true rfl, Nat.le_of_ble_eq_true rfl⟩) (xg_preS hK hG) rfl rfl hl.1 rfl (lv_room (Nat.le_of_ble_eq_true rfl)) dX8_unhurt_212 ⟨Nat.zero_le _, Nat.zero_le _⟩) (fun r8 hr8 => ?_)
              replace hr8 := hr8.symm; subst hr8
              rw [hQ]
              exact xg_eml S hr hlk hK hG ⟨(by subst eA4 eI5 ex6; unfold em_unh; rw [if_pos c7, if_pos c22, ← hk9]; first | (rw [if_neg c196]; done) | (rw [if_pos c196, hm2, hm3, lN_tn (by have := (em_cl17 hm1 hm4).1; omega), xb_cl (show m9 < 2 ^ 31 by omega)])), (by rw [show ((em_tiG A I n w9).1) = A4 from (by subst eA4 eI5 ex6; unfold em_tiG; simp only [c7, if_true, if_false, Bool.false_eq_true])]; rw [show ((em_tiG A I n w9).2) = I5 from (by subst eA4 eI5 ex6; unfold em_tiG; simp only [c7, if_true, if_false, Bool.false_eq_true])]; exact hM), hSw3⟩ dX8_unhurt_215
            · skip
              refine lv_ldc2 (v := (-1000000000000000004)) hx hb hown k1 dX8_unhurt_199 ?_
              refine lv_goto (tgt := 215) hx hb dX8_unhurt_202 (by decide) ?_
              rw [hQ]
              exact xg_eml S hr hlk hK hG ⟨(by subst eA4 eI5 ex6; unfold em_unh; rw [if_pos c7, if_pos c22, ← hk9]; first | (rw [if_neg c196]; done) | (rw [if_pos c196, hm2, hm3, lN_tn (by have := (em_cl17 hm1 hm4).1; omega), xb_cl (show m9 < 2 ^ 31 by omega)])), (by rw [show ((em_tiG A I n w9).1) = A4 from (by subst eA4 eI5 ex6; unfold em_tiG; simp only [c7, if_true, if_false, Bool.false_eq_true])]; rw [show ((em_tiG A I n w9).2) = I5 from (by subst eA4 eI5 ex6; unfold em_tiG; simp only [c7, if_true, if_false, Bool.false_eq_true])]; exact hM), hSw3⟩ dX8_unhurt_215
          · skip
            have hk9 : k < e := xb_lt (by omega) (by omega) (by rw [← he9]; exact c46)
            have hck : (nI k).toNatClampNeg = k := xb_cl (by omega)
            refine lv_iload hx hb dX8_unhurt_49 (lv_at hl 4 rfl) ?_
            refine lv_bipush (v := 15) hx hb dX8_unhurt_51 (by decide) ?_
            refine lv_icmp_gt (tgt := 192) hx hb dX8_unhurt_53 (by decide) (fun c53 => ?_) (fun c53 => ?_)
            · skip
              have hk9 : em_uhk (em_rfG A I n).1 (em_rfG A I n).2 k = em_uhk (em_rfG A I n).1 (em_rfG A I n).2 e := em_uhk_st hk c53
              refine lv_iload hx hb dX8_unhurt_192 (lv_at hl 4 rfl) ?_
              refine lv_bipush (v := 15) hx hb dX8_unhurt_194 (by decide) ?_
              refine lv_icmp_le (tgt := 205) hx hb dX8_unhurt_196 (by decide) (fun c196 => ?_) (fun c196 => ?_)
              · skip
                obtain ⟨m9, v9, hm1, hm2, hm3, hm4⟩ := em_uhk_N (em_rfG A I n).1 (em_rfG A I n).2 k
                refine lv_lload_n hx hb dX8_unhurt_205 rfl (lv_at hl 3 rfl) ?_
                refine lv_iload hx hb dX8_unhurt_206 (lv_at hl 4 rfl) ?_
                refine xg_rl (va_runS (As := [.int ((em_uhk (em_rfG A I n).1 (em_rfG A I n).2 k).1)]) (rest := [.long ((em_uhk (em_rfG A I n).1 (em_rfG A I n).2 k).2)]) S (mX8_tens l D cI cZ bs ad w3 ((em_uhk (em_rfG A I n).1 (em_rfG A I n).2 k).1) m9 hm2 (by omega)) (va_cwS 1 hts gX8_unhurt_X8_tens rfl rfl rfl (by decide +kernel) ⟨Nat.le_of_ble_eq_true rfl, Nat.le_of_ble_eq_true rfl⟩) (xg_preS hK hG) rfl rfl hl.1 rfl (lv_room (Nat.le_of_ble_eq_true rfl)) dX8_unhurt_208 ⟨Nat.zero_le _, Nat.zero_le _⟩) (fun r9 hr9 => ?_)
                replace hr9 := hr9.symm; subst hr9
                refine lv_iload_n hx hb dX8_unhurt_211 rfl (lv_at hl 1 rfl) ?_
                refine xg_rl (va_runS (As := [.long ((em_uhk (em_rfG A I n).1 (em_rfG A I n).2 k).2), .long (em_tns m9), .int w9]) (rest := []) S (mX8_lowest l D cI cZ bs ad w3 ((em_uhk (em_rfG A I n).1 (em_rfG A I n).2 k).2) (em_tns m9) w9 v9 (10 ^ m9) hm3 (em_tns_N m9) hm4 (em_cl17 hm1 hm4).2.2 (em_cl17 hm1 hm4).2.1) (va_cwS 3 hts gX8_unhurt_X8_lowest rfl rfl rfl (by decide +kernel) ⟨Nat.le_of_ble_eq_true rfl, Nat.le_of_ble_eq_true rfl⟩) (xg_preS hK hG) rfl rfl hl.1 rfl (lv_room (Nat.le_of_ble_eq_true rfl)) dX8_unhurt_212 ⟨Nat.zero_le _, Nat.zero_le _⟩) (fun r10 hr10 => ?_)
                replace hr10 := hr10.symm; subst hr10
                rw [hQ]
                exact xg_eml S hr hlk hK hG ⟨(by subst eA4 eI5 ex6; unfold em_unh; rw [if_pos c7, if_pos c22, ← hk9]; first | (rw [if_neg c196]; done) | (rw [if_pos c196, hm2, hm3, lN_tn (by have := (em_cl17 hm1 hm4).1; omega), xb_cl (show m9 < 2 ^ 31 by omega)])), (by rw [show ((em_tiG A I n w9).1) = A4 from (by subst eA4 eI5 ex6; unfold em_tiG; simp only [c7, if_true, if_false, Bool.false_eq_true])]; rw [show ((em_tiG A I n w9).2) = I5 from (by subst eA4 eI5 ex6; unfold em_tiG; simp only [c7, if_true, if_false, Bool.false_eq_true])]; exact hM), hSw3⟩ dX8_unhurt_215
              · skip
                refine lv_ldc2 (v := (-1000000000000000004)) hx hb hown k1 dX8_unhurt_199 ?_
                refine lv_goto (tgt := 215) hx hb dX8_unhurt_202 (by decide) ?_
                rw [hQ]
                exact xg_eml S hr hlk hK hG ⟨(by subst eA4 eI5 ex6; unfold em_unh; rw [if_pos c7, if_pos c22, ← hk9]; first | (rw [if_neg c196]; done) | (rw [if_pos c196, hm2, hm3, lN_tn (by have := (em_cl17 hm1 hm4).1; omega), xb_cl (show m9 < 2 ^ 31 by omega)])), (by rw [show ((em_tiG A I n w9).1) = A4 from (by subst eA4 eI5 ex6; unfold em_tiG; simp only [c7, if_true, if_false, Bool.false_eq_true])]; rw [show ((em_tiG A I n w9).2) = I5 from (by subst eA4 eI5 ex6; unfold em_tiG; simp only [c7, if_true, if_false, Bool.false_eq_true])]; exact hM), hSw3⟩ dX8_unhurt_215
            · skip
              refine lv_aload_n hx hb dX8_unhurt_56 rfl (lv_at hl 0 rfl) ?_
              refine xg_get (C := RX8) (T := TX8) (N := 46) S hK hG (fun w h => List.mem_cons_of_mem _ (List.mem_append_right _ (h))) b hM.1 rfl 21 (by decide) k2 (fun _ h9 => h9) rfl dX8_unhurt_57 ?_
              refine lv_iload hx hb dX8_unhurt_60 (lv_at hl 5 rfl) ?_
              refine xg_ald S hK hG (b + 12) (show w3[b + 12]? = some (ad (b + 12), .inl (cI, 60, .inl (A4 11))) from hM.2.1 11 (by decide)) (i := nI k) (by first | assumption | exact vp_in_nI (by omega) (by decide)) dX8_unhurt_62 ?_
              refine lv_bipush (v := 42) hx hb dX8_unhurt_63 (by decide) ?_
              have jn73_11 : ∀ v11 : Int32, v11 = ((if ((A4 11) ((nI k).toNatClampNeg)) = 42 then 1 else 0) : Int32) → W pg l en ({ frames := 6, cells := 0, slots := 0, locals := 131 } : Room) s m ([.ref (ad b), .int w9] : List Value).toArray below meth c H locs 0 0 Q (F0 m 73 ls [.int v11]) := by
                intro v11 ev11
                replace ev11 := ev11.symm
                refine lv_istore (lv' := [(7, .int v11), (0, .ref (ad b)), (1, .int w9), (2, .int x6), (3, .long ((em_uhk (em_rfG A I n).1 (em_rfG A I n).2 k).2)), (5, .int ((em_uhk (em_rfG A I n).1 (em_rfG A I n).2 k).1)), (6, .int (nI k))]) hx hb dX8_unhurt_73 hl (by decide) rfl (fun ls hl => ?_)
                refine lv_lload_n hx hb dX8_unhurt_75 rfl (lv_at hl 4 rfl) ?_
                refine lv_iload hx hb dX8_unhurt_76 (lv_at hl 0 rfl) ?_
                have jn107_12 : ∀ v12 : Int64, v12 = ((if v11 = 0 then 1 else (10 - (em_odd A4 I5 ((A4 12) ((nI k).toNatClampNeg)) ((A4 14) ((nI k).toNatClampNeg)))).toInt64) : Int64) → W pg l en ({ frames := 6, cells := 0, slots := 0, locals := 131 } : Room) s m ([.ref (ad b), .int w9] : List Value).toArray below meth c H locs 0 0 Q (F0 m 107 ls [.long v12, .long ((em_uhk (em_rfG A I n).1 (em_rfG A I n).2 k).2)]) := by
                  intro v12 ev12
                  replace ev12 := ev12.symm
                  refine lv_lmul hx hb dX8_unhurt_107 ?_
                  refine lv_topl (fun x13 ex13 => ?_)
                  replace ex13 := ex13.symm
                  refine lv_lstore_n (lv' := [(3, .long x13), (7, .int v11), (0, .ref (ad b)), (1, .int w9), (2, .int x6), (5, .int ((em_uhk (em_rfG A I n).1 (em_rfG A I n).2 k).1)), (6, .int (nI k))]) hx hb dX8_unhurt_108 rfl hl (by decide) rfl (fun ls hl => ?_)
                  refine lv_lload_n hx hb dX8_unhurt_109 rfl (lv_at hl 0 rfl) ?_
                  refine lv_iload hx hb dX8_unhurt_110 (lv_at hl 1 rfl) ?_
                  have jn153_14 : ∀ v14 : Int64, v14 = ((if v11 = 0 then if ((A4 11) ((nI k).toNatClampNeg)) = 43 then (10 - (em_odd A4 I5 ((A4 13) ((nI k).toNatClampNeg)) ((A4 14) ((nI k).toNatClampNeg)))).toInt64 else 1 else (10 - (em_odd A4 I5 ((A4 13) ((nI k).toNatClampNeg)) ((A4 14) ((nI k).toNatClampNeg)))).toInt64) : Int64) → W pg l en ({ frames := 6, cells := 0, slots := 0, locals := 131 } : Room) s m ([.ref (ad b), .int w9] : List Value).toArray below meth c H locs 0 0 Q (F0 m 153 ls [.long v14, .long x13]) := by
                    intro v14 ev14
                    replace ev14 := ev14.symm
                    refine lv_lmul hx hb dX8_unhurt_153 ?_
                    refine lv_topl (fun x15 ex15 => ?_)
                    replace ex15 := ex15.symm
                    refine lv_lstore_n (lv' := [(3, .long x15), (7, .int v11), (0, .ref (ad b)), (1, .int w9), (2, .int x6), (5, .int ((em_uhk (em_rfG A I n).1 (em_rfG A I n).2 k).1)), (6, .int (nI k))]) hx hb dX8_unhurt_154 rfl hl (by decide) rfl (fun ls hl => ?_)
                    refine lv_iload hx hb dX8_unhurt_155 (lv_at hl 5 rfl) ?_
                    refine lv_iload hx hb dX8_unhurt_157 (lv_at hl 1 rfl) ?_
                    have jn183_16 : ∀ v16 : Int32, v16 = ((if v11 = 0 then if ((A4 11) ((nI k).toNatClampNeg)) = 43 then 1 else 0 else 2) : Int32) → W pg l en ({ frames := 6, cells := 0, slots := 0, locals := 131 } : Room) s m ([.ref (ad b), .int w9] : List Value).toArray below meth c H locs 0 0 Q (F0 m 183 ls [.int v16, .int ((em_uhk (em_rfG A I n).1 (em_rfG A I n).2 k).1)]) := by
                      intro v16 ev16
                      replace ev16 := ev16.symm
                      refine lv_iadd hx hb dX8_unhurt_183 ?_
                      refine lv_topi (fun x17 ex17 => ?_)
                      replace ex17 := ex17.symm
                      refine lv_istore (lv' := [(5, .int x17), (3, .long x15), (7, .int v11), (0, .ref (ad b)), (1, .int w9), (2, .int x6), (6, .int (nI k))]) hx hb dX8_unhurt_184 hl (by decide) rfl (fun ls hl => ?_)
                      obtain ⟨x18, ex18⟩ : ∃ zz : Int32, ((nI k) + 1) = zz := ⟨_, rfl⟩
                      refine lv_iinc (v := x18) (lv' := [(6, .int x18), (5, .int x17), (3, .long x15), (7, .int v11), (0, .ref (ad b)), (1, .int w9), (2, .int x6)]) hx hb dX8_unhurt_186 hl (k := 6) rfl (by rw [← ex18]; rfl) (by decide) rfl (fun ls hl => ?_)
                      refine lv_goto (tgt := 40) hx hb dX8_unhurt_189 (by decide) ?_
                      exact ih40 (k + 1) (by omega) (by omega) x15 (by subst eA4 eI5 ex6 ev11 ev12 ex13 ev14 ex15 ev16 ex17 ex18; rw [em_uhk, if_neg c53, hck]; unfold em_uh1 em_uh2; by_cases q1 : (em_rfG A I n).1 11 k = 42 <;> by_cases q2 : (em_rfG A I n).1 11 k = 43 <;> simp [q1, q2]) x17 (by subst eA4 eI5 ex6 ev11 ev12 ex13 ev14 ex15 ev16 ex17 ex18; rw [em_uhk, if_neg c53, hck]; unfold em_uh3; by_cases q1 : (em_rfG A I n).1 11 k = 42 <;> by_cases q2 : (em_rfG A I n).1 11 k = 43 <;> simp [q1, q2]) x18 (by subst eA4 eI5 ex6 ev11 ev12 ex13 ev14 ex15 ev16 ex17 ex18; exact nI_1 k) ls (lv_sub hl [4, 5, 6, 2, 1, 0] rfl)
                    refine lv_if_eq (tgt := 166) hx hb dX8_unhurt_159 (by decide) (fun c159 => ?_) (fun c159 => ?_)
                    · skip
                      refine lv_aload_n hx hb dX8_unhurt_166 rfl (lv_at hl 2 rfl) ?_
                      refine xg_get (C := RX8) (T := TX8) (N := 46) S hK hG (fun w h => List.mem_cons_of_mem _ (List.mem_append_right _ (h))) b hM.1 rfl 21 (by decide) k2 (fun _ h9 => h9) rfl dX8_unhurt_167 ?_
                      refine lv_iload hx hb dX8_unhurt_170 (lv_at hl 6 rfl) ?_
                      refine xg_ald S hK hG (b + 12) (show w3[b + 12]? = some (ad (b + 12), .inl (cI, 60, .inl (A4 11))) from hM.2.1 11 (by decide)) (i := nI k) (by first | assumption | exact vp_in_nI (by omega) (by decide)) dX8_unhurt_172 ?_
                      refine lv_bipush (v := 43) hx hb dX8_unhurt_173 (by decide) ?_
                      refine lv_icmp_ne (tgt := 182) hx hb dX8_unhurt_175 (by decide) (fun c175 => ?_) (fun c175 => ?_)
                      · skip
                        refine lv_iconst (v := 0) hx hb dX8_unhurt_182 (by decide) ?_
                        exact jn183_16 _ (by rw [if_pos c159]; rw [if_neg c175])
                      · skip
                        refine lv_iconst (v := 1) hx hb dX8_unhurt_178 (by decide) ?_
                        refine lv_goto (tgt := 183) hx hb dX8_unhurt_179 (by decide) ?_
                        exact jn183_16 _ (by rw [if_pos c159]; rw [if_pos c175])
                    · skip
                      refine lv_iconst (v := 2) hx hb dX8_unhurt_162 (by decide) ?_
                      refine lv_goto (tgt := 183) hx hb dX8_unhurt_163 (by decide) ?_
                      exact jn183_16 _ (by rw [if_neg c159])
                  refine lv_if_ne (tgt := 127) hx hb dX8_unhurt_112 (by decide) (fun c112 => ?_) (fun c112 => ?_)
                  · skip
                    refine lv_bipush (v := 10) hx hb dX8_unhurt_127 (by decide) ?_
                    refine lv_aload_n hx hb dX8_unhurt_129 rfl (lv_at hl 2 rfl) ?_
                    refine lv_aload_n hx hb dX8_unhurt_130 rfl (lv_at hl 2 rfl) ?_
                    refine xg_get (C := RX8) (T := TX8) (N := 46) S hK hG (fun w h => List.mem_cons_of_mem _ (List.mem_append_right _ (h))) b hM.1 rfl 23 (by decide) k5 (fun _ h9 => h9) rfl dX8_unhurt_131 ?_
                    refine lv_iload hx hb dX8_unhurt_134 (lv_at hl 6 rfl) ?_
                    refine xg_ald S hK hG (b + 14) (show w3[b + 14]? = some (ad (b + 14), .inl (cI, 60, .inl (A4 13))) from hM.2.1 13 (by decide)) (i := nI k) (by first | assumption | exact vp_in_nI (by omega) (by decide)) dX8_unhurt_136 ?_
                    refine lv_aload_n hx hb dX8_unhurt_137 rfl (lv_at hl 2 rfl) ?_
                    refine xg_get (C := RX8) (T := TX8) (N := 46) S hK hG (fun w h => List.mem_cons_of_mem _ (List.mem_append_right _ (h))) b hM.1 rfl 24 (by decide) k4 (fun _ h9 => h9) rfl dX8_unhurt_138 ?_
                    refine lv_iload hx hb dX8_unhurt_141 (lv_at hl 6 rfl) ?_
                    refine xg_ald S hK hG (b + 15) (show w3[b + 15]? = some (ad (b + 15), .inl (cI, 60, .inl (A4 14))) from hM.2.1 14 (by decide)) (i := nI k) (by first | assumption | exact vp_in_nI (by omega) (by decide)) dX8_unhurt_143 ?_
                    refine xg_ri (va_runV (As := [.int ((A4 13) ((nI k).toNatClampNeg)), .int ((A4 14) ((nI k).toNatClampNeg))]) (rest := [.int 10, .long x13]) S (mX8_oddsOf l D cI cZ bs ad w3 b A4 I5 L hM ((A4 13) ((nI k).toNatClampNeg)) ((A4 14) ((nI k).toNatClampNeg)) (by subst eA4 eI5 ex6 ev11 ev12 ex13; first | (have q9 := em_v42 c112; rw [hck] at q9 ⊢; exact (hev c22 k hk9).2 (.inl q9)) | (have q9 := c124; rw [hck] at q9 ⊢; exact (hev c22 k hk9).2 (.inr q9)))) (cwV 2 hts gX8_unhurt_X8_oddsOf rfl rfl rfl (by decide +kernel) ⟨Nat.le_of_ble_eq_true rfl, Nat.le_of_ble_eq_true rfl⟩) (xg_preV hK hG b hM.1 rfl rfl) rfl rfl hl.1 rfl (lv_room (Nat.le_of_ble_eq_true rfl)) dX8_unhurt_144 ⟨Nat.zero_le _, Nat.zero_le _⟩) (fun r19 hr19 => ?_)
                    replace hr19 := hr19.symm; subst hr19
                    refine lv_isub hx hb dX8_unhurt_147 ?_
                    refine lv_i2l (v := (10 - (em_odd A4 I5 ((A4 13) ((nI k).toNatClampNeg)) ((A4 14) ((nI k).toNatClampNeg)))).toInt64) hx hb dX8_unhurt_148 rfl ?_
                    refine lv_goto (tgt := 153) hx hb dX8_unhurt_149 (by decide) ?_
                    exact jn153_14 _ (by rw [if_neg c112])
                  · skip
                    refine lv_aload_n hx hb dX8_unhurt_115 rfl (lv_at hl 2 rfl) ?_
                    refine xg_get (C := RX8) (T := TX8) (N := 46) S hK hG (fun w h => List.mem_cons_of_mem _ (List.mem_append_right _ (h))) b hM.1 rfl 21 (by decide) k2 (fun _ h9 => h9) rfl dX8_unhurt_116 ?_
                    refine lv_iload hx hb dX8_unhurt_119 (lv_at hl 6 rfl) ?_
                    refine xg_ald S hK hG (b + 12) (show w3[b + 12]? = some (ad (b + 12), .inl (cI, 60, .inl (A4 11))) from hM.2.1 11 (by decide)) (i := nI k) (by first | assumption | exact vp_in_nI (by omega) (by decide)) dX8_unhurt_121 ?_
                    refine lv_bipush (v := 43) hx hb dX8_unhurt_122 (by decide) ?_
                    refine lv_icmp_ne (tgt := 152) hx hb dX8_unhurt_124 (by decide) (fun c124 => ?_) (fun c124 => ?_)
                    · skip
                      refine lv_lconst (v := 1) hx hb dX8_unhurt_152 (by decide) ?_
                      exact jn153_14 _ (by rw [if_pos c112]; rw [if_neg c124])
                    · skip
                      refine lv_bipush (v := 10) hx hb dX8_unhurt_127 (by decide) ?_
                      refine lv_aload_n hx hb dX8_unhurt_129 rfl (lv_at hl 2 rfl) ?_
                      refine lv_aload_n hx hb dX8_unhurt_130 rfl (lv_at hl 2 rfl) ?_
                      refine xg_get (C := RX8) (T := TX8) (N := 46) S hK hG (fun w h => List.mem_cons_of_mem _ (List.mem_append_right _ (h))) b hM.1 rfl 23 (by decide) k5 (fun _ h9 => h9) rfl dX8_unhurt_131 ?_
                      refine lv_iload hx hb dX8_unhurt_134 (lv_at hl 6 rfl) ?_
                      refine xg_ald S hK hG (b + 14) (show w3[b + 14]? = some (ad (b + 14), .inl (cI, 60, .inl (A4 13))) from hM.2.1 13 (by decide)) (i := nI k) (by first | assumption | exact vp_in_nI (by omega) (by decide)) dX8_unhurt_136 ?_
                      refine lv_aload_n hx hb dX8_unhurt_137 rfl (lv_at hl 2 rfl) ?_
                      refine xg_get (C := RX8) (T := TX8) (N := 46) S hK hG (fun w h => List.mem_cons_of_mem _ (List.mem_append_right _ (h))) b hM.1 rfl 24 (by decide) k4 (fun _ h9 => h9) rfl dX8_unhurt_138 ?_
                      refine lv_iload hx hb dX8_unhurt_141 (lv_at hl 6 rfl) ?_
                      refine xg_ald S hK hG (b + 15) (show w3[b + 15]? = some (ad (b + 15), .inl (cI, 60, .inl (A4 14))) from hM.2.1 14 (by decide)) (i := nI k) (by first | assumption | exact vp_in_nI (by omega) (by decide)) dX8_unhurt_143 ?_
                      refine xg_ri (va_runV (As := [.int ((A4 13) ((nI k).toNatClampNeg)), .int ((A4 14) ((nI k).toNatClampNeg))]) (rest := [.int 10, .long x13]) S (mX8_oddsOf l D cI cZ bs ad w3 b A4 I5 L hM ((A4 13) ((nI k).toNatClampNeg)) ((A4 14) ((nI k).toNatClampNeg)) (by subst eA4 eI5 ex6 ev11 ev12 ex13; first | (have q9 := em_v42 c112; rw [hck] at q9 ⊢; exact (hev c22 k hk9).2 (.inl q9)) | (have q9 := c124; rw [hck] at q9 ⊢; exact (hev c22 k hk9).2 (.inr q9)))) (cwV 2 hts gX8_unhurt_X8_oddsOf rfl rfl rfl (by decide +kernel) ⟨Nat.le_of_ble_eq_true rfl, Nat.le_of_ble_eq_true rfl⟩) (xg_preV hK hG b hM.1 rfl rfl) rfl rfl hl.1 rfl (lv_room (Nat.le_of_ble_eq_true rfl)) dX8_unhurt_144 ⟨Nat.zero_le _, Nat.zero_le _⟩) (fun r20 hr20 => ?_)
                      replace hr20 := hr20.symm; subst hr20
                      refine lv_isub hx hb dX8_unhurt_147 ?_
                      refine lv_i2l (v := (10 - (em_odd A4 I5 ((A4 13) ((nI k).toNatClampNeg)) ((A4 14) ((nI k).toNatClampNeg)))).toInt64) hx hb dX8_unhurt_148 rfl ?_
                      refine lv_goto (tgt := 153) hx hb dX8_unhurt_149 (by decide) ?_
                      exact jn153_14 _ (by rw [if_pos c112]; rw [if_pos c124])
                refine lv_if_eq (tgt := 106) hx hb dX8_unhurt_78 (by decide) (fun c78 => ?_) (fun c78 => ?_)
                · skip
                  refine lv_lconst (v := 1) hx hb dX8_unhurt_106 (by decide) ?_
                  exact jn107_12 _ (by rw [if_pos c78])
                · skip
                  refine lv_bipush (v := 10) hx hb dX8_unhurt_81 (by decide) ?_
                  refine lv_aload_n hx hb dX8_unhurt_83 rfl (lv_at hl 1 rfl) ?_
                  refine lv_aload_n hx hb dX8_unhurt_84 rfl (lv_at hl 1 rfl) ?_
                  refine xg_get (C := RX8) (T := TX8) (N := 46) S hK hG (fun w h => List.mem_cons_of_mem _ (List.mem_append_right _ (h))) b hM.1 rfl 22 (by decide) k3 (fun _ h9 => h9) rfl dX8_unhurt_85 ?_
                  refine lv_iload hx hb dX8_unhurt_88 (lv_at hl 6 rfl) ?_
                  refine xg_ald S hK hG (b + 13) (show w3[b + 13]? = some (ad (b + 13), .inl (cI, 60, .inl (A4 12))) from hM.2.1 12 (by decide)) (i := nI k) (by first | assumption | exact vp_in_nI (by omega) (by decide)) dX8_unhurt_90 ?_
                  refine lv_aload_n hx hb dX8_unhurt_91 rfl (lv_at hl 1 rfl) ?_
                  refine xg_get (C := RX8) (T := TX8) (N := 46) S hK hG (fun w h => List.mem_cons_of_mem _ (List.mem_append_right _ (h))) b hM.1 rfl 24 (by decide) k4 (fun _ h9 => h9) rfl dX8_unhurt_92 ?_
                  refine lv_iload hx hb dX8_unhurt_95 (lv_at hl 6 rfl) ?_
                  refine xg_ald S hK hG (b + 15) (show w3[b + 15]? = some (ad (b + 15), .inl (cI, 60, .inl (A4 14))) from hM.2.1 14 (by decide)) (i := nI k) (by first | assumption | exact vp_in_nI (by omega) (by decide)) dX8_unhurt_97 ?_
                  refine xg_ri (va_runV (As := [.int ((A4 12) ((nI k).toNatClampNeg)), .int ((A4 14) ((nI k).toNatClampNeg))]) (rest := [.int 10, .long ((em_uhk (em_rfG A I n).1 (em_rfG A I n).2 k).2)]) S (mX8_oddsOf l D cI cZ bs ad w3 b A4 I5 L hM ((A4 12) ((nI k).toNatClampNeg)) ((A4 14) ((nI k).toNatClampNeg)) (by subst eA4 eI5 ex6 ev11; have q9 := em_v42 c78; rw [hck] at q9 ⊢; exact (hev c22 k hk9).1 q9)) (cwV 2 hts gX8_unhurt_X8_oddsOf rfl rfl rfl (by decide +kernel) ⟨Nat.le_of_ble_eq_true rfl, Nat.le_of_ble_eq_true rfl⟩) (xg_preV hK hG b hM.1 rfl rfl) rfl rfl hl.1 rfl (lv_room (Nat.le_of_ble_eq_true rfl)) dX8_unhurt_98 ⟨Nat.zero_le _, Nat.zero_le _⟩) (fun r21 hr21 => ?_)
                  replace hr21 := hr21.symm; subst hr21
                  refine lv_isub hx hb dX8_unhurt_101 ?_
                  refine lv_i2l (v := (10 - (em_odd A4 I5 ((A4 12) ((nI k).toNatClampNeg)) ((A4 14) ((nI k).toNatClampNeg)))).toInt64) hx hb dX8_unhurt_102 rfl ?_
                  refine lv_goto (tgt := 107) hx hb dX8_unhurt_103 (by decide) ?_
                  exact jn107_12 _ (by rw [if_neg c78])
              refine lv_icmp_ne (tgt := 72) hx hb dX8_unhurt_65 (by decide) (fun c65 => ?_) (fun c65 => ?_)
              · skip
                refine lv_iconst (v := 0) hx hb dX8_unhurt_72 (by decide) ?_
                exact jn73_11 _ (by rw [if_neg c65])
              · skip
                refine lv_iconst (v := 1) hx hb dX8_unhurt_68 (by decide) ?_
                refine lv_goto (tgt := 73) hx hb dX8_unhurt_69 (by decide) ?_
                exact jn73_11 _ (by rw [if_pos c65])
      exact lp40 (e + 1) 0 (by omega) (by omega) 1 rfl 0 rfl 0 rfl ls (lv_sub hl [4, 5, 3, 2, 1, 0] rfl)
    · skip
      refine lv_ldc2 (v := (-1000000000000000000)) hx hb hown k6 dX8_unhurt_25 ?_
      refine lv_iload_n hx hb dX8_unhurt_28 rfl (lv_at hl 0 rfl) ?_
      refine lv_i2l (v := x6.toInt64) hx hb dX8_unhurt_29 rfl ?_
      refine lv_ladd hx hb dX8_unhurt_30 ?_
      rw [hQ]
      exact xg_eml S hr hlk hK hG ⟨(by subst eA4 eI5 ex6; simp only [em_unh, c7, c22, if_true, if_false, Bool.false_eq_true]), (by rw [show ((em_tiG A I n w9).1) = A4 from (by subst eA4 eI5 ex6; unfold em_tiG; simp only [c7, if_true, if_false, Bool.false_eq_true])]; rw [show ((em_tiG A I n w9).2) = I5 from (by subst eA4 eI5 ex6; unfold em_tiG; simp only [c7, if_true, if_false, Bool.false_eq_true])]; exact hM), hSw3⟩ dX8_unhurt_31
  · skip
    refine lv_ldc2 (v := (-1000000000000000002)) hx hb hown k7 dX8_unhurt_10 ?_
    rw [hQ]
    exact xg_eml S hr hlk hK hG ⟨(by skip; simp only [em_unh, c7, if_true, if_false, Bool.false_eq_true]), (by rw [show ((em_tiG A I n w9).1) = A from (by skip; unfold em_tiG; simp only [c7, if_true, if_false, Bool.false_eq_true])]; rw [show ((em_tiG A I n w9).2) = I from (by skip; unfold em_tiG; simp only [c7, if_true, if_false, Bool.false_eq_true])]; exact hM), xv_S.rf⟩ dX8_unhurt_13
