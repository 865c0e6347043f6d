set_option maxHeartbeats 4000000 in
set_option maxRecDepth 100000 in
theorem mX8_year (l : Launch) (D : va_G) (cI cZ : ClassId) (bs : Nat) (ad : Nat → Nat) (ws : va_W) (b : Nat) (A : Nat → Nat → Int32) (I : Nat → Int32) (L : Int64) (hM : xv_M cI cZ ad ws b A I L) (s9 : Int32) (n9 : Int32) (wq : Int32) : Met l yX8_year wsX8_year ({ frames := 4, cells := 0, slots := 0, locals := 91 } : Room) (va_Pc [.ref (ad b), .int s9, .int n9, .int wq] (fun U => xg_W D cI cZ bs ws U)) (va_Qi (fun (r : Int32) (w : va_W) => r = em_yeR A I s9 n9 wq ∧ xv_M cI cZ ad w b ((em_yeG A I s9 n9 wq).1) ((em_yeG A I s9 n9 wq).2) L ∧ xv_S ws w b 24) (fun w t => xg_W D cI cZ bs w t) (xg_A bs)) 0 0 (xg_A bs) := by
  refine xg_met cX8_year 12 (some .int) RX8 (by decide) rfl rfl (Nat.le_of_ble_eq_true rfl) ?_
  intro pg en s m below meth c ls S hr hlk hnm hB hl
  have hK := hB.1
  have hG := xg_start hB
  obtain ⟨hx, hb, hml, hown, hts⟩ := id S
  have hl : lv_has ls 12 [(0, .ref (ad b)), (1, .int s9), (2, .int n9), (3, .int wq)] := hl
  obtain ⟨Q, hQ⟩ : ∃ Q, Q = MQ below (va_Qi (fun (r : Int32) (w : va_W) => r = em_yeR A I s9 n9 wq ∧ xv_M cI cZ ad w b ((em_yeG A I s9 n9 wq).1) ((em_yeG A I s9 n9 wq).2) L ∧ xv_S ws w b 24) (fun w t => xg_W D cI cZ bs w t) (xg_A bs)) ([.ref (ad b), .int s9, .int n9, .int wq] : List Value).toArray s 0 0 (xg_A bs) := ⟨_, rfl⟩
  rw [← hQ]
  have k0 := hts (.constantLong RX8 130 (9999)) (List.mem_of_getElem? (i := 1) rfl)
  have k1 := hts (.constantLong RX8 126 (99)) (List.mem_of_getElem? (i := 2) rfl)
  have k2 := hts (.constantLong RX8 231 (2)) (List.mem_of_getElem? (i := 3) rfl)
  have k3 := hts (.constantLong RX8 168 (75)) (List.mem_of_getElem? (i := 4) rfl)
  have k4 := hts (.constantLong RX8 170 (74)) (List.mem_of_getElem? (i := 5) rfl)
  have k5 := hts (.constantLong RX8 172 (65537)) (List.mem_of_getElem? (i := 6) rfl)
  have k6 := hts (.fieldLink RX8 22 "DareBridgeModel" "high" "[I") (List.mem_of_getElem? (i := 7) rfl)
  have k7 := hts (.fieldLink RX8 80 "DareBridgeModel" "step" "I") (List.mem_of_getElem? (i := 8) rfl)
  have k8 := hts (.fieldLink RX8 25 "DareBridgeModel" "fame" "[I") (List.mem_of_getElem? (i := 9) rfl)
  refine lv_iload_n hx hb dX8_year_0 rfl (lv_at hl 1 rfl) ?_
  refine lv_i2l (v := s9.toInt64) hx hb dX8_year_1 rfl ?_
  refine lv_lconst (v := 0) hx hb dX8_year_2 (by decide) ?_
  refine lv_ldc2 (v := 9999) hx hb hown k0 dX8_year_3 ?_
  refine xg_ri (va_runS (As := [.long s9.toInt64, .long 0, .long 9999]) (rest := []) S (mX8_in l D cI cZ bs ad ws s9.toInt64 0 9999) (va_cwS 3 hts gX8_year_X8_in rfl rfl rfl (by decide +kernel) ⟨Nat.le_of_ble_eq_true rfl, Nat.le_of_ble_eq_true rfl⟩) (xg_preS hK hG) rfl rfl hl.1 rfl (lv_room (Nat.le_of_ble_eq_true rfl)) dX8_year_6 ⟨Nat.zero_le _, Nat.zero_le _⟩) (fun r1 hr1 => ?_)
  replace hr1 := hr1.symm; subst hr1
  rw [xw_inL_lit s9 0 9999 0 9999 (by decide) (by decide)]
  refine xb_ifeq (tgt := 36) S dX8_year_9 (by decide) (fun c9 => ?_) (fun c9 => ?_)
  · skip
    refine lv_bipush (v := (-2)) hx hb dX8_year_36 (by decide) ?_
    rw [hQ]
    exact xg_emi S hr hlk hK hG ⟨(by skip; simp [em_yeR, em_yeV, c9]), (by rw [show ((em_yeG A I s9 n9 wq).1) = A from (by skip; simp [em_yeG, em_yeV, c9])]; rw [show ((em_yeG A I s9 n9 wq).2) = I from (by skip; simp [em_yeG, em_yeV, c9])]; exact hM), xv_S.rf⟩ dX8_year_38
  · skip
    refine lv_iload_n hx hb dX8_year_12 rfl (lv_at hl 2 rfl) ?_
    refine lv_i2l (v := n9.toInt64) hx hb dX8_year_13 rfl ?_
    refine lv_lconst (v := 1) hx hb dX8_year_14 (by decide) ?_
    refine lv_ldc2 (v := 99) hx hb hown k1 dX8_year_15 ?_
    refine xg_ri (va_runS (As := [.long n9.toInt64, .long 1, .long 99]) (rest := []) S (mX8_in l D cI cZ bs ad ws n9.toInt64 1 99) (va_cwS 3 hts gX8_year_X8_in rfl rfl rfl (by decide +kernel) ⟨Nat.le_of_ble_eq_true rfl, Nat.le_of_ble_eq_true rfl⟩) (xg_preS hK hG) rfl rfl hl.1 rfl (lv_room (Nat.le_of_ble_eq_true rfl)) dX8_year_18 ⟨Nat.zero_le _, Nat.zero_le _⟩) (fun r2 hr2 => ?_)
    replace hr2 := hr2.symm; subst hr2
    rw [xw_inL_lit n9 1 99 1 99 (by decide) (by decide)]
    refine xb_ifeq (tgt := 36) S dX8_year_21 (by decide) (fun c21 => ?_) (fun c21 => ?_)
    · skip
      refine lv_bipush (v := (-2)) hx hb dX8_year_36 (by decide) ?_
      rw [hQ]
      exact xg_emi S hr hlk hK hG ⟨(by skip; simp [em_yeR, em_yeV, c9, c21]), (by rw [show ((em_yeG A I s9 n9 wq).1) = A from (by skip; simp [em_yeG, em_yeV, c9, c21])]; rw [show ((em_yeG A I s9 n9 wq).2) = I from (by skip; simp [em_yeG, em_yeV, c9, c21])]; exact hM), xv_S.rf⟩ dX8_year_38
    · skip
      refine lv_iload_n hx hb dX8_year_24 rfl (lv_at hl 3 rfl) ?_
      refine lv_i2l (v := wq.toInt64) hx hb dX8_year_25 rfl ?_
      refine lv_lconst (v := 0) hx hb dX8_year_26 (by decide) ?_
      refine lv_ldc2 (v := 2) hx hb hown k2 dX8_year_27 ?_
      refine xg_ri (va_runS (As := [.long wq.toInt64, .long 0, .long 2]) (rest := []) S (mX8_in l D cI cZ bs ad ws wq.toInt64 0 2) (va_cwS 3 hts gX8_year_X8_in rfl rfl rfl (by decide +kernel) ⟨Nat.le_of_ble_eq_true rfl, Nat.le_of_ble_eq_true rfl⟩) (xg_preS hK hG) rfl rfl hl.1 rfl (lv_room (Nat.le_of_ble_eq_true rfl)) dX8_year_30 ⟨Nat.zero_le _, Nat.zero_le _⟩) (fun r3 hr3 => ?_)
      replace hr3 := hr3.symm; subst hr3
      rw [xw_inL_lit wq 0 2 0 2 (by decide) (by decide)]
      refine xb_ifne (tgt := 39) S dX8_year_33 (by decide) (fun c33 => ?_) (fun c33 => ?_)
      · skip
        obtain ⟨hq1, hq2, hq3⟩ := xw_inN (a := 1) (c := 99) c21 (by decide) (by decide)
        obtain ⟨hs1, -, hs3⟩ := xw_inN (a := 0) (c := 9999) c9 (by decide) (by decide)
        refine lv_aload_n hx hb dX8_year_39 rfl (lv_at hl 0 rfl) ?_
        refine xg_mv (va_runV (As := []) (rest := []) S (mX8_keepNow l D cI cZ bs ad ws b A I L hM) (cwV 0 hts gX8_year_X8_keepNow rfl rfl rfl (by decide +kernel) ⟨Nat.le_of_ble_eq_true rfl, Nat.le_of_ble_eq_true rfl⟩) (xg_preV hK hG b hM.1 rfl rfl) rfl rfl hl.1 rfl (lv_room (Nat.le_of_ble_eq_true rfl)) dX8_year_40 ⟨Nat.zero_le _, Nat.zero_le _⟩) hG (fun w5 H locs hr4 hG => ?_)
        obtain ⟨hvw5_0, hsw5⟩ := hr4
        have hM : xv_M cI cZ ad w5 b (em_kpk A 6) (va_up I 34 (I 14)) L := hvw5_0
        obtain ⟨A6, eA6⟩ : ∃ zz : Nat → Nat → Int32, (em_kpk A 6) = zz := ⟨_, rfl⟩
        rw [eA6] at hM
        obtain ⟨I7, eI7⟩ : ∃ zz : Nat → Int32, (va_up I 34 (I 14)) = zz := ⟨_, rfl⟩
        rw [eI7] at hM
        have hSw5 : xv_S ws w5 b 24 := hsw5.mono (by omega) (by omega)
        refine lv_iload_n hx hb dX8_year_43 rfl (lv_at hl 1 rfl) ?_
        refine lv_istore (lv' := [(4, .int s9), (0, .ref (ad b)), (1, .int s9), (2, .int n9), (3, .int wq)]) hx hb dX8_year_44 hl (by decide) rfl (fun ls hl => ?_)
        refine lv_iconst (v := 0) hx hb dX8_year_46 (by decide) ?_
        refine lv_istore (lv' := [(5, .int 0), (4, .int s9), (0, .ref (ad b)), (1, .int s9), (2, .int n9), (3, .int wq)]) hx hb dX8_year_47 hl (by decide) rfl (fun ls hl => ?_)
        refine lv_iconst (v := 0) hx hb dX8_year_49 (by decide) ?_
        refine lv_istore (lv' := [(6, .int 0), (5, .int 0), (4, .int s9), (0, .ref (ad b)), (1, .int s9), (2, .int n9), (3, .int wq)]) hx hb dX8_year_50 hl (by decide) rfl (fun ls hl => ?_)
        refine lv_iconst (v := 0) hx hb dX8_year_52 (by decide) ?_
        refine lv_istore (lv' := [(7, .int 0), (6, .int 0), (5, .int 0), (4, .int s9), (0, .ref (ad b)), (1, .int s9), (2, .int n9), (3, .int wq)]) hx hb dX8_year_53 hl (by decide) rfl (fun ls hl => ?_)
        refine lv_iconst (v := 1) hx hb dX8_year_55 (by decide) ?_
        refine lv_istore (lv' := [(8, .int 1), (7, .int 0), (6, .int 0), (5, .int 0), (4, .int s9), (0, .ref (ad b)), (1, .int s9), (2, .int n9), (3, .int wq)]) hx hb dX8_year_56 hl (by decide) rfl (fun ls hl => ?_)
        -- the loop at 58
        have lp58 : ∀ (fu : Nat) (k : Nat) (x8 : Int32) (A1 : Nat → Nat → Int32) (I1 : Nat → Int32) (d8 : Int32) (r8 : Int32) (u8 : Int32), (k ≤ n9.toNatClampNeg) → (n9.toNatClampNeg < k + fu) → (∃ j : Nat, j ≤ 65536 ∧ x8 = nI j) → (em_yea A I s9 n9.toNatClampNeg = em_yk (n9.toNatClampNeg - k) k (x8, A1, I1, d8, r8, u8)) → ∀ y58_8 : Int32, y58_8 = nI (k + 1) → ∀ (w58 : va_W) (H : Heap) (locs : List Loc), xg_H D bs w58 s.heap H locs → (xv_M cI cZ ad w58 b A1 I1 L) → xv_S ws w58 b 24 → ∀ (ls : Array Slot), lv_has ls 12 [(0, .ref (ad b)), (1, .int s9), (2, .int n9), (3, .int wq), (4, .int x8), (5, .int d8), (6, .int r8), (7, .int u8), (8, .int y58_8)] → W pg l en ({ frames := 4, cells := 0, slots := 0, locals := 91 } : Room) s m ([.ref (ad b), .int s9, .int n9, .int wq] : List Value).toArray below meth c H locs 0 0 Q (F0 m 58 ls []) := by
          intro fu
          induction fu with
          | zero =>
            intro k x8 A1 I1 d8 r8 u8 hk hf hx9 hr2
            exact absurd hf (by omega)
          | succ fu ih58 =>
            intro k x8 A1 I1 d8 r8 u8 hk hf hx9 hr2 y58_8 ey58_8
            intro w58 H locs hG hM hSw58
            intro ls hl
            replace ey58_8 := ey58_8.symm; subst ey58_8
            refine lv_iload hx hb dX8_year_58 (lv_at hl 8 rfl) ?_
            refine lv_iload_n hx hb dX8_year_60 rfl (lv_at hl 2 rfl) ?_
            refine lv_icmp_gt (tgt := 220) hx hb dX8_year_61 (by decide) (fun c61 => ?_) (fun c61 => ?_)
            · skip
              have hk9 : k = n9.toNatClampNeg := by have := xb_gt (k := k + 1) (n := n9.toNatClampNeg) (by omega) (by omega) (by rw [← hq1]; exact c61); omega
              have hfin : em_yea A I s9 n9.toNatClampNeg = (x8, A1, I1, d8, r8, u8) := by rw [hr2, hk9, Nat.sub_self]; rfl
              refine lv_aload_n hx hb dX8_year_220 rfl (lv_at hl 0 rfl) ?_
              refine xg_mv (va_runV (As := []) (rest := []) S (mX8_putBack l D cI cZ bs ad w58 b A1 I1 L hM) (cwV 0 hts gX8_year_X8_putBack rfl rfl rfl (by decide +kernel) ⟨Nat.le_of_ble_eq_true rfl, Nat.le_of_ble_eq_true rfl⟩) (xg_preV hK hG b hM.1 rfl rfl) rfl rfl hl.1 rfl (lv_room (Nat.le_of_ble_eq_true rfl)) dX8_year_221 ⟨Nat.zero_le _, Nat.zero_le _⟩) hG (fun w9 H locs hr8 hG => ?_)
              obtain ⟨hvw9_0, hsw9⟩ := hr8
              have hM : xv_M cI cZ ad w9 b (em_pbk A1 6) (va_up I1 14 (I1 34)) L := hvw9_0
              obtain ⟨A10, eA10⟩ : ∃ zz : Nat → Nat → Int32, (em_pbk A1 6) = zz := ⟨_, rfl⟩
              rw [eA10] at hM
              obtain ⟨I11, eI11⟩ : ∃ zz : Nat → Int32, (va_up I1 14 (I1 34)) = zz := ⟨_, rfl⟩
              rw [eI11] at hM
              have hSw9 : xv_S ws w9 b 24 := hSw58.trans (hsw9.mono (by omega) (by omega))
              refine lv_iload_n hx hb dX8_year_224 rfl (lv_at hl 3 rfl) ?_
              refine lv_if_ne (tgt := 233) hx hb dX8_year_225 (by decide) (fun c225 => ?_) (fun c225 => ?_)
              · skip
                refine lv_iload_n hx hb dX8_year_233 rfl (lv_at hl 3 rfl) ?_
                refine lv_iconst (v := 1) hx hb dX8_year_234 (by decide) ?_
                refine lv_icmp_ne (tgt := 243) hx hb dX8_year_235 (by decide) (fun c235 => ?_) (fun c235 => ?_)
                · skip
                  refine lv_iload hx hb dX8_year_243 (lv_at hl 7 rfl) ?_
                  rw [hQ]
                  exact xg_emi S hr hlk hK hG ⟨(by subst eA6 eI7 eA10 eI11; unfold em_yeR em_yew; rw [if_pos (by simp [em_yeV, c9, c21, c33]), hfin]; simp only [c9, c21, c33, c61, c225, c235, xs_10, if_true, if_false]), (by rw [show ((em_yeG A I s9 n9 wq).1) = A10 from (by subst eA6 eI7 eA10 eI11; unfold em_yeG em_pb; rw [if_pos (by simp [em_yeV, c9, c21, c33]), hfin])]; rw [show ((em_yeG A I s9 n9 wq).2) = I11 from (by subst eA6 eI7 eA10 eI11; unfold em_yeG em_pb; rw [if_pos (by simp [em_yeV, c9, c21, c33]), hfin])]; exact hM), hSw9⟩ dX8_year_245
                · skip
                  refine lv_iload hx hb dX8_year_238 (lv_at hl 6 rfl) ?_
                  refine lv_goto (tgt := 245) hx hb dX8_year_240 (by decide) ?_
                  rw [hQ]
                  exact xg_emi S hr hlk hK hG ⟨(by subst eA6 eI7 eA10 eI11; unfold em_yeR em_yew; rw [if_pos (by simp [em_yeV, c9, c21, c33]), hfin]; simp only [c9, c21, c33, c61, c225, c235, xs_10, if_true, if_false]), (by rw [show ((em_yeG A I s9 n9 wq).1) = A10 from (by subst eA6 eI7 eA10 eI11; unfold em_yeG em_pb; rw [if_pos (by simp [em_yeV, c9, c21, c33]), hfin])]; rw [show ((em_yeG A I s9 n9 wq).2) = I11 from (by subst eA6 eI7 eA10 eI11; unfold em_yeG em_pb; rw [if_pos (by simp [em_yeV, c9, c21, c33]), hfin])]; exact hM), hSw9⟩ dX8_year_245
              · skip
                refine lv_iload hx hb dX8_year_228 (lv_at hl 5 rfl) ?_
                refine lv_goto (tgt := 245) hx hb dX8_year_230 (by decide) ?_
                rw [hQ]
                exact xg_emi S hr hlk hK hG ⟨(by subst eA6 eI7 eA10 eI11; unfold em_yeR em_yew; rw [if_pos (by simp [em_yeV, c9, c21, c33]), hfin]; simp only [c9, c21, c33, c61, c225, xs_10, if_true, if_false]), (by rw [show ((em_yeG A I s9 n9 wq).1) = A10 from (by subst eA6 eI7 eA10 eI11; unfold em_yeG em_pb; rw [if_pos (by simp [em_yeV, c9, c21, c33]), hfin])]; rw [show ((em_yeG A I s9 n9 wq).2) = I11 from (by subst eA6 eI7 eA10 eI11; unfold em_yeG em_pb; rw [if_pos (by simp [em_yeV, c9, c21, c33]), hfin])]; exact hM), hSw9⟩ dX8_year_245
            · skip
              have hk9 : k < n9.toNatClampNeg := by have := xb_ngt (k := k + 1) (n := n9.toNatClampNeg) (by omega) (by omega) (by rw [← hq1]; exact c61); omega
              obtain ⟨ha9, hb9⟩ := em_m6 (em_dr6 hx9)
              refine lv_ldc2 (v := 75) hx hb hown k3 dX8_year_64 ?_
              refine lv_iload hx hb dX8_year_67 (lv_at hl 4 rfl) ?_
              refine lv_i2l (v := x8.toInt64) hx hb dX8_year_69 rfl ?_
              refine lv_lmul hx hb dX8_year_70 ?_
              refine lv_ldc2 (v := 74) hx hb hown k4 dX8_year_71 ?_
              refine lv_ladd hx hb dX8_year_74 ?_
              refine lv_ldc2 (v := 65537) hx hb hown k5 dX8_year_75 ?_
              refine lv_lrem hx hb dX8_year_78 (by decide) ?_
              refine lv_l2i (v := (((75 * x8.toInt64) + 74) - ((75 * x8.toInt64) + 74) / 65537 * 65537).toInt32) hx hb dX8_year_79 rfl ?_
              refine lv_topi (fun x12 ex12 => ?_)
              replace ex12 := ex12.symm
              refine lv_istore (lv' := [(4, .int x12), (0, .ref (ad b)), (1, .int s9), (2, .int n9), (3, .int wq), (5, .int d8), (6, .int r8), (7, .int u8), (8, .int (nI (k + 1)))]) hx hb dX8_year_80 hl (by decide) rfl (fun ls hl => ?_)
              refine lv_iload hx hb dX8_year_82 (lv_at hl 0 rfl) ?_
              refine lv_bipush (v := 6) hx hb dX8_year_84 (by decide) ?_
              refine lv_irem hx hb dX8_year_86 (by decide) ?_
              refine lv_topi (fun x13 ex13 => ?_)
              replace ex13 := ex13.symm
              refine lv_istore (lv' := [(9, .int x13), (4, .int x12), (0, .ref (ad b)), (1, .int s9), (2, .int n9), (3, .int wq), (5, .int d8), (6, .int r8), (7, .int u8), (8, .int (nI (k + 1)))]) hx hb dX8_year_87 hl (by decide) rfl (fun ls hl => ?_)
              refine lv_iload hx hb dX8_year_89 (lv_at hl 1 rfl) ?_
              refine lv_bipush (v := 6) hx hb dX8_year_91 (by decide) ?_
              refine lv_idiv hx hb dX8_year_93 (by decide) ?_
              refine lv_bipush (v := 6) hx hb dX8_year_94 (by decide) ?_
              refine lv_irem hx hb dX8_year_96 (by decide) ?_
              refine lv_topi (fun x14 ex14 => ?_)
              replace ex14 := ex14.symm
              refine lv_istore (lv' := [(10, .int x14), (9, .int x13), (4, .int x12), (0, .ref (ad b)), (1, .int s9), (2, .int n9), (3, .int wq), (5, .int d8), (6, .int r8), (7, .int u8), (8, .int (nI (k + 1)))]) hx hb dX8_year_97 hl (by decide) rfl (fun ls hl => ?_)
              refine lv_aload_n hx hb dX8_year_99 rfl (lv_at hl 3 rfl) ?_
              refine xg_get (C := RX8) (T := TX8) (N := 46) S hK hG (fun w h => List.mem_cons_of_mem _ (List.mem_append_right _ (h))) b hM.1 rfl 5 (by decide) k6 (fun _ h9 => h9) rfl dX8_year_100 ?_
              refine lv_iload hx hb dX8_year_103 (lv_at hl 1 rfl) ?_
              refine xg_ald S hK hG (b + 5) (show w58[b + 5]? = some (ad (b + 5), .inl (cI, 6, .inl (A1 4))) from hM.2.1 4 (by decide)) (i := x13) (by subst eA6 eI7 ex12 ex13 ex14; exact ha9) dX8_year_105 ?_
              refine lv_aload_n hx hb dX8_year_106 rfl (lv_at hl 3 rfl) ?_
              refine xg_get (C := RX8) (T := TX8) (N := 46) S hK hG (fun w h => List.mem_cons_of_mem _ (List.mem_append_right _ (h))) b hM.1 rfl 8 (by decide) k7 (fun _ h9 => h9) rfl dX8_year_107 ?_
              refine lv_iadd hx hb dX8_year_110 ?_
              refine lv_bipush (v := 15) hx hb dX8_year_111 (by decide) ?_
              have jn133_15 : ∀ v15 : Int32, v15 = ((if 15 ≤ (((A1 4) x13.toNatClampNeg) + (I1 8)) then 15 else ((A1 4) x13.toNatClampNeg) + (I1 8)) : Int32) → W pg l en ({ frames := 4, cells := 0, slots := 0, locals := 91 } : Room) s m ([.ref (ad b), .int s9, .int n9, .int wq] : List Value).toArray below meth c H locs 0 0 Q (F0 m 133 ls [.int v15]) := by
                intro v15 ev15
                replace ev15 := ev15.symm
                refine lv_istore (lv' := [(11, .int v15), (10, .int x14), (9, .int x13), (4, .int x12), (0, .ref (ad b)), (1, .int s9), (2, .int n9), (3, .int wq), (5, .int d8), (6, .int r8), (7, .int u8), (8, .int (nI (k + 1)))]) hx hb dX8_year_133 hl (by decide) rfl (fun ls hl => ?_)
                refine lv_aload_n hx hb dX8_year_135 rfl (lv_at hl 4 rfl) ?_
                refine lv_iload hx hb dX8_year_136 (lv_at hl 2 rfl) ?_
                refine lv_iload hx hb dX8_year_138 (lv_at hl 1 rfl) ?_
                refine lv_iload hx hb dX8_year_140 (lv_at hl 0 rfl) ?_
                refine xg_ri (va_runV (As := [.int x13, .int x14, .int v15]) (rest := []) S (mX8_whyNot l D cI cZ bs ad w58 b A1 I1 L hM x13 x14 v15) (cwV 3 hts gX8_year_X8_whyNot rfl rfl rfl (by decide +kernel) ⟨Nat.le_of_ble_eq_true rfl, Nat.le_of_ble_eq_true rfl⟩) (xg_preV hK hG b hM.1 rfl rfl) rfl rfl hl.1 rfl (lv_room (Nat.le_of_ble_eq_true rfl)) dX8_year_142 ⟨Nat.zero_le _, Nat.zero_le _⟩) (fun r16 hr16 => ?_)
                replace hr16 := hr16.symm; subst hr16
                refine lv_if_ne (tgt := 203) hx hb dX8_year_145 (by decide) (fun c145 => ?_) (fun c145 => ?_)
                · skip
                  refine lv_iload hx hb dX8_year_203 (lv_at hl 11 rfl) ?_
                  refine lv_iconst (v := 3) hx hb dX8_year_205 (by decide) ?_
                  refine lv_irem hx hb dX8_year_206 (by decide) ?_
                  refine lv_if_ne (tgt := 214) hx hb dX8_year_207 (by decide) (fun c207 => ?_) (fun c207 => ?_)
                  · skip
                    obtain ⟨x17, ex17⟩ : ∃ zz : Int32, ((nI (k + 1)) + 1) = zz := ⟨_, rfl⟩
                    refine lv_iinc (v := x17) (lv' := [(8, .int x17), (11, .int v15), (10, .int x14), (9, .int x13), (4, .int x12), (0, .ref (ad b)), (1, .int s9), (2, .int n9), (3, .int wq), (5, .int d8), (6, .int r8), (7, .int u8)]) hx hb dX8_year_214 hl (k := 11) rfl (by rw [← ex17]; rfl) (by decide) rfl (fun ls hl => ?_)
                    refine lv_goto (tgt := 58) hx hb dX8_year_217 (by decide) ?_
                    exact ih58 (k + 1) x12 A1 I1 d8 r8 u8 (by omega) (by omega) (by subst eA6 eI7 ex12 ex13 ex14 ev15 ex17; exact em_dr6 hx9) (by subst eA6 eI7 ex17; rw [hr2, em_yk_S hk9]; first | exact congrArg (em_yk (n9.toNatClampNeg - (k + 1)) (k + 1)) (em_ys_b ex12 ex13 ex14 ev15 (em_yd_0 c145) (em_yn_0 c207)) | exact congrArg (em_yk (n9.toNatClampNeg - (k + 1)) (k + 1)) (em_ys_b ex12 ex13 ex14 ev15 (em_yd_0 c145) (em_yn_1 c207)) | exact congrArg (em_yk (n9.toNatClampNeg - (k + 1)) (k + 1)) (em_ys_b ex12 ex13 ex14 ev15 (em_yd_1 c145 c156) (em_yn_0 c207)) | exact congrArg (em_yk (n9.toNatClampNeg - (k + 1)) (k + 1)) (em_ys_b ex12 ex13 ex14 ev15 (em_yd_1 c145 c156) (em_yn_1 c207)) | exact congrArg (em_yk (n9.toNatClampNeg - (k + 1)) (k + 1)) (em_ys_b ex12 ex13 ex14 ev15 (em_yd_2 c145 c156) (em_yn_0 c207)) | exact congrArg (em_yk (n9.toNatClampNeg - (k + 1)) (k + 1)) (em_ys_b ex12 ex13 ex14 ev15 (em_yd_2 c145 c156) (em_yn_1 c207))) x17 (by subst eA6 eI7 ex12 ex13 ex14 ev15 ex17; exact nI_1 (k + 1)) w58 _ _ hG hM hSw58 ls (lv_sub hl [5, 6, 7, 8, 4, 9, 10, 11, 0] rfl)
                  · skip
                    refine lv_aload_n hx hb dX8_year_210 rfl (lv_at hl 4 rfl) ?_
                    refine xg_mv (va_runV (As := []) (rest := []) S (mX8_passNight l D cI cZ bs ad w58 b A1 I1 L hM) (cwV 0 hts gX8_year_X8_passNight rfl rfl rfl (by decide +kernel) ⟨Nat.le_of_ble_eq_true rfl, Nat.le_of_ble_eq_true rfl⟩) (xg_preV hK hG b hM.1 rfl rfl) rfl rfl hl.1 rfl (lv_room (Nat.le_of_ble_eq_true rfl)) dX8_year_211 ⟨Nat.zero_le _, Nat.zero_le _⟩) hG (fun w19 H locs hr18 hG => ?_)
                    obtain ⟨hvw19_0, hsw19⟩ := hr18
                    have hM : xv_M cI cZ ad w19 b (em_nik A1 (I1 11) 6) I1 L := hvw19_0
                    obtain ⟨A20, eA20⟩ : ∃ zz : Nat → Nat → Int32, (em_nik A1 (I1 11) 6) = zz := ⟨_, rfl⟩
                    rw [eA20] at hM
                    have hSw19 : xv_S ws w19 b 24 := hSw58.trans (hsw19.mono (by omega) (by omega))
                    obtain ⟨x21, ex21⟩ : ∃ zz : Int32, ((nI (k + 1)) + 1) = zz := ⟨_, rfl⟩
                    refine lv_iinc (v := x21) (lv' := [(8, .int x21), (11, .int v15), (10, .int x14), (9, .int x13), (4, .int x12), (0, .ref (ad b)), (1, .int s9), (2, .int n9), (3, .int wq), (5, .int d8), (6, .int r8), (7, .int u8)]) hx hb dX8_year_214 hl (k := 11) rfl (by rw [← ex21]; rfl) (by decide) rfl (fun ls hl => ?_)
                    refine lv_goto (tgt := 58) hx hb dX8_year_217 (by decide) ?_
                    exact ih58 (k + 1) x12 A20 I1 d8 r8 u8 (by omega) (by omega) (by subst eA6 eI7 ex12 ex13 ex14 ev15 eA20 ex21; exact em_dr6 hx9) (by subst eA6 eI7 eA20 ex21; rw [hr2, em_yk_S hk9]; first | exact congrArg (em_yk (n9.toNatClampNeg - (k + 1)) (k + 1)) (em_ys_b ex12 ex13 ex14 ev15 (em_yd_0 c145) (em_yn_0 c207)) | exact congrArg (em_yk (n9.toNatClampNeg - (k + 1)) (k + 1)) (em_ys_b ex12 ex13 ex14 ev15 (em_yd_0 c145) (em_yn_1 c207)) | exact congrArg (em_yk (n9.toNatClampNeg - (k + 1)) (k + 1)) (em_ys_b ex12 ex13 ex14 ev15 (em_yd_1 c145 c156) (em_yn_0 c207)) | exact congrArg (em_yk (n9.toNatClampNeg - (k + 1)) (k + 1)) (em_ys_b ex12 ex13 ex14 ev15 (em_yd_1 c145 c156) (em_yn_1 c207)) | exact congrArg (em_yk (n9.toNatClampNeg - (k + 1)) (k + 1)) (em_ys_b ex12 ex13 ex14 ev15 (em_yd_2 c145 c156) (em_yn_0 c207)) | exact congrArg (em_yk (n9.toNatClampNeg - (k + 1)) (k + 1)) (em_ys_b ex12 ex13 ex14 ev15 (em_yd_2 c145 c156) (em_yn_1 c207))) x21 (by subst eA6 eI7 ex12 ex13 ex14 ev15 eA20 ex21; exact nI_1 (k + 1)) w19 _ _ hG hM hSw19 ls (lv_sub hl [5, 6, 7, 8, 4, 9, 10, 11, 0] rfl)
                · skip
                  refine lv_aload_n hx hb dX8_year_148 rfl (lv_at hl 4 rfl) ?_
                  refine lv_iload hx hb dX8_year_149 (lv_at hl 1 rfl) ?_
                  refine lv_iload hx hb dX8_year_151 (lv_at hl 0 rfl) ?_
                  refine xg_ri (va_runV (As := [.int x14, .int v15]) (rest := []) S (mX8_doesIt l D cI cZ bs ad w58 b A1 I1 L hM x14 v15 (by subst eA6 eI7 ex12 ex13 ex14 ev15; exact hb9)) (cwV 2 hts gX8_year_X8_doesIt rfl rfl rfl (by decide +kernel) ⟨Nat.le_of_ble_eq_true rfl, Nat.le_of_ble_eq_true rfl⟩) (xg_preV hK hG b hM.1 rfl rfl) rfl rfl hl.1 rfl (lv_room (Nat.le_of_ble_eq_true rfl)) dX8_year_153 ⟨Nat.zero_le _, Nat.zero_le _⟩) (fun r22 hr22 => ?_)
                  replace hr22 := hr22.symm; subst hr22
                  refine xb_ifeq (tgt := 186) S dX8_year_156 (by decide) (fun c156 => ?_) (fun c156 => ?_)
                  · skip
                    refine lv_aload_n hx hb dX8_year_186 rfl (lv_at hl 4 rfl) ?_
                    refine xg_get (C := RX8) (T := TX8) (N := 46) S hK hG (fun w h => List.mem_cons_of_mem _ (List.mem_append_right _ (h))) b hM.1 rfl 6 (by decide) k8 (fun _ h9 => h9) rfl dX8_year_187 ?_
                    refine lv_iload hx hb dX8_year_190 (lv_at hl 1 rfl) ?_
                    refine lv_dup2_11 hx hb dX8_year_192 rfl rfl ?_
                    refine xg_ald S hK hG (b + 6) (show w58[b + 6]? = some (ad (b + 6), .inl (cI, 6, .inl (A1 5))) from hM.2.1 5 (by decide)) (i := x14) (by subst eA6 eI7 ex12 ex13 ex14 ev15; exact hb9) dX8_year_193 ?_
                    refine lv_iload hx hb dX8_year_194 (lv_at hl 0 rfl) ?_
                    refine lv_iconst (v := 2) hx hb dX8_year_196 (by decide) ?_
                    refine lv_idiv hx hb dX8_year_197 (by decide) ?_
                    refine lv_isub hx hb dX8_year_198 ?_
                    refine xg_ast2 S hK hG (b + 6) (show w58[b + 6]? = some (ad (b + 6), .inl (cI, 6, .inl (A1 5))) from hM.2.1 5 (by decide)) (i := x14) (x := ((A1 5) x14.toNatClampNeg) - (v15 / 2)) (by subst eA6 eI7 ex12 ex13 ex14 ev15; exact hb9) dX8_year_199 (fun w23 H locs hw23 hG => ?_)
                    have hs24 : xv_S w58 w23 (b + 6) 1 := by rw [hw23]; exact xv_S.set (by omega) (by omega)
                    obtain ⟨A25, eA25⟩ : ∃ zz : Nat → Nat → Int32, (va_up A1 5 (upd (A1 5) x14.toNatClampNeg (((A1 5) x14.toNatClampNeg) - (v15 / 2)))) = zz := ⟨_, rfl⟩
                    have hM : xv_M cI cZ ad w23 b A25 I1 L := by rw [hw23, ← eA25]; exact hM.row 5 (by decide)
                    have hSw23 : xv_S ws w23 b 24 := hSw58.trans (hs24.mono (by omega) (by omega))
                    obtain ⟨x26, ex26⟩ : ∃ zz : Int32, (r8 + 1) = zz := ⟨_, rfl⟩
                    refine lv_iinc (v := x26) (lv' := [(6, .int x26), (11, .int v15), (10, .int x14), (9, .int x13), (4, .int x12), (0, .ref (ad b)), (1, .int s9), (2, .int n9), (3, .int wq), (5, .int d8), (7, .int u8), (8, .int (nI (k + 1)))]) hx hb dX8_year_200 hl (k := 9) rfl (by rw [← ex26]; rfl) (by decide) rfl (fun ls hl => ?_)
                    refine lv_iload hx hb dX8_year_203 (lv_at hl 11 rfl) ?_
                    refine lv_iconst (v := 3) hx hb dX8_year_205 (by decide) ?_
                    refine lv_irem hx hb dX8_year_206 (by decide) ?_
                    refine lv_if_ne (tgt := 214) hx hb dX8_year_207 (by decide) (fun c207 => ?_) (fun c207 => ?_)
                    · skip
                      obtain ⟨x27, ex27⟩ : ∃ zz : Int32, ((nI (k + 1)) + 1) = zz := ⟨_, rfl⟩
                      refine lv_iinc (v := x27) (lv' := [(8, .int x27), (6, .int x26), (11, .int v15), (10, .int x14), (9, .int x13), (4, .int x12), (0, .ref (ad b)), (1, .int s9), (2, .int n9), (3, .int wq), (5, .int d8), (7, .int u8)]) hx hb dX8_year_214 hl (k := 11) rfl (by rw [← ex27]; rfl) (by decide) rfl (fun ls hl => ?_)
                      refine lv_goto (tgt := 58) hx hb dX8_year_217 (by decide) ?_
                      exact ih58 (k + 1) x12 A25 I1 d8 x26 u8 (by omega) (by omega) (by subst eA6 eI7 ex12 ex13 ex14 ev15 eA25 ex26 ex27; exact em_dr6 hx9) (by subst eA6 eI7 eA25 ex26 ex27; rw [hr2, em_yk_S hk9]; first | exact congrArg (em_yk (n9.toNatClampNeg - (k + 1)) (k + 1)) (em_ys_b ex12 ex13 ex14 ev15 (em_yd_0 c145) (em_yn_0 c207)) | exact congrArg (em_yk (n9.toNatClampNeg - (k + 1)) (k + 1)) (em_ys_b ex12 ex13 ex14 ev15 (em_yd_0 c145) (em_yn_1 c207)) | exact congrArg (em_yk (n9.toNatClampNeg - (k + 1)) (k + 1)) (em_ys_b ex12 ex13 ex14 ev15 (em_yd_1 c145 c156) (em_yn_0 c207)) | exact congrArg (em_yk (n9.toNatClampNeg - (k + 1)) (k + 1)) (em_ys_b ex12 ex13 ex14 ev15 (em_yd_1 c145 c156) (em_yn_1 c207)) | exact congrArg (em_yk (n9.toNatClampNeg - (k + 1)) (k + 1)) (em_ys_b ex12 ex13 ex14 ev15 (em_yd_2 c145 c156) (em_yn_0 c207)) | exact congrArg (em_yk (n9.toNatClampNeg - (k + 1)) (k + 1)) (em_ys_b ex12 ex13 ex14 ev15 (em_yd_2 c145 c156) (em_yn_1 c207))) x27 (by subst eA6 eI7 ex12 ex13 ex14 ev15 eA25 ex26 ex27; exact nI_1 (k + 1)) w23 _ _ hG hM hSw23 ls (lv_sub hl [6, 7, 8, 9, 5, 10, 1, 11, 0] rfl)
                    · skip
                      refine lv_aload_n hx hb dX8_year_210 rfl (lv_at hl 5 rfl) ?_
                      refine xg_mv (va_runV (As := []) (rest := []) S (mX8_passNight l D cI cZ bs ad w23 b A25 I1 L hM) (cwV 0 hts gX8_year_X8_passNight rfl rfl rfl (by decide +kernel) ⟨Nat.le_of_ble_eq_true rfl, Nat.le_of_ble_eq_true rfl⟩) (xg_preV hK hG b hM.1 rfl rfl) rfl rfl hl.1 rfl (lv_room (Nat.le_of_ble_eq_true rfl)) dX8_year_211 ⟨Nat.zero_le _, Nat.zero_le _⟩) hG (fun w29 H locs hr28 hG => ?_)
                      obtain ⟨hvw29_0, hsw29⟩ := hr28
                      have hM : xv_M cI cZ ad w29 b (em_nik A25 (I1 11) 6) I1 L := hvw29_0
                      obtain ⟨A30, eA30⟩ : ∃ zz : Nat → Nat → Int32, (em_nik A25 (I1 11) 6) = zz := ⟨_, rfl⟩
                      rw [eA30] at hM
                      have hSw29 : xv_S ws w29 b 24 := hSw23.trans (hsw29.mono (by omega) (by omega))
                      obtain ⟨x31, ex31⟩ : ∃ zz : Int32, ((nI (k + 1)) + 1) = zz := ⟨_, rfl⟩
                      refine lv_iinc (v := x31) (lv' := [(8, .int x31), (6, .int x26), (11, .int v15), (10, .int x14), (9, .int x13), (4, .int x12), (0, .ref (ad b)), (1, .int s9), (2, .int n9), (3, .int wq), (5, .int d8), (7, .int u8)]) hx hb dX8_year_214 hl (k := 11) rfl (by rw [← ex31]; rfl) (by decide) rfl (fun ls hl => ?_)
                      refine lv_goto (tgt := 58) hx hb dX8_year_217 (by decide) ?_
                      exact ih58 (k + 1) x12 A30 I1 d8 x26 u8 (by omega) (by omega) (by subst eA6 eI7 ex12 ex13 ex14 ev15 eA25 ex26 eA30 ex31; exact em_dr6 hx9) (by subst eA6 eI7 eA25 ex26 eA30 ex31; rw [hr2, em_yk_S hk9]; first | exact congrArg (em_yk (n9.toNatClampNeg - (k + 1)) (k + 1)) (em_ys_b ex12 ex13 ex14 ev15 (em_yd_0 c145) (em_yn_0 c207)) | exact congrArg (em_yk (n9.toNatClampNeg - (k + 1)) (k + 1)) (em_ys_b ex12 ex13 ex14 ev15 (em_yd_0 c145) (em_yn_1 c207)) | exact congrArg (em_yk (n9.toNatClampNeg - (k + 1)) (k + 1)) (em_ys_b ex12 ex13 ex14 ev15 (em_yd_1 c145 c156) (em_yn_0 c207)) | exact congrArg (em_yk (n9.toNatClampNeg - (k + 1)) (k + 1)) (em_ys_b ex12 ex13 ex14 ev15 (em_yd_1 c145 c156) (em_yn_1 c207)) | exact congrArg (em_yk (n9.toNatClampNeg - (k + 1)) (k + 1)) (em_ys_b ex12 ex13 ex14 ev15 (em_yd_2 c145 c156) (em_yn_0 c207)) | exact congrArg (em_yk (n9.toNatClampNeg - (k + 1)) (k + 1)) (em_ys_b ex12 ex13 ex14 ev15 (em_yd_2 c145 c156) (em_yn_1 c207))) x31 (by subst eA6 eI7 ex12 ex13 ex14 ev15 eA25 ex26 eA30 ex31; exact nI_1 (k + 1)) w29 _ _ hG hM hSw29 ls (lv_sub hl [6, 7, 8, 9, 5, 10, 1, 11, 0] rfl)
                  · skip
                    obtain ⟨x32, ex32⟩ : ∃ zz : Int32, (d8 + 1) = zz := ⟨_, rfl⟩
                    refine lv_iinc (v := x32) (lv' := [(5, .int x32), (11, .int v15), (10, .int x14), (9, .int x13), (4, .int x12), (0, .ref (ad b)), (1, .int s9), (2, .int n9), (3, .int wq), (6, .int r8), (7, .int u8), (8, .int (nI (k + 1)))]) hx hb dX8_year_159 hl (k := 8) rfl (by rw [← ex32]; rfl) (by decide) rfl (fun ls hl => ?_)
                    refine lv_iload hx hb dX8_year_162 (lv_at hl 10 rfl) ?_
                    refine lv_aload_n hx hb dX8_year_164 rfl (lv_at hl 5 rfl) ?_
                    refine lv_iload hx hb dX8_year_165 (lv_at hl 2 rfl) ?_
                    refine lv_iload hx hb dX8_year_167 (lv_at hl 1 rfl) ?_
                    refine xg_mi (va_runV (As := [.int x14, .int v15]) (rest := [.int u8]) S (mX8_doIt l D cI cZ bs ad w58 b A1 I1 L hM x14 v15 (by subst eA6 eI7 ex12 ex13 ex14 ev15 ex32; exact hb9)) (cwV 2 hts gX8_year_X8_doIt rfl rfl rfl (by decide +kernel) ⟨Nat.le_of_ble_eq_true rfl, Nat.le_of_ble_eq_true rfl⟩) (xg_preV hK hG b hM.1 rfl rfl) rfl rfl hl.1 rfl (lv_room (Nat.le_of_ble_eq_true rfl)) dX8_year_169 ⟨Nat.zero_le _, Nat.zero_le _⟩) hG (fun r33 w34 H locs hr33 hG => ?_)
                    obtain ⟨hr33, hvw34_0, hsw34⟩ := hr33
                    replace hr33 := hr33.symm; subst hr33
                    have hM : xv_M cI cZ ad w34 b (em_doT A1 I1 x14 v15) (em_doI I1) L := hvw34_0
                    obtain ⟨A35, eA35⟩ : ∃ zz : Nat → Nat → Int32, (em_doT A1 I1 x14 v15) = zz := ⟨_, rfl⟩
                    rw [eA35] at hM
                    obtain ⟨I36, eI36⟩ : ∃ zz : Nat → Int32, (em_doI I1) = zz := ⟨_, rfl⟩
                    rw [eI36] at hM
                    have hSw34 : xv_S ws w34 b 24 := hSw58.trans (hsw34.mono (by omega) (by omega))
                    have jn180_37 : ∀ v37 : Int32, v37 = ((if decide (em_doH A1 I1 x14 v15 = 0) = true then 0 else 1) : Int32) → W pg l en ({ frames := 4, cells := 0, slots := 0, locals := 91 } : Room) s m ([.ref (ad b), .int s9, .int n9, .int wq] : List Value).toArray below meth c H locs 0 0 Q (F0 m 180 ls [.int v37, .int u8]) := by
                      intro v37 ev37
                      replace ev37 := ev37.symm
                      refine lv_iadd hx hb dX8_year_180 ?_
                      refine lv_topi (fun x38 ex38 => ?_)
                      replace ex38 := ex38.symm
                      refine lv_istore (lv' := [(7, .int x38), (5, .int x32), (11, .int v15), (10, .int x14), (9, .int x13), (4, .int x12), (0, .ref (ad b)), (1, .int s9), (2, .int n9), (3, .int wq), (6, .int r8), (8, .int (nI (k + 1)))]) hx hb dX8_year_181 hl (by decide) rfl (fun ls hl => ?_)
                      refine lv_goto (tgt := 203) hx hb dX8_year_183 (by decide) ?_
                      refine lv_iload hx hb dX8_year_203 (lv_at hl 11 rfl) ?_
                      refine lv_iconst (v := 3) hx hb dX8_year_205 (by decide) ?_
                      refine lv_irem hx hb dX8_year_206 (by decide) ?_
                      refine lv_if_ne (tgt := 214) hx hb dX8_year_207 (by decide) (fun c207 => ?_) (fun c207 => ?_)
                      · skip
                        obtain ⟨x39, ex39⟩ : ∃ zz : Int32, ((nI (k + 1)) + 1) = zz := ⟨_, rfl⟩
                        refine lv_iinc (v := x39) (lv' := [(8, .int x39), (7, .int x38), (5, .int x32), (11, .int v15), (10, .int x14), (9, .int x13), (4, .int x12), (0, .ref (ad b)), (1, .int s9), (2, .int n9), (3, .int wq), (6, .int r8)]) hx hb dX8_year_214 hl (k := 11) rfl (by rw [← ex39]; rfl) (by decide) rfl (fun ls hl => ?_)
                        refine lv_goto (tgt := 58) hx hb dX8_year_217 (by decide) ?_
                        exact ih58 (k + 1) x12 A35 I36 x32 r8 x38 (by omega) (by omega) (by subst eA6 eI7 ex12 ex13 ex14 ev15 ex32 eA35 eI36 ev37 ex38 ex39; exact em_dr6 hx9) (by subst eA6 eI7 ex32 eA35 eI36 ev37 ex38 ex39; rw [hr2, em_yk_S hk9]; first | exact congrArg (em_yk (n9.toNatClampNeg - (k + 1)) (k + 1)) (em_ys_b ex12 ex13 ex14 ev15 (em_yd_0 c145) (em_yn_0 c207)) | exact congrArg (em_yk (n9.toNatClampNeg - (k + 1)) (k + 1)) (em_ys_b ex12 ex13 ex14 ev15 (em_yd_0 c145) (em_yn_1 c207)) | exact congrArg (em_yk (n9.toNatClampNeg - (k + 1)) (k + 1)) (em_ys_b ex12 ex13 ex14 ev15 (em_yd_1 c145 c156) (em_yn_0 c207)) | exact congrArg (em_yk (n9.toNatClampNeg - (k + 1)) (k + 1)) (em_ys_b ex12 ex13 ex14 ev15 (em_yd_1 c145 c156) (em_yn_1 c207)) | exact congrArg (em_yk (n9.toNatClampNeg - (k + 1)) (k + 1)) (em_ys_b ex12 ex13 ex14 ev15 (em_yd_2 c145 c156) (em_yn_0 c207)) | exact congrArg (em_yk (n9.toNatClampNeg - (k + 1)) (k + 1)) (em_ys_b ex12 ex13 ex14 ev15 (em_yd_2 c145 c156) (em_yn_1 c207))) x39 (by subst eA6 eI7 ex12 ex13 ex14 ev15 ex32 eA35 eI36 ev37 ex38 ex39; exact nI_1 (k + 1)) w34 _ _ hG hM hSw34 ls (lv_sub hl [7, 8, 9, 10, 6, 2, 11, 1, 0] rfl)
                      · skip
                        refine lv_aload_n hx hb dX8_year_210 rfl (lv_at hl 6 rfl) ?_
                        refine xg_mv (va_runV (As := []) (rest := []) S (mX8_passNight l D cI cZ bs ad w34 b A35 I36 L hM) (cwV 0 hts gX8_year_X8_passNight rfl rfl rfl (by decide +kernel) ⟨Nat.le_of_ble_eq_true rfl, Nat.le_of_ble_eq_true rfl⟩) (xg_preV hK hG b hM.1 rfl rfl) rfl rfl hl.1 rfl (lv_room (Nat.le_of_ble_eq_true rfl)) dX8_year_211 ⟨Nat.zero_le _, Nat.zero_le _⟩) hG (fun w41 H locs hr40 hG => ?_)
                        obtain ⟨hvw41_0, hsw41⟩ := hr40
                        have hM : xv_M cI cZ ad w41 b (em_nik A35 (I36 11) 6) I36 L := hvw41_0
                        obtain ⟨A42, eA42⟩ : ∃ zz : Nat → Nat → Int32, (em_nik A35 (I36 11) 6) = zz := ⟨_, rfl⟩
                        rw [eA42] at hM
                        have hSw41 : xv_S ws w41 b 24 := hSw34.trans (hsw41.mono (by omega) (by omega))
                        obtain ⟨x43, ex43⟩ : ∃ zz : Int32, ((nI (k + 1)) + 1) = zz := ⟨_, rfl⟩
                        refine lv_iinc (v := x43) (lv' := [(8, .int x43), (7, .int x38), (5, .int x32), (11, .int v15), (10, .int x14), (9, .int x13), (4, .int x12), (0, .ref (ad b)), (1, .int s9), (2, .int n9), (3, .int wq), (6, .int r8)]) hx hb dX8_year_214 hl (k := 11) rfl (by rw [← ex43]; rfl) (by decide) rfl (fun ls hl => ?_)
                        refine lv_goto (tgt := 58) hx hb dX8_year_217 (by decide) ?_
                        exact ih58 (k + 1) x12 A42 I36 x32 r8 x38 (by omega) (by omega) (by subst eA6 eI7 ex12 ex13 ex14 ev15 ex32 eA35 eI36 ev37 ex38 eA42 ex43; exact em_dr6 hx9) (by subst eA6 eI7 ex32 eA35 eI36 ev37 ex38 eA42 ex43; rw [hr2, em_yk_S hk9]; first | exact congrArg (em_yk (n9.toNatClampNeg - (k + 1)) (k + 1)) (em_ys_b ex12 ex13 ex14 ev15 (em_yd_0 c145) (em_yn_0 c207)) | exact congrArg (em_yk (n9.toNatClampNeg - (k + 1)) (k + 1)) (em_ys_b ex12 ex13 ex14 ev15 (em_yd_0 c145) (em_yn_1 c207)) | exact congrArg (em_yk (n9.toNatClampNeg - (k + 1)) (k + 1)) (em_ys_b ex12 ex13 ex14 ev15 (em_yd_1 c145 c156) (em_yn_0 c207)) | exact congrArg (em_yk (n9.toNatClampNeg - (k + 1)) (k + 1)) (em_ys_b ex12 ex13 ex14 ev15 (em_yd_1 c145 c156) (em_yn_1 c207)) | exact congrArg (em_yk (n9.toNatClampNeg - (k + 1)) (k + 1)) (em_ys_b ex12 ex13 ex14 ev15 (em_yd_2 c145 c156) (em_yn_0 c207)) | exact congrArg (em_yk (n9.toNatClampNeg - (k + 1)) (k + 1)) (em_ys_b ex12 ex13 ex14 ev15 (em_yd_2 c145 c156) (em_yn_1 c207))) x43 (by subst eA6 eI7 ex12 ex13 ex14 ev15 ex32 eA35 eI36 ev37 ex38 eA42 ex43; exact nI_1 (k + 1)) w41 _ _ hG hM hSw41 ls (lv_sub hl [7, 8, 9, 10, 6, 2, 11, 1, 0] rfl)
                    refine xb_ifeq (tgt := 179) S dX8_year_172 (by decide) (fun c172 => ?_) (fun c172 => ?_)
                    · skip
                      refine lv_iconst (v := 1) hx hb dX8_year_179 (by decide) ?_
                      exact jn180_37 _ (by rw [if_neg (Bool.eq_false_iff.mp c172)])
                    · skip
                      refine lv_iconst (v := 0) hx hb dX8_year_175 (by decide) ?_
                      refine lv_goto (tgt := 180) hx hb dX8_year_176 (by decide) ?_
                      exact jn180_37 _ (by rw [if_pos c172])
              refine lv_icmp_ge (tgt := 131) hx hb dX8_year_113 (by decide) (fun c113 => ?_) (fun c113 => ?_)
              · skip
                refine lv_bipush (v := 15) hx hb dX8_year_131 (by decide) ?_
                exact jn133_15 _ (by rw [if_pos c113])
              · skip
                refine lv_aload_n hx hb dX8_year_116 rfl (lv_at hl 3 rfl) ?_
                refine xg_get (C := RX8) (T := TX8) (N := 46) S hK hG (fun w h => List.mem_cons_of_mem _ (List.mem_append_right _ (h))) b hM.1 rfl 5 (by decide) k6 (fun _ h9 => h9) rfl dX8_year_117 ?_
                refine lv_iload hx hb dX8_year_120 (lv_at hl 1 rfl) ?_
                refine xg_ald S hK hG (b + 5) (show w58[b + 5]? = some (ad (b + 5), .inl (cI, 6, .inl (A1 4))) from hM.2.1 4 (by decide)) (i := x13) (by subst eA6 eI7 ex12 ex13 ex14; exact ha9) dX8_year_122 ?_
                refine lv_aload_n hx hb dX8_year_123 rfl (lv_at hl 3 rfl) ?_
                refine xg_get (C := RX8) (T := TX8) (N := 46) S hK hG (fun w h => List.mem_cons_of_mem _ (List.mem_append_right _ (h))) b hM.1 rfl 8 (by decide) k7 (fun _ h9 => h9) rfl dX8_year_124 ?_
                refine lv_iadd hx hb dX8_year_127 ?_
                refine lv_goto (tgt := 133) hx hb dX8_year_128 (by decide) ?_
                exact jn133_15 _ (by rw [if_neg c113])
        exact lp58 (n9.toNatClampNeg + 1) 0 s9 A6 I7 0 0 0 (by omega) (by omega) ⟨_, by omega, hs1⟩ (by subst eA6 eI7; rfl) 1 rfl w5 _ _ hG hM hSw5 ls (lv_sub hl [5, 6, 7, 8, 4, 3, 2, 1, 0] rfl)
      · skip
        refine lv_bipush (v := (-2)) hx hb dX8_year_36 (by decide) ?_
        rw [hQ]
        exact xg_emi S hr hlk hK hG ⟨(by skip; simp [em_yeR, em_yeV, c9, c21, c33]), (by rw [show ((em_yeG A I s9 n9 wq).1) = A from (by skip; simp [em_yeG, em_yeV, c9, c21, c33])]; rw [show ((em_yeG A I s9 n9 wq).2) = I from (by skip; simp [em_yeG, em_yeV, c9, c21, c33])]; exact hM), xv_S.rf⟩ dX8_year_38
