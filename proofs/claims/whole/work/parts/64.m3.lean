set_option maxHeartbeats 4000000 in
set_option maxRecDepth 100000 in
theorem mX8_readsDare (l : Launch) (D : va_G) (cI cZ : ClassId) (bs : Nat) (ad : Nat → Nat) (ws : va_W) (b : Nat) (A : Nat → Nat → Int32) (I : Nat → Int32) (L : Int64) (hM : xv_M cI cZ ad ws b A I L) (at_ : Int32) (c9 : Int32) (hp : vp_in (I 25) 60) : Met l yX8_readsDare wsX8_readsDare ({ frames := 2, cells := 0, slots := 0, locals := 45 } : Room) (va_Pc [.ref (ad b), .int at_, .int c9] (fun U => xg_W D cI cZ bs ws U)) (va_Qi (fun (r : Int32) (w : va_W) => r = xb_i (em_rdB A (I 25).toNatClampNeg at_ c9) ∧ xv_M cI cZ ad w b (em_rdA A (I 25).toNatClampNeg at_ c9) I L ∧ xv_S ws w b 24) (fun w t => xg_W D cI cZ bs w t) (xg_A bs)) 0 0 (xg_A bs) := by
  refine xg_met cX8_readsDare 3 (some .boolean) RX8 (by decide) rfl rfl (Nat.le_of_ble_eq_true rfl) ?_
  intro pg en s m below meth c ls S hr hlk hnm hB hl
  have hK := hB.1
  have hG := xg_start hB
  obtain ⟨hx, hb, hml, hown, hts⟩ := id S
  have hl : lv_has ls 3 [(0, .ref (ad b)), (1, .int at_), (2, .int c9)] := hl
  obtain ⟨Q, hQ⟩ : ∃ Q, Q = MQ below (va_Qi (fun (r : Int32) (w : va_W) => r = xb_i (em_rdB A (I 25).toNatClampNeg at_ c9) ∧ xv_M cI cZ ad w b (em_rdA A (I 25).toNatClampNeg at_ c9) I L ∧ xv_S ws w b 24) (fun w t => xg_W D cI cZ bs w t) (xg_A bs)) ([.ref (ad b), .int at_, .int c9] : List Value).toArray s 0 0 (xg_A bs) := ⟨_, rfl⟩
  rw [← hQ]
  have k0 := hts (.fieldLink RX8 43 "DareBridgeModel" "sort" "[I") (List.mem_of_getElem? (i := 10) rfl)
  have k1 := hts (.fieldLink RX8 149 "DareBridgeModel" "events" "I") (List.mem_of_getElem? (i := 2) rfl)
  have k2 := hts (.fieldLink RX8 52 "DareBridgeModel" "height" "[I") (List.mem_of_getElem? (i := 6) rfl)
  have k3 := hts (.constantLong RX8 156 (48)) (List.mem_of_getElem? (i := 7) rfl)
  have k4 := hts (.constantLong RX8 160 (57)) (List.mem_of_getElem? (i := 9) rfl)
  have k5 := hts (.constantLong RX8 158 (49)) (List.mem_of_getElem? (i := 8) rfl)
  have k6 := hts (.fieldLink RX8 46 "DareBridgeModel" "who" "[I") (List.mem_of_getElem? (i := 1) rfl)
  have k7 := hts (.fieldLink RX8 49 "DareBridgeModel" "whom" "[I") (List.mem_of_getElem? (i := 3) rfl)
  have k8 := hts (.constantLong RX8 152 (65)) (List.mem_of_getElem? (i := 4) rfl)
  have k9 := hts (.constantLong RX8 154 (70)) (List.mem_of_getElem? (i := 5) rfl)
  refine lv_iload_n hx hb dX8_readsDare_0 rfl (lv_at hl 1 rfl) ?_
  refine lv_iconst (v := 2) hx hb dX8_readsDare_1 (by decide) ?_
  refine lv_icmp_ge (tgt := 59) hx hb dX8_readsDare_2 (by decide) (fun c2 => ?_) (fun c2 => ?_)
  · skip
    refine lv_iload_n hx hb dX8_readsDare_59 rfl (lv_at hl 1 rfl) ?_
    refine lv_iconst (v := 2) hx hb dX8_readsDare_60 (by decide) ?_
    refine lv_icmp_ne (tgt := 92) hx hb dX8_readsDare_61 (by decide) (fun c61 => ?_) (fun c61 => ?_)
    · skip
      refine lv_iload_n hx hb dX8_readsDare_92 rfl (lv_at hl 1 rfl) ?_
      refine lv_iconst (v := 3) hx hb dX8_readsDare_93 (by decide) ?_
      refine lv_icmp_ne (tgt := 148) hx hb dX8_readsDare_94 (by decide) (fun c94 => ?_) (fun c94 => ?_)
      · skip
        refine lv_aload_n hx hb dX8_readsDare_148 rfl (lv_at hl 0 rfl) ?_
        refine xg_get (C := RX8) (T := TX8) (N := 46) S hK hG (fun w h => List.mem_cons_of_mem _ (List.mem_append_right _ (h))) b hM.1 rfl 21 (by decide) k0 (fun _ h9 => h9) rfl dX8_readsDare_149 ?_
        refine lv_aload_n hx hb dX8_readsDare_152 rfl (lv_at hl 0 rfl) ?_
        refine xg_get (C := RX8) (T := TX8) (N := 46) S hK hG (fun w h => List.mem_cons_of_mem _ (List.mem_append_right _ (h))) b hM.1 rfl 25 (by decide) k1 (fun _ h9 => h9) rfl dX8_readsDare_153 ?_
        refine lv_iload_n hx hb dX8_readsDare_156 rfl (lv_at hl 2 rfl) ?_
        refine xg_ast2 S hK hG (b + 12) (show ws[b + 12]? = some (ad (b + 12), .inl (cI, 60, .inl (A 11))) from hM.2.1 11 (by decide)) (i := I 25) (x := c9) (by first | assumption | exact vp_in_nI (by omega) (by decide)) dX8_readsDare_157 (fun w1 H locs hw1 hG => ?_)
        have hs2 : xv_S ws w1 (b + 12) 1 := by rw [hw1]; exact xv_S.set (by omega) (by omega)
        obtain ⟨A3, eA3⟩ : ∃ zz : Nat → Nat → Int32, (va_up A 11 (upd (A 11) ((I 25).toNatClampNeg) c9)) = zz := ⟨_, rfl⟩
        have hM : xv_M cI cZ ad w1 b A3 I L := by rw [hw1, ← eA3]; exact hM.row 11 (by decide)
        have hSw1 : xv_S ws w1 b 24 := hs2.mono (by omega) (by omega)
        refine lv_iload_n hx hb dX8_readsDare_158 rfl (lv_at hl 2 rfl) ?_
        refine lv_bipush (v := 43) hx hb dX8_readsDare_159 (by decide) ?_
        refine lv_icmp_eq (tgt := 176) hx hb dX8_readsDare_161 (by decide) (fun c161 => ?_) (fun c161 => ?_)
        · skip
          refine lv_iconst (v := 1) hx hb dX8_readsDare_176 (by decide) ?_
          refine lv_goto (tgt := 181) hx hb dX8_readsDare_177 (by decide) ?_
          rw [hQ]
          exact xg_emz S hr hlk rfl hK hG ⟨(by subst eA3; first | (simp only [em_rdB, c2, c61, c94, c161, if_true, if_false, va_up_self, upd, Bool.false_eq_true]; done) | (simp [em_rdB, c2, c61, c94, c161, va_up_self, upd, xb_i]; done) | (simp [va_up_self, upd] at c139; simp [em_rdB, c2, c61, c94, c161, va_up_self, upd, xb_i])), (by rw [show (em_rdA A (I 25).toNatClampNeg at_ c9) = A3 from (by subst eA3; simp [em_rdA, c2, c61, c94, c161, va_up_self, va_up_ne])]; exact hM), hSw1⟩ dX8_readsDare_181
        · skip
          refine lv_iload_n hx hb dX8_readsDare_164 rfl (lv_at hl 2 rfl) ?_
          refine lv_bipush (v := 45) hx hb dX8_readsDare_165 (by decide) ?_
          refine lv_icmp_eq (tgt := 176) hx hb dX8_readsDare_167 (by decide) (fun c167 => ?_) (fun c167 => ?_)
          · skip
            refine lv_iconst (v := 1) hx hb dX8_readsDare_176 (by decide) ?_
            refine lv_goto (tgt := 181) hx hb dX8_readsDare_177 (by decide) ?_
            rw [hQ]
            exact xg_emz S hr hlk rfl hK hG ⟨(by subst eA3; first | (simp only [em_rdB, c2, c61, c94, c161, c167, if_true, if_false, va_up_self, upd, Bool.false_eq_true]; done) | (simp [em_rdB, c2, c61, c94, c161, c167, va_up_self, upd, xb_i]; done) | (simp [va_up_self, upd] at c139; simp [em_rdB, c2, c61, c94, c161, c167, va_up_self, upd, xb_i])), (by rw [show (em_rdA A (I 25).toNatClampNeg at_ c9) = A3 from (by subst eA3; simp [em_rdA, c2, c61, c94, c161, c167, va_up_self, va_up_ne])]; exact hM), hSw1⟩ dX8_readsDare_181
          · skip
            refine lv_iload_n hx hb dX8_readsDare_170 rfl (lv_at hl 2 rfl) ?_
            refine lv_bipush (v := 42) hx hb dX8_readsDare_171 (by decide) ?_
            refine lv_icmp_ne (tgt := 180) hx hb dX8_readsDare_173 (by decide) (fun c173 => ?_) (fun c173 => ?_)
            · skip
              refine lv_iconst (v := 0) hx hb dX8_readsDare_180 (by decide) ?_
              rw [hQ]
              exact xg_emz S hr hlk rfl hK hG ⟨(by subst eA3; first | (simp only [em_rdB, c2, c61, c94, c161, c167, c173, if_true, if_false, va_up_self, upd, Bool.false_eq_true]; done) | (simp [em_rdB, c2, c61, c94, c161, c167, c173, va_up_self, upd, xb_i]; done) | (simp [va_up_self, upd] at c139; simp [em_rdB, c2, c61, c94, c161, c167, c173, va_up_self, upd, xb_i])), (by rw [show (em_rdA A (I 25).toNatClampNeg at_ c9) = A3 from (by subst eA3; simp [em_rdA, c2, c61, c94, c161, c167, c173, va_up_self, va_up_ne])]; exact hM), hSw1⟩ dX8_readsDare_181
            · skip
              refine lv_iconst (v := 1) hx hb dX8_readsDare_176 (by decide) ?_
              refine lv_goto (tgt := 181) hx hb dX8_readsDare_177 (by decide) ?_
              rw [hQ]
              exact xg_emz S hr hlk rfl hK hG ⟨(by subst eA3; first | (simp only [em_rdB, c2, c61, c94, c161, c167, c173, if_true, if_false, va_up_self, upd, Bool.false_eq_true]; done) | (simp [em_rdB, c2, c61, c94, c161, c167, c173, va_up_self, upd, xb_i]; done) | (simp [va_up_self, upd] at c139; simp [em_rdB, c2, c61, c94, c161, c167, c173, va_up_self, upd, xb_i])), (by rw [show (em_rdA A (I 25).toNatClampNeg at_ c9) = A3 from (by subst eA3; simp [em_rdA, c2, c61, c94, c161, c167, c173, va_up_self, va_up_ne])]; exact hM), hSw1⟩ dX8_readsDare_181
      · skip
        refine lv_aload_n hx hb dX8_readsDare_97 rfl (lv_at hl 0 rfl) ?_
        refine xg_get (C := RX8) (T := TX8) (N := 46) S hK hG (fun w h => List.mem_cons_of_mem _ (List.mem_append_right _ (h))) b hM.1 rfl 24 (by decide) k2 (fun _ h9 => h9) rfl dX8_readsDare_98 ?_
        refine lv_aload_n hx hb dX8_readsDare_101 rfl (lv_at hl 0 rfl) ?_
        refine xg_get (C := RX8) (T := TX8) (N := 46) S hK hG (fun w h => List.mem_cons_of_mem _ (List.mem_append_right _ (h))) b hM.1 rfl 25 (by decide) k1 (fun _ h9 => h9) rfl dX8_readsDare_102 ?_
        refine lv_dup2_11 hx hb dX8_readsDare_105 rfl rfl ?_
        refine xg_ald S hK hG (b + 15) (show ws[b + 15]? = some (ad (b + 15), .inl (cI, 60, .inl (A 14))) from hM.2.1 14 (by decide)) (i := I 25) (by first | assumption | exact vp_in_nI (by omega) (by decide)) dX8_readsDare_106 ?_
        refine lv_iload_n hx hb dX8_readsDare_107 rfl (lv_at hl 2 rfl) ?_
        refine lv_bipush (v := 48) hx hb dX8_readsDare_108 (by decide) ?_
        refine lv_isub hx hb dX8_readsDare_110 ?_
        refine lv_iadd hx hb dX8_readsDare_111 ?_
        refine xg_ast2 S hK hG (b + 15) (show ws[b + 15]? = some (ad (b + 15), .inl (cI, 60, .inl (A 14))) from hM.2.1 14 (by decide)) (i := I 25) (x := ((A 14) ((I 25).toNatClampNeg)) + (c9 - 48)) (by first | assumption | exact vp_in_nI (by omega) (by decide)) dX8_readsDare_112 (fun w4 H locs hw4 hG => ?_)
        have hs5 : xv_S ws w4 (b + 15) 1 := by rw [hw4]; exact xv_S.set (by omega) (by omega)
        obtain ⟨A6, eA6⟩ : ∃ zz : Nat → Nat → Int32, (va_up A 14 (upd (A 14) ((I 25).toNatClampNeg) (((A 14) ((I 25).toNatClampNeg)) + (c9 - 48)))) = zz := ⟨_, rfl⟩
        have hM : xv_M cI cZ ad w4 b A6 I L := by rw [hw4, ← eA6]; exact hM.row 14 (by decide)
        have hSw4 : xv_S ws w4 b 24 := hs5.mono (by omega) (by omega)
        refine lv_iload_n hx hb dX8_readsDare_113 rfl (lv_at hl 2 rfl) ?_
        refine lv_i2l (v := c9.toInt64) hx hb dX8_readsDare_114 rfl ?_
        refine lv_ldc2 (v := 48) hx hb hown k3 dX8_readsDare_115 ?_
        refine lv_ldc2 (v := 57) hx hb hown k4 dX8_readsDare_118 ?_
        refine xg_ri (va_runS (As := [.long c9.toInt64, .long 48, .long 57]) (rest := []) S (mX8_in l D cI cZ bs ad w4 c9.toInt64 48 57) (va_cwS 3 hts gX8_readsDare_X8_in rfl rfl rfl (by decide +kernel) ⟨Nat.le_of_ble_eq_true rfl, Nat.le_of_ble_eq_true rfl⟩) (xg_preS hK hG) rfl rfl hl.1 rfl (lv_room (Nat.le_of_ble_eq_true rfl)) dX8_readsDare_121 ⟨Nat.zero_le _, Nat.zero_le _⟩) (fun r7 hr7 => ?_)
        replace hr7 := hr7.symm; subst hr7
        rw [xw_inL_lit c9 48 57 48 57 (by decide) (by decide)]
        refine xb_ifeq (tgt := 146) S dX8_readsDare_124 (by decide) (fun c124 => ?_) (fun c124 => ?_)
        · skip
          refine lv_iconst (v := 0) hx hb dX8_readsDare_146 (by decide) ?_
          rw [hQ]
          exact xg_emz S hr hlk rfl hK hG ⟨(by subst eA6; first | (simp only [em_rdB, c2, c61, c94, c124, if_true, if_false, va_up_self, upd, Bool.false_eq_true]; done) | (simp [em_rdB, c2, c61, c94, c124, va_up_self, upd, xb_i]; done) | (simp [va_up_self, upd] at c139; simp [em_rdB, c2, c61, c94, c124, va_up_self, upd, xb_i])), (by rw [show (em_rdA A (I 25).toNatClampNeg at_ c9) = A6 from (by subst eA6; simp [em_rdA, c2, c61, c94, c124, va_up_self, va_up_ne])]; exact hM), hSw4⟩ dX8_readsDare_147
        · skip
          refine lv_aload_n hx hb dX8_readsDare_127 rfl (lv_at hl 0 rfl) ?_
          refine xg_get (C := RX8) (T := TX8) (N := 46) S hK hG (fun w h => List.mem_cons_of_mem _ (List.mem_append_right _ (h))) b hM.1 rfl 24 (by decide) k2 (fun _ h9 => h9) rfl dX8_readsDare_128 ?_
          refine lv_aload_n hx hb dX8_readsDare_131 rfl (lv_at hl 0 rfl) ?_
          refine xg_get (C := RX8) (T := TX8) (N := 46) S hK hG (fun w h => List.mem_cons_of_mem _ (List.mem_append_right _ (h))) b hM.1 rfl 25 (by decide) k1 (fun _ h9 => h9) rfl dX8_readsDare_132 ?_
          refine xg_ald S hK hG (b + 15) (show w4[b + 15]? = some (ad (b + 15), .inl (cI, 60, .inl (A6 14))) from hM.2.1 14 (by decide)) (i := I 25) (by first | assumption | exact vp_in_nI (by omega) (by decide)) dX8_readsDare_135 ?_
          refine xg_ri (va_runS (As := [.int ((A6 14) ((I 25).toNatClampNeg))]) (rest := []) S (mX8_isHeight l D cI cZ bs ad w4 ((A6 14) ((I 25).toNatClampNeg))) (va_cwS 1 hts gX8_readsDare_X8_isHeight rfl rfl rfl (by decide +kernel) ⟨Nat.le_of_ble_eq_true rfl, Nat.le_of_ble_eq_true rfl⟩) (xg_preS hK hG) rfl rfl hl.1 rfl (lv_room (Nat.le_of_ble_eq_true rfl)) dX8_readsDare_136 ⟨Nat.zero_le _, Nat.zero_le _⟩) (fun r8 hr8 => ?_)
          replace hr8 := hr8.symm; subst hr8
          refine xb_ifeq (tgt := 146) S dX8_readsDare_139 (by decide) (fun c139 => ?_) (fun c139 => ?_)
          · skip
            refine lv_iconst (v := 0) hx hb dX8_readsDare_146 (by decide) ?_
            rw [hQ]
            exact xg_emz S hr hlk rfl hK hG ⟨(by subst eA6; first | (simp only [em_rdB, c2, c61, c94, c124, c139, if_true, if_false, va_up_self, upd, Bool.false_eq_true]; done) | (simp [em_rdB, c2, c61, c94, c124, c139, va_up_self, upd, xb_i]; done) | (simp [va_up_self, upd] at c139; simp [em_rdB, c2, c61, c94, c124, c139, va_up_self, upd, xb_i])), (by rw [show (em_rdA A (I 25).toNatClampNeg at_ c9) = A6 from (by subst eA6; simp [em_rdA, c2, c61, c94, c124, c139, va_up_self, va_up_ne])]; exact hM), hSw4⟩ dX8_readsDare_147
          · skip
            refine lv_iconst (v := 1) hx hb dX8_readsDare_142 (by decide) ?_
            refine lv_goto (tgt := 147) hx hb dX8_readsDare_143 (by decide) ?_
            rw [hQ]
            exact xg_emz S hr hlk rfl hK hG ⟨(by subst eA6; first | (simp only [em_rdB, c2, c61, c94, c124, c139, if_true, if_false, va_up_self, upd, Bool.false_eq_true]; done) | (simp [em_rdB, c2, c61, c94, c124, c139, va_up_self, upd, xb_i]; done) | (simp [va_up_self, upd] at c139; simp [em_rdB, c2, c61, c94, c124, c139, va_up_self, upd, xb_i])), (by rw [show (em_rdA A (I 25).toNatClampNeg at_ c9) = A6 from (by subst eA6; simp [em_rdA, c2, c61, c94, c124, c139, va_up_self, va_up_ne])]; exact hM), hSw4⟩ dX8_readsDare_147
    · skip
      refine lv_aload_n hx hb dX8_readsDare_64 rfl (lv_at hl 0 rfl) ?_
      refine xg_get (C := RX8) (T := TX8) (N := 46) S hK hG (fun w h => List.mem_cons_of_mem _ (List.mem_append_right _ (h))) b hM.1 rfl 24 (by decide) k2 (fun _ h9 => h9) rfl dX8_readsDare_65 ?_
      refine lv_aload_n hx hb dX8_readsDare_68 rfl (lv_at hl 0 rfl) ?_
      refine xg_get (C := RX8) (T := TX8) (N := 46) S hK hG (fun w h => List.mem_cons_of_mem _ (List.mem_append_right _ (h))) b hM.1 rfl 25 (by decide) k1 (fun _ h9 => h9) rfl dX8_readsDare_69 ?_
      refine lv_bipush (v := 10) hx hb dX8_readsDare_72 (by decide) ?_
      refine lv_iload_n hx hb dX8_readsDare_74 rfl (lv_at hl 2 rfl) ?_
      refine lv_bipush (v := 48) hx hb dX8_readsDare_75 (by decide) ?_
      refine lv_isub hx hb dX8_readsDare_77 ?_
      refine lv_imul hx hb dX8_readsDare_78 ?_
      refine xg_ast2 S hK hG (b + 15) (show ws[b + 15]? = some (ad (b + 15), .inl (cI, 60, .inl (A 14))) from hM.2.1 14 (by decide)) (i := I 25) (x := 10 * (c9 - 48)) (by first | assumption | exact vp_in_nI (by omega) (by decide)) dX8_readsDare_79 (fun w9 H locs hw9 hG => ?_)
      have hs10 : xv_S ws w9 (b + 15) 1 := by rw [hw9]; exact xv_S.set (by omega) (by omega)
      obtain ⟨A11, eA11⟩ : ∃ zz : Nat → Nat → Int32, (va_up A 14 (upd (A 14) ((I 25).toNatClampNeg) (10 * (c9 - 48)))) = zz := ⟨_, rfl⟩
      have hM : xv_M cI cZ ad w9 b A11 I L := by rw [hw9, ← eA11]; exact hM.row 14 (by decide)
      have hSw9 : xv_S ws w9 b 24 := hs10.mono (by omega) (by omega)
      refine lv_iload_n hx hb dX8_readsDare_80 rfl (lv_at hl 2 rfl) ?_
      refine lv_i2l (v := c9.toInt64) hx hb dX8_readsDare_81 rfl ?_
      refine lv_ldc2 (v := 48) hx hb hown k3 dX8_readsDare_82 ?_
      refine lv_ldc2 (v := 49) hx hb hown k5 dX8_readsDare_85 ?_
      refine xg_ri (va_runS (As := [.long c9.toInt64, .long 48, .long 49]) (rest := []) S (mX8_in l D cI cZ bs ad w9 c9.toInt64 48 49) (va_cwS 3 hts gX8_readsDare_X8_in rfl rfl rfl (by decide +kernel) ⟨Nat.le_of_ble_eq_true rfl, Nat.le_of_ble_eq_true rfl⟩) (xg_preS hK hG) rfl rfl hl.1 rfl (lv_room (Nat.le_of_ble_eq_true rfl)) dX8_readsDare_88 ⟨Nat.zero_le _, Nat.zero_le _⟩) (fun r12 hr12 => ?_)
      replace hr12 := hr12.symm; subst hr12
      rw [xw_inL_lit c9 48 49 48 49 (by decide) (by decide)]
      rw [hQ]
      exact xg_emz S hr hlk (by cases (xw_in c9 48 49) <;> rfl) hK hG ⟨(by subst eA11; first | (simp only [em_rdB, c2, c61, if_true, if_false, va_up_self, upd, Bool.false_eq_true]; done) | (simp [em_rdB, c2, c61, va_up_self, upd, xb_i]; done) | (simp [va_up_self, upd] at c139; simp [em_rdB, c2, c61, va_up_self, upd, xb_i])), (by rw [show (em_rdA A (I 25).toNatClampNeg at_ c9) = A11 from (by subst eA11; simp [em_rdA, c2, c61, va_up_self, va_up_ne])]; exact hM), hSw9⟩ dX8_readsDare_91
  · skip
    refine lv_aload_n hx hb dX8_readsDare_5 rfl (lv_at hl 0 rfl) ?_
    refine xg_get (C := RX8) (T := TX8) (N := 46) S hK hG (fun w h => List.mem_cons_of_mem _ (List.mem_append_right _ (h))) b hM.1 rfl 22 (by decide) k6 (fun _ h9 => h9) rfl dX8_readsDare_6 ?_
    refine lv_aload_n hx hb dX8_readsDare_9 rfl (lv_at hl 0 rfl) ?_
    refine xg_get (C := RX8) (T := TX8) (N := 46) S hK hG (fun w h => List.mem_cons_of_mem _ (List.mem_append_right _ (h))) b hM.1 rfl 25 (by decide) k1 (fun _ h9 => h9) rfl dX8_readsDare_10 ?_
    refine lv_iload_n hx hb dX8_readsDare_13 rfl (lv_at hl 1 rfl) ?_
    have jn33_13 : ∀ v13 : Int32, v13 = (if at_ = 0 then c9 - 65 else (A 12) ((I 25).toNatClampNeg)) → W pg l en ({ frames := 2, cells := 0, slots := 0, locals := 45 } : Room) s m ([.ref (ad b), .int at_, .int c9] : List Value).toArray below meth c s.heap [] 0 0 Q (F0 m 33 ls [.int v13, .int (I 25), .ref (ad (b + 13))]) := by
      intro v13 ev13
      replace ev13 := ev13.symm
      refine xg_ast2 S hK hG (b + 13) (show ws[b + 13]? = some (ad (b + 13), .inl (cI, 60, .inl (A 12))) from hM.2.1 12 (by decide)) (i := I 25) (x := v13) (by first | assumption | exact vp_in_nI (by omega) (by decide)) dX8_readsDare_33 (fun w14 H locs hw14 hG => ?_)
      have hs15 : xv_S ws w14 (b + 13) 1 := by rw [hw14]; exact xv_S.set (by omega) (by omega)
      obtain ⟨A16, eA16⟩ : ∃ zz : Nat → Nat → Int32, (va_up A 12 (upd (A 12) ((I 25).toNatClampNeg) v13)) = zz := ⟨_, rfl⟩
      have hM : xv_M cI cZ ad w14 b A16 I L := by rw [hw14, ← eA16]; exact hM.row 12 (by decide)
      have hSw14 : xv_S ws w14 b 24 := hs15.mono (by omega) (by omega)
      refine lv_aload_n hx hb dX8_readsDare_34 rfl (lv_at hl 0 rfl) ?_
      refine xg_get (C := RX8) (T := TX8) (N := 46) S hK hG (fun w h => List.mem_cons_of_mem _ (List.mem_append_right _ (h))) b hM.1 rfl 23 (by decide) k7 (fun _ h9 => h9) rfl dX8_readsDare_35 ?_
      refine lv_aload_n hx hb dX8_readsDare_38 rfl (lv_at hl 0 rfl) ?_
      refine xg_get (C := RX8) (T := TX8) (N := 46) S hK hG (fun w h => List.mem_cons_of_mem _ (List.mem_append_right _ (h))) b hM.1 rfl 25 (by decide) k1 (fun _ h9 => h9) rfl dX8_readsDare_39 ?_
      refine lv_iload_n hx hb dX8_readsDare_42 rfl (lv_at hl 2 rfl) ?_
      refine lv_bipush (v := 65) hx hb dX8_readsDare_43 (by decide) ?_
      refine lv_isub hx hb dX8_readsDare_45 ?_
      refine xg_ast2 S hK hG (b + 14) (show w14[b + 14]? = some (ad (b + 14), .inl (cI, 60, .inl (A16 13))) from hM.2.1 13 (by decide)) (i := I 25) (x := c9 - 65) (by first | assumption | exact vp_in_nI (by omega) (by decide)) dX8_readsDare_46 (fun w17 H locs hw17 hG => ?_)
      have hs18 : xv_S w14 w17 (b + 14) 1 := by rw [hw17]; exact xv_S.set (by omega) (by omega)
      obtain ⟨A19, eA19⟩ : ∃ zz : Nat → Nat → Int32, (va_up A16 13 (upd (A16 13) ((I 25).toNatClampNeg) (c9 - 65))) = zz := ⟨_, rfl⟩
      have hM : xv_M cI cZ ad w17 b A19 I L := by rw [hw17, ← eA19]; exact hM.row 13 (by decide)
      have hSw17 : xv_S ws w17 b 24 := hSw14.trans (hs18.mono (by omega) (by omega))
      refine lv_iload_n hx hb dX8_readsDare_47 rfl (lv_at hl 2 rfl) ?_
      refine lv_i2l (v := c9.toInt64) hx hb dX8_readsDare_48 rfl ?_
      refine lv_ldc2 (v := 65) hx hb hown k8 dX8_readsDare_49 ?_
      refine lv_ldc2 (v := 70) hx hb hown k9 dX8_readsDare_52 ?_
      refine xg_ri (va_runS (As := [.long c9.toInt64, .long 65, .long 70]) (rest := []) S (mX8_in l D cI cZ bs ad w17 c9.toInt64 65 70) (va_cwS 3 hts gX8_readsDare_X8_in rfl rfl rfl (by decide +kernel) ⟨Nat.le_of_ble_eq_true rfl, Nat.le_of_ble_eq_true rfl⟩) (xg_preS hK hG) rfl rfl hl.1 rfl (lv_room (Nat.le_of_ble_eq_true rfl)) dX8_readsDare_55 ⟨Nat.zero_le _, Nat.zero_le _⟩) (fun r20 hr20 => ?_)
      replace hr20 := hr20.symm; subst hr20
      rw [xw_inL_lit c9 65 70 65 70 (by decide) (by decide)]
      rw [hQ]
      exact xg_emz S hr hlk (by cases (xw_in c9 65 70) <;> rfl) hK hG ⟨(by subst ev13 eA16 eA19; first | (simp only [em_rdB, c2, if_true, if_false, va_up_self, upd, Bool.false_eq_true]; done) | (simp [em_rdB, c2, va_up_self, upd, xb_i]; done) | (simp [va_up_self, upd] at c139; simp [em_rdB, c2, va_up_self, upd, xb_i])), (by rw [show (em_rdA A (I 25).toNatClampNeg at_ c9) = A19 from (by subst ev13 eA16 eA19; simp [em_rdA, c2, va_up_self, va_up_ne])]; exact hM), hSw17⟩ dX8_readsDare_58
    refine lv_if_ne (tgt := 24) hx hb dX8_readsDare_14 (by decide) (fun c14 => ?_) (fun c14 => ?_)
    · skip
      refine lv_aload_n hx hb dX8_readsDare_24 rfl (lv_at hl 0 rfl) ?_
      refine xg_get (C := RX8) (T := TX8) (N := 46) S hK hG (fun w h => List.mem_cons_of_mem _ (List.mem_append_right _ (h))) b hM.1 rfl 22 (by decide) k6 (fun _ h9 => h9) rfl dX8_readsDare_25 ?_
      refine lv_aload_n hx hb dX8_readsDare_28 rfl (lv_at hl 0 rfl) ?_
      refine xg_get (C := RX8) (T := TX8) (N := 46) S hK hG (fun w h => List.mem_cons_of_mem _ (List.mem_append_right _ (h))) b hM.1 rfl 25 (by decide) k1 (fun _ h9 => h9) rfl dX8_readsDare_29 ?_
      refine xg_ald S hK hG (b + 13) (show ws[b + 13]? = some (ad (b + 13), .inl (cI, 60, .inl (A 12))) from hM.2.1 12 (by decide)) (i := I 25) (by first | assumption | exact vp_in_nI (by omega) (by decide)) dX8_readsDare_32 ?_
      exact jn33_13 _ (by rw [if_neg c14])
    · skip
      refine lv_iload_n hx hb dX8_readsDare_17 rfl (lv_at hl 2 rfl) ?_
      refine lv_bipush (v := 65) hx hb dX8_readsDare_18 (by decide) ?_
      refine lv_isub hx hb dX8_readsDare_20 ?_
      refine lv_goto (tgt := 33) hx hb dX8_readsDare_21 (by decide) ?_
      exact jn33_13 _ (by rw [if_pos c14])
set_option maxHeartbeats 4000000 in
set_option maxRecDepth 100000 in
theorem mX8_fault (l : Launch) (D : va_G) (cI cZ : ClassId) (bs : Nat) (ad : Nat → Nat) (ws : va_W) (b : Nat) (A : Nat → Nat → Int32) (I : Nat → Int32) (L : Int64) (hM : xv_M cI cZ ad ws b A I L) (n : Nat) (hn : I 20 = nI n) (hn60 : n ≤ 60) : Met l yX8_fault wsX8_fault ({ frames := 3, cells := 0, slots := 0, locals := 67 } : Room) (va_Pc [.ref (ad b)] (fun U => xg_W D cI cZ bs ws U)) (va_Qi (fun (r : Int32) (w : va_W) => r = (em_flt A I n).1 ∧ xv_M cI cZ ad w b ((em_flt A I n).2.1) ((em_flt A I n).2.2) L ∧ xv_S ws w b 24) (fun w t => xg_W D cI cZ bs w t) (xg_A bs)) 0 0 (xg_A bs) := by
  refine xg_met cX8_fault 3 (some .int) RX8 (by decide) rfl rfl (Nat.le_of_ble_eq_true rfl) ?_
  intro pg en s m below meth c ls S hr hlk hnm hB hl
  have hK := hB.1
  have hG := xg_start hB
  obtain ⟨hx, hb, hml, hown, hts⟩ := id S
  have hl : lv_has ls 3 [(0, .ref (ad b))] := hl
  obtain ⟨Q, hQ⟩ : ∃ Q, Q = MQ below (va_Qi (fun (r : Int32) (w : va_W) => r = (em_flt A I n).1 ∧ xv_M cI cZ ad w b ((em_flt A I n).2.1) ((em_flt A I n).2.2) L ∧ xv_S ws w b 24) (fun w t => xg_W D cI cZ bs w t) (xg_A bs)) ([.ref (ad b)] : List Value).toArray s 0 0 (xg_A bs) := ⟨_, rfl⟩
  rw [← hQ]
  have k0 := hts (.fieldLink RX8 149 "DareBridgeModel" "events" "I") (List.mem_of_getElem? (i := 1) rfl)
  have k1 := hts (.fieldLink RX8 146 "DareBridgeModel" "padMany" "I") (List.mem_of_getElem? (i := 2) rfl)
  have k2 := hts (.fieldLink RX8 40 "DareBridgeModel" "pad" "[I") (List.mem_of_getElem? (i := 3) rfl)
  have k3 := hts (.fieldLink RX8 43 "DareBridgeModel" "sort" "[I") (List.mem_of_getElem? (i := 4) rfl)
  refine lv_aload_n hx hb dX8_fault_0 rfl (lv_at hl 0 rfl) ?_
  refine lv_iconst (v := 0) hx hb dX8_fault_1 (by decide) ?_
  refine xg_put2 (C := RX8) (T := TX8) (N := 46) (v := .int 0) (ty := .int) S hK hG (fun w h => List.mem_cons_of_mem _ (List.mem_append_right _ (h))) tyX8 tyX8_ok nmX8 b hM.1 rfl 25 (by decide) k0 (fun _ h9 => h9) rfl (by decide +kernel) rfl rfl (Nat.le_of_ble_eq_true rfl) dX8_fault_2 (fun w1 H locs hw1 hG => ?_)
  have hs2 : xv_S ws w1 b 1 := by rw [hw1]; exact xv_S.set (by omega) (by omega)
  obtain ⟨I3, eI3⟩ : ∃ zz : Nat → Int32, (va_up I 25 0) = zz := ⟨_, rfl⟩
  have hM : xv_M cI cZ ad w1 b A I3 L := by rw [hw1, ← eI3]; exact hM.fld (va_up I 25 0) L rfl
  have hSw1 : xv_S ws w1 b 24 := hs2.mono (by omega) (by omega)
  refine lv_iconst (v := 0) hx hb dX8_fault_5 (by decide) ?_
  refine lv_istore_n (lv' := [(1, .int 0), (0, .ref (ad b))]) hx hb dX8_fault_6 rfl hl (by decide) rfl (fun ls hl => ?_)
  refine lv_iconst (v := 0) hx hb dX8_fault_7 (by decide) ?_
  refine lv_istore_n (lv' := [(2, .int 0), (1, .int 0), (0, .ref (ad b))]) hx hb dX8_fault_8 rfl hl (by decide) rfl (fun ls hl => ?_)
  -- the loop at 9
  have lp9 : ∀ (fu : Nat) (i : Nat) (e : Nat) (a1 : Int32) (A1 : Nat → Nat → Int32) (I1 : Nat → Int32), (i ≤ n) → (n < i + fu) → (I1 25 = nI e) → (e ≤ i) → (I1 20 = nI n) → (em_flt A I n = em_fl (n - i) i A1 I1 a1) → ∀ y9_2 : Int32, y9_2 = nI i → ∀ (w9 : va_W) (H : Heap) (locs : List Loc), xg_H D bs w9 s.heap H locs → (xv_M cI cZ ad w9 b A1 I1 L) → xv_S ws w9 b 24 → ∀ (ls : Array Slot), lv_has ls 3 [(0, .ref (ad b)), (1, .int a1), (2, .int y9_2)] → W pg l en ({ frames := 3, cells := 0, slots := 0, locals := 67 } : Room) s m ([.ref (ad b)] : List Value).toArray below meth c H locs 0 0 Q (F0 m 9 ls []) := by
    intro fu
    induction fu with
    | zero =>
      intro i e a1 A1 I1 hi hf he hei hI hr2
      exact absurd hf (by omega)
    | succ fu ih =>
      intro i e a1 A1 I1 hi hf he hei hI hr2 y9_2 ey9_2
      intro w9 H locs hG hM hSw9
      intro ls hl
      replace ey9_2 := ey9_2.symm; subst ey9_2
      refine lv_iload_n hx hb dX8_fault_9 rfl (lv_at hl 2 rfl) ?_
      refine lv_aload_n hx hb dX8_fault_10 rfl (lv_at hl 0 rfl) ?_
      refine xg_get (C := RX8) (T := TX8) (N := 46) S hK hG (fun w h => List.mem_cons_of_mem _ (List.mem_append_right _ (h))) b hM.1 rfl 20 (by decide) k1 (fun _ h9 => h9) rfl dX8_fault_11 ?_
      refine lv_icmp_ge (tgt := 108) hx hb dX8_fault_14 (by decide) (fun c14 => ?_) (fun c14 => ?_)
      · skip
        have hk9 : i = n := by have := xb_le (k := i) (n := n) (by omega) (by omega) (by rw [← hI]; exact c14); omega
        refine lv_iload_n hx hb dX8_fault_108 rfl (lv_at hl 1 rfl) ?_
        refine lv_if_le (tgt := 119) hx hb dX8_fault_109 (by decide) (fun c109 => ?_) (fun c109 => ?_)
        · skip
          refine lv_bipush (v := (-6)) hx hb dX8_fault_119 (by decide) ?_
          have hfin : em_flt A I n = ((-6), A1, I1) := by subst eI3; rw [hr2, hk9, Nat.sub_self, em_fl]; simp only [c14, c109, if_true, if_false]
          rw [hQ]
          exact xg_emi S hr hlk hK hG ⟨(by subst eI3; rw [hfin]), (by rw [hfin]; exact hM), hSw9⟩ dX8_fault_121
        · skip
          refine lv_aload_n hx hb dX8_fault_112 rfl (lv_at hl 0 rfl) ?_
          refine xg_get (C := RX8) (T := TX8) (N := 46) S hK hG (fun w h => List.mem_cons_of_mem _ (List.mem_append_right _ (h))) b hM.1 rfl 20 (by decide) k1 (fun _ h9 => h9) rfl dX8_fault_113 ?_
          refine lv_goto (tgt := 121) hx hb dX8_fault_116 (by decide) ?_
          have hfin : em_flt A I n = (I1 20, A1, I1) := by subst eI3; rw [hr2, hk9, Nat.sub_self, em_fl]; simp only [c14, c109, if_true, if_false]
          rw [hQ]
          exact xg_emi S hr hlk hK hG ⟨(by subst eI3; rw [hfin]), (by rw [hfin]; exact hM), hSw9⟩ dX8_fault_121
      · skip
        have hk9 : i < n := xb_lt (by omega) (by omega) (by rw [← hI]; exact c14)
        refine lv_iload_n hx hb dX8_fault_17 rfl (lv_at hl 1 rfl) ?_
        refine lv_if_ne (tgt := 55) hx hb dX8_fault_18 (by decide) (fun c18 => ?_) (fun c18 => ?_)
        · skip
          refine lv_aload_n hx hb dX8_fault_55 rfl (lv_at hl 0 rfl) ?_
          refine lv_iload_n hx hb dX8_fault_56 rfl (lv_at hl 1 rfl) ?_
          refine lv_aload_n hx hb dX8_fault_57 rfl (lv_at hl 0 rfl) ?_
          refine xg_get (C := RX8) (T := TX8) (N := 46) S hK hG (fun w h => List.mem_cons_of_mem _ (List.mem_append_right _ (h))) b hM.1 rfl 19 (by decide) k2 (fun _ h9 => h9) rfl dX8_fault_58 ?_
          refine lv_iload_n hx hb dX8_fault_61 rfl (lv_at hl 2 rfl) ?_
          refine xg_ald S hK hG (b + 11) (show w9[b + 11]? = some (ad (b + 11), .inl (cI, 60, .inl (A1 10))) from hM.2.1 10 (by decide)) (i := nI i) (by first | assumption | exact vp_in_nI (by omega) (by decide)) dX8_fault_62 ?_
          refine xg_mi (va_runV (As := [.int a1, .int ((A1 10) ((nI i).toNatClampNeg))]) (rest := []) S (mX8_readsDare l D cI cZ bs ad w9 b A1 I1 L hM a1 ((A1 10) ((nI i).toNatClampNeg)) (by rw [he]; exact vp_in_nI (by omega) (by decide))) (cwV 2 hts gX8_fault_X8_readsDare rfl rfl rfl (by decide +kernel) ⟨Nat.le_of_ble_eq_true rfl, Nat.le_of_ble_eq_true rfl⟩) (xg_preV hK hG b hM.1 rfl rfl) rfl rfl hl.1 rfl (lv_room (Nat.le_of_ble_eq_true rfl)) dX8_fault_63 ⟨Nat.zero_le _, Nat.zero_le _⟩) hG (fun r4 w5 H locs hr4 hG => ?_)
          obtain ⟨hr4, hvw5_0, hsw5⟩ := hr4
          replace hr4 := hr4.symm; subst hr4
          have hM : xv_M cI cZ ad w5 b (em_rdA A1 (I1 25).toNatClampNeg a1 ((A1 10) ((nI i).toNatClampNeg))) I1 L := hvw5_0
          obtain ⟨A6, eA6⟩ : ∃ zz : Nat → Nat → Int32, (em_rdA A1 (I1 25).toNatClampNeg a1 ((A1 10) ((nI i).toNatClampNeg))) = zz := ⟨_, rfl⟩
          rw [eA6] at hM
          have hSw5 : xv_S ws w5 b 24 := hSw9.trans (hsw5.mono (by omega) (by omega))
          refine xb_ifne (tgt := 71) S dX8_fault_66 (by decide) (fun c66 => ?_) (fun c66 => ?_)
          · skip
            refine lv_iload_n hx hb dX8_fault_71 rfl (lv_at hl 1 rfl) ?_
            refine lv_iconst (v := 4) hx hb dX8_fault_72 (by decide) ?_
            have jn83_7 : ∀ v7 : Int32, v7 = (if a1 = 4 then 0 else a1 + 1) → W pg l en ({ frames := 3, cells := 0, slots := 0, locals := 67 } : Room) s m ([.ref (ad b)] : List Value).toArray below meth c H locs 0 0 Q (F0 m 83 ls [.int v7]) := by
              intro v7 ev7
              replace ev7 := ev7.symm
              refine lv_istore_n (lv' := [(1, .int v7), (0, .ref (ad b)), (2, .int (nI i))]) hx hb dX8_fault_83 rfl hl (by decide) rfl (fun ls hl => ?_)
              refine lv_aload_n hx hb dX8_fault_84 rfl (lv_at hl 1 rfl) ?_
              refine lv_dup hx hb dX8_fault_85 rfl ?_
              refine xg_get (C := RX8) (T := TX8) (N := 46) S hK hG (fun w h => List.mem_cons_of_mem _ (List.mem_append_right _ (h))) b hM.1 rfl 25 (by decide) k0 (fun _ h9 => h9) rfl dX8_fault_86 ?_
              refine lv_iload_n hx hb dX8_fault_89 rfl (lv_at hl 0 rfl) ?_
              have jn98_8 : ∀ v8 : Int32, v8 = (if v7 = 0 then 1 else 0) → W pg l en ({ frames := 3, cells := 0, slots := 0, locals := 67 } : Room) s m ([.ref (ad b)] : List Value).toArray below meth c H locs 0 0 Q (F0 m 98 ls [.int v8, .int (I1 25), .ref (ad b)]) := by
                intro v8 ev8
                replace ev8 := ev8.symm
                refine lv_iadd hx hb dX8_fault_98 ?_
                refine xg_put2 (C := RX8) (T := TX8) (N := 46) (v := .int ((I1 25) + v8)) (ty := .int) S hK hG (fun w h => List.mem_cons_of_mem _ (List.mem_append_right _ (h))) tyX8 tyX8_ok nmX8 b hM.1 rfl 25 (by decide) k0 (fun _ h9 => h9) rfl (by decide +kernel) rfl rfl (Nat.le_of_ble_eq_true rfl) dX8_fault_99 (fun w9 H locs hw9 hG => ?_)
                have hs10 : xv_S w5 w9 b 1 := by rw [hw9]; exact xv_S.set (by omega) (by omega)
                obtain ⟨I11, eI11⟩ : ∃ zz : Nat → Int32, (va_up I1 25 ((I1 25) + v8)) = zz := ⟨_, rfl⟩
                have hM : xv_M cI cZ ad w9 b A6 I11 L := by rw [hw9, ← eI11]; exact hM.fld (va_up I1 25 ((I1 25) + v8)) L rfl
                have hSw9 : xv_S ws w9 b 24 := hSw5.trans (hs10.mono (by omega) (by omega))
                obtain ⟨x12, ex12⟩ : ∃ zz : Int32, ((nI i) + 1) = zz := ⟨_, rfl⟩
                refine lv_iinc (v := x12) (lv' := [(2, .int x12), (1, .int v7), (0, .ref (ad b))]) hx hb dX8_fault_102 hl (k := 2) rfl (by rw [← ex12]; rfl) (by decide) rfl (fun ls hl => ?_)
                refine lv_goto (tgt := 9) hx hb dX8_fault_105 (by decide) ?_
                exact ih (i + 1) (if em_nat a1 = 0 then e + 1 else e) v7 A6 I11 (by omega) (by omega) (by subst eI3 eA6 ev7 ev8 eI11 ex12; exact em_evi_e he) (by split <;> omega) (by subst eI3 eA6 ev7 ev8 eI11 ex12; rw [va_up_ne _ _ (by decide)]; exact hI) (by subst eI3 eA6 ev7 ev8 eI11 ex12; rw [hr2, em_fl_S hk9, if_neg (by simp [em_dot, c14, c18, c66]), if_pos (by rw [xb_cl (show i < 2 ^ 31 by omega)] at c66; exact c66), xb_cl (show i < 2 ^ 31 by omega)]; rfl) x12 (by subst eI3 eA6 ev7 ev8 eI11 ex12; exact nI_1 i) w9 _ _ hG hM hSw9 ls (lv_sub hl [2, 1, 0] rfl)
              refine lv_if_ne (tgt := 97) hx hb dX8_fault_90 (by decide) (fun c90 => ?_) (fun c90 => ?_)
              · skip
                refine lv_iconst (v := 0) hx hb dX8_fault_97 (by decide) ?_
                exact jn98_8 _ (by rw [if_neg c90])
              · skip
                refine lv_iconst (v := 1) hx hb dX8_fault_93 (by decide) ?_
                refine lv_goto (tgt := 98) hx hb dX8_fault_94 (by decide) ?_
                exact jn98_8 _ (by rw [if_pos c90])
            refine lv_icmp_ne (tgt := 80) hx hb dX8_fault_73 (by decide) (fun c73 => ?_) (fun c73 => ?_)
            · skip
              refine lv_iload_n hx hb dX8_fault_80 rfl (lv_at hl 1 rfl) ?_
              refine lv_iconst (v := 1) hx hb dX8_fault_81 (by decide) ?_
              refine lv_iadd hx hb dX8_fault_82 ?_
              exact jn83_7 _ (by rw [if_neg c73])
            · skip
              refine lv_iconst (v := 0) hx hb dX8_fault_76 (by decide) ?_
              refine lv_goto (tgt := 83) hx hb dX8_fault_77 (by decide) ?_
              exact jn83_7 _ (by rw [if_pos c73])
          · skip
            refine lv_iload_n hx hb dX8_fault_69 rfl (lv_at hl 2 rfl) ?_
            have hfin : em_flt A I n = (nI i, A6, I1) := by subst eI3 eA6; rw [hr2, em_fl_S hk9, if_neg (by simp [em_dot, c14, c18, c66]), if_neg (by rw [xb_cl (show i < 2 ^ 31 by omega)] at c66; simp [c66]), xb_cl (show i < 2 ^ 31 by omega)]
            rw [hQ]
            exact xg_emi S hr hlk hK hG ⟨(by subst eI3 eA6; rw [hfin]), (by rw [hfin]; exact hM), hSw5⟩ dX8_fault_70
        · skip
          refine lv_aload_n hx hb dX8_fault_21 rfl (lv_at hl 0 rfl) ?_
          refine xg_get (C := RX8) (T := TX8) (N := 46) S hK hG (fun w h => List.mem_cons_of_mem _ (List.mem_append_right _ (h))) b hM.1 rfl 19 (by decide) k2 (fun _ h9 => h9) rfl dX8_fault_22 ?_
          refine lv_iload_n hx hb dX8_fault_25 rfl (lv_at hl 2 rfl) ?_
          refine xg_ald S hK hG (b + 11) (show w9[b + 11]? = some (ad (b + 11), .inl (cI, 60, .inl (A1 10))) from hM.2.1 10 (by decide)) (i := nI i) (by first | assumption | exact vp_in_nI (by omega) (by decide)) dX8_fault_26 ?_
          refine lv_bipush (v := 46) hx hb dX8_fault_27 (by decide) ?_
          refine lv_icmp_ne (tgt := 55) hx hb dX8_fault_29 (by decide) (fun c29 => ?_) (fun c29 => ?_)
          · skip
            rw [xb_cl (show i < 2 ^ 31 by omega)] at c29
            refine lv_aload_n hx hb dX8_fault_55 rfl (lv_at hl 0 rfl) ?_
            refine lv_iload_n hx hb dX8_fault_56 rfl (lv_at hl 1 rfl) ?_
            refine lv_aload_n hx hb dX8_fault_57 rfl (lv_at hl 0 rfl) ?_
            refine xg_get (C := RX8) (T := TX8) (N := 46) S hK hG (fun w h => List.mem_cons_of_mem _ (List.mem_append_right _ (h))) b hM.1 rfl 19 (by decide) k2 (fun _ h9 => h9) rfl dX8_fault_58 ?_
            refine lv_iload_n hx hb dX8_fault_61 rfl (lv_at hl 2 rfl) ?_
            refine xg_ald S hK hG (b + 11) (show w9[b + 11]? = some (ad (b + 11), .inl (cI, 60, .inl (A1 10))) from hM.2.1 10 (by decide)) (i := nI i) (by first | assumption | exact vp_in_nI (by omega) (by decide)) dX8_fault_62 ?_
            refine xg_mi (va_runV (As := [.int a1, .int ((A1 10) ((nI i).toNatClampNeg))]) (rest := []) S (mX8_readsDare l D cI cZ bs ad w9 b A1 I1 L hM a1 ((A1 10) ((nI i).toNatClampNeg)) (by rw [he]; exact vp_in_nI (by omega) (by decide))) (cwV 2 hts gX8_fault_X8_readsDare rfl rfl rfl (by decide +kernel) ⟨Nat.le_of_ble_eq_true rfl, Nat.le_of_ble_eq_true rfl⟩) (xg_preV hK hG b hM.1 rfl rfl) rfl rfl hl.1 rfl (lv_room (Nat.le_of_ble_eq_true rfl)) dX8_fault_63 ⟨Nat.zero_le _, Nat.zero_le _⟩) hG (fun r13 w14 H locs hr13 hG => ?_)
            obtain ⟨hr13, hvw14_0, hsw14⟩ := hr13
            replace hr13 := hr13.symm; subst hr13
            have hM : xv_M cI cZ ad w14 b (em_rdA A1 (I1 25).toNatClampNeg a1 ((A1 10) ((nI i).toNatClampNeg))) I1 L := hvw14_0
            obtain ⟨A15, eA15⟩ : ∃ zz : Nat → Nat → Int32, (em_rdA A1 (I1 25).toNatClampNeg a1 ((A1 10) ((nI i).toNatClampNeg))) = zz := ⟨_, rfl⟩
            rw [eA15] at hM
            have hSw14 : xv_S ws w14 b 24 := hSw9.trans (hsw14.mono (by omega) (by omega))
            refine xb_ifne (tgt := 71) S dX8_fault_66 (by decide) (fun c66 => ?_) (fun c66 => ?_)
            · skip
              refine lv_iload_n hx hb dX8_fault_71 rfl (lv_at hl 1 rfl) ?_
              refine lv_iconst (v := 4) hx hb dX8_fault_72 (by decide) ?_
              have jn83_16 : ∀ v16 : Int32, v16 = (if a1 = 4 then 0 else a1 + 1) → W pg l en ({ frames := 3, cells := 0, slots := 0, locals := 67 } : Room) s m ([.ref (ad b)] : List Value).toArray below meth c H locs 0 0 Q (F0 m 83 ls [.int v16]) := by
                intro v16 ev16
                replace ev16 := ev16.symm
                refine lv_istore_n (lv' := [(1, .int v16), (0, .ref (ad b)), (2, .int (nI i))]) hx hb dX8_fault_83 rfl hl (by decide) rfl (fun ls hl => ?_)
                refine lv_aload_n hx hb dX8_fault_84 rfl (lv_at hl 1 rfl) ?_
                refine lv_dup hx hb dX8_fault_85 rfl ?_
                refine xg_get (C := RX8) (T := TX8) (N := 46) S hK hG (fun w h => List.mem_cons_of_mem _ (List.mem_append_right _ (h))) b hM.1 rfl 25 (by decide) k0 (fun _ h9 => h9) rfl dX8_fault_86 ?_
                refine lv_iload_n hx hb dX8_fault_89 rfl (lv_at hl 0 rfl) ?_
                have jn98_17 : ∀ v17 : Int32, v17 = (if v16 = 0 then 1 else 0) → W pg l en ({ frames := 3, cells := 0, slots := 0, locals := 67 } : Room) s m ([.ref (ad b)] : List Value).toArray below meth c H locs 0 0 Q (F0 m 98 ls [.int v17, .int (I1 25), .ref (ad b)]) := by
                  intro v17 ev17
                  replace ev17 := ev17.symm
                  refine lv_iadd hx hb dX8_fault_98 ?_
                  refine xg_put2 (C := RX8) (T := TX8) (N := 46) (v := .int ((I1 25) + v17)) (ty := .int) S hK hG (fun w h => List.mem_cons_of_mem _ (List.mem_append_right _ (h))) tyX8 tyX8_ok nmX8 b hM.1 rfl 25 (by decide) k0 (fun _ h9 => h9) rfl (by decide +kernel) rfl rfl (Nat.le_of_ble_eq_true rfl) dX8_fault_99 (fun w18 H locs hw18 hG => ?_)
                  have hs19 : xv_S w14 w18 b 1 := by rw [hw18]; exact xv_S.set (by omega) (by omega)
                  obtain ⟨I20, eI20⟩ : ∃ zz : Nat → Int32, (va_up I1 25 ((I1 25) + v17)) = zz := ⟨_, rfl⟩
                  have hM : xv_M cI cZ ad w18 b A15 I20 L := by rw [hw18, ← eI20]; exact hM.fld (va_up I1 25 ((I1 25) + v17)) L rfl
                  have hSw18 : xv_S ws w18 b 24 := hSw14.trans (hs19.mono (by omega) (by omega))
                  obtain ⟨x21, ex21⟩ : ∃ zz : Int32, ((nI i) + 1) = zz := ⟨_, rfl⟩
                  refine lv_iinc (v := x21) (lv' := [(2, .int x21), (1, .int v16), (0, .ref (ad b))]) hx hb dX8_fault_102 hl (k := 2) rfl (by rw [← ex21]; rfl) (by decide) rfl (fun ls hl => ?_)
                  refine lv_goto (tgt := 9) hx hb dX8_fault_105 (by decide) ?_
                  exact ih (i + 1) (if em_nat a1 = 0 then e + 1 else e) v16 A15 I20 (by omega) (by omega) (by subst eI3 eA15 ev16 ev17 eI20 ex21; exact em_evi_e he) (by split <;> omega) (by subst eI3 eA15 ev16 ev17 eI20 ex21; rw [va_up_ne _ _ (by decide)]; exact hI) (by subst eI3 eA15 ev16 ev17 eI20 ex21; rw [hr2, em_fl_S hk9, if_neg (by simp [em_dot, c14, c18, c29, c66]), if_pos (by rw [xb_cl (show i < 2 ^ 31 by omega)] at c66; exact c66), xb_cl (show i < 2 ^ 31 by omega)]; rfl) x21 (by subst eI3 eA15 ev16 ev17 eI20 ex21; exact nI_1 i) w18 _ _ hG hM hSw18 ls (lv_sub hl [2, 1, 0] rfl)
                refine lv_if_ne (tgt := 97) hx hb dX8_fault_90 (by decide) (fun c90 => ?_) (fun c90 => ?_)
                · skip
                  refine lv_iconst (v := 0) hx hb dX8_fault_97 (by decide) ?_
                  exact jn98_17 _ (by rw [if_neg c90])
                · skip
                  refine lv_iconst (v := 1) hx hb dX8_fault_93 (by decide) ?_
                  refine lv_goto (tgt := 98) hx hb dX8_fault_94 (by decide) ?_
                  exact jn98_17 _ (by rw [if_pos c90])
              refine lv_icmp_ne (tgt := 80) hx hb dX8_fault_73 (by decide) (fun c73 => ?_) (fun c73 => ?_)
              · skip
                refine lv_iload_n hx hb dX8_fault_80 rfl (lv_at hl 1 rfl) ?_
                refine lv_iconst (v := 1) hx hb dX8_fault_81 (by decide) ?_
                refine lv_iadd hx hb dX8_fault_82 ?_
                exact jn83_16 _ (by rw [if_neg c73])
              · skip
                refine lv_iconst (v := 0) hx hb dX8_fault_76 (by decide) ?_
                refine lv_goto (tgt := 83) hx hb dX8_fault_77 (by decide) ?_
                exact jn83_16 _ (by rw [if_pos c73])
            · skip
              refine lv_iload_n hx hb dX8_fault_69 rfl (lv_at hl 2 rfl) ?_
              have hfin : em_flt A I n = (nI i, A15, I1) := by subst eI3 eA15; rw [hr2, em_fl_S hk9, if_neg (by simp [em_dot, c14, c18, c29, c66]), if_neg (by rw [xb_cl (show i < 2 ^ 31 by omega)] at c66; simp [c66]), xb_cl (show i < 2 ^ 31 by omega)]
              rw [hQ]
              exact xg_emi S hr hlk hK hG ⟨(by subst eI3 eA15; rw [hfin]), (by rw [hfin]; exact hM), hSw14⟩ dX8_fault_70
          · skip
            refine lv_aload_n hx hb dX8_fault_32 rfl (lv_at hl 0 rfl) ?_
            refine xg_get (C := RX8) (T := TX8) (N := 46) S hK hG (fun w h => List.mem_cons_of_mem _ (List.mem_append_right _ (h))) b hM.1 rfl 21 (by decide) k3 (fun _ h9 => h9) rfl dX8_fault_33 ?_
            refine lv_aload_n hx hb dX8_fault_36 rfl (lv_at hl 0 rfl) ?_
            refine xg_get (C := RX8) (T := TX8) (N := 46) S hK hG (fun w h => List.mem_cons_of_mem _ (List.mem_append_right _ (h))) b hM.1 rfl 25 (by decide) k0 (fun _ h9 => h9) rfl dX8_fault_37 ?_
            refine lv_iconst (v := 0) hx hb dX8_fault_40 (by decide) ?_
            refine xg_ast2 S hK hG (b + 12) (show w9[b + 12]? = some (ad (b + 12), .inl (cI, 60, .inl (A1 11))) from hM.2.1 11 (by decide)) (i := I1 25) (x := 0) (by rw [he]; exact vp_in_nI (by omega) (by decide)) dX8_fault_41 (fun w22 H locs hw22 hG => ?_)
            have hs23 : xv_S w9 w22 (b + 12) 1 := by rw [hw22]; exact xv_S.set (by omega) (by omega)
            obtain ⟨A24, eA24⟩ : ∃ zz : Nat → Nat → Int32, (va_up A1 11 (upd (A1 11) ((I1 25).toNatClampNeg) 0)) = zz := ⟨_, rfl⟩
            have hM : xv_M cI cZ ad w22 b A24 I1 L := by rw [hw22, ← eA24]; exact hM.row 11 (by decide)
            have hSw22 : xv_S ws w22 b 24 := hSw9.trans (hs23.mono (by omega) (by omega))
            refine lv_aload_n hx hb dX8_fault_42 rfl (lv_at hl 0 rfl) ?_
            refine lv_dup hx hb dX8_fault_43 rfl ?_
            refine xg_get (C := RX8) (T := TX8) (N := 46) S hK hG (fun w h => List.mem_cons_of_mem _ (List.mem_append_right _ (h))) b hM.1 rfl 25 (by decide) k0 (fun _ h9 => h9) rfl dX8_fault_44 ?_
            refine lv_iconst (v := 1) hx hb dX8_fault_47 (by decide) ?_
            refine lv_iadd hx hb dX8_fault_48 ?_
            refine xg_put2 (C := RX8) (T := TX8) (N := 46) (v := .int ((I1 25) + 1)) (ty := .int) S hK hG (fun w h => List.mem_cons_of_mem _ (List.mem_append_right _ (h))) tyX8 tyX8_ok nmX8 b hM.1 rfl 25 (by decide) k0 (fun _ h9 => h9) rfl (by decide +kernel) rfl rfl (Nat.le_of_ble_eq_true rfl) dX8_fault_49 (fun w25 H locs hw25 hG => ?_)
            have hs26 : xv_S w22 w25 b 1 := by rw [hw25]; exact xv_S.set (by omega) (by omega)
            obtain ⟨I27, eI27⟩ : ∃ zz : Nat → Int32, (va_up I1 25 ((I1 25) + 1)) = zz := ⟨_, rfl⟩
            have hM : xv_M cI cZ ad w25 b A24 I27 L := by rw [hw25, ← eI27]; exact hM.fld (va_up I1 25 ((I1 25) + 1)) L rfl
            have hSw25 : xv_S ws w25 b 24 := hSw22.trans (hs26.mono (by omega) (by omega))
            refine lv_goto (tgt := 102) hx hb dX8_fault_52 (by decide) ?_
            obtain ⟨x28, ex28⟩ : ∃ zz : Int32, ((nI i) + 1) = zz := ⟨_, rfl⟩
            refine lv_iinc (v := x28) (lv' := [(2, .int x28), (0, .ref (ad b)), (1, .int a1)]) hx hb dX8_fault_102 hl (k := 2) rfl (by rw [← ex28]; rfl) (by decide) rfl (fun ls hl => ?_)
            refine lv_goto (tgt := 9) hx hb dX8_fault_105 (by decide) ?_
            exact ih (i + 1) (e + 1) a1 A24 I27 (by omega) (by omega) (by subst eI3 eA24 eI27 ex28; rw [va_up_self, he]; exact nI_1 e) (by omega) (by subst eI3 eA24 eI27 ex28; rw [va_up_ne _ _ (by decide)]; exact hI) (by subst eI3 eA24 eI27 ex28; rw [hr2, em_fl_S hk9, if_pos (by rw [xb_cl (show i < 2 ^ 31 by omega)] at c29; simp [em_dot, c18, c29])]) x28 (by subst eI3 eA24 eI27 ex28; exact nI_1 i) w25 _ _ hG hM hSw25 ls (lv_sub hl [1, 2, 0] rfl)
  exact lp9 (n + 1) 0 0 0 A I3 (by omega) (by omega) (by subst eI3; rfl) (by omega) (by subst eI3; rw [va_up_ne _ _ (by decide)]; exact hn) (by subst eI3; rfl) 0 (by subst eI3; rfl) w1 _ _ hG hM hSw1 ls (lv_sub hl [2, 1, 0] rfl)
set_option maxHeartbeats 4000000 in
set_option maxRecDepth 100000 in
theorem mX8_happen (l : Launch) (D : va_G) (cI cZ : ClassId) (bs : Nat) (ad : Nat → Nat) (ws : va_W) (b : Nat) (A : Nat → Nat → Int32) (I : Nat → Int32) (L : Int64) (hM : xv_M cI cZ ad ws b A I L) (k9 : Int32) (hk : vp_in k9 60) (hw1 : vp_in (A 12 k9.toNatClampNeg) 6) (hw2 : vp_in (A 13 k9.toNatClampNeg) 6) : Met l yX8_happen wsX8_happen ({ frames := 2, cells := 0, slots := 0, locals := 46 } : Room) (va_Pc [.ref (ad b), .int k9] (fun U => xg_W D cI cZ bs ws U)) (va_Qv (fun w : va_W => xv_M cI cZ ad w b (em_hpA A I k9.toNatClampNeg) (em_hpI A I k9.toNatClampNeg) L ∧ xv_S ws w b 24) (fun w t => xg_W D cI cZ bs w t) (xg_A bs)) 0 0 (xg_A bs) := by
  refine xg_met cX8_happen 4 none RX8 (by decide) rfl rfl (Nat.le_of_ble_eq_true rfl) ?_
  intro pg en s m below meth c ls S hr hlk hnm hB hl
  have hK := hB.1
  have hG := xg_start hB
  obtain ⟨hx, hb, hml, hown, hts⟩ := id S
  have hl : lv_has ls 4 [(0, .ref (ad b)), (1, .int k9)] := hl
  obtain ⟨Q, hQ⟩ : ∃ Q, Q = MQ below (va_Qv (fun w : va_W => xv_M cI cZ ad w b (em_hpA A I k9.toNatClampNeg) (em_hpI A I k9.toNatClampNeg) L ∧ xv_S ws w b 24) (fun w t => xg_W D cI cZ bs w t) (xg_A bs)) ([.ref (ad b), .int k9] : List Value).toArray s 0 0 (xg_A bs) := ⟨_, rfl⟩
  rw [← hQ]
  have k0 := hts (.fieldLink RX8 46 "DareBridgeModel" "who" "[I") (List.mem_of_getElem? (i := 1) rfl)
  have k1 := hts (.fieldLink RX8 49 "DareBridgeModel" "whom" "[I") (List.mem_of_getElem? (i := 2) rfl)
  have k2 := hts (.fieldLink RX8 43 "DareBridgeModel" "sort" "[I") (List.mem_of_getElem? (i := 3) rfl)
  have k3 := hts (.fieldLink RX8 52 "DareBridgeModel" "height" "[I") (List.mem_of_getElem? (i := 4) rfl)
  have k4 := hts (.fieldLink RX8 194 "DareBridgeModel" "doubled" "I") (List.mem_of_getElem? (i := 8) rfl)
  have k5 := hts (.fieldLink RX8 25 "DareBridgeModel" "fame" "[I") (List.mem_of_getElem? (i := 6) rfl)
  have k6 := hts (.fieldLink RX8 191 "DareBridgeModel" "refused" "I") (List.mem_of_getElem? (i := 7) rfl)
  have k7 := hts (.fieldLink RX8 188 "DareBridgeModel" "did" "I") (List.mem_of_getElem? (i := 5) rfl)
  refine lv_aload_n hx hb dX8_happen_0 rfl (lv_at hl 0 rfl) ?_
  refine xg_get (C := RX8) (T := TX8) (N := 46) S hK hG (fun w h => List.mem_cons_of_mem _ (List.mem_append_right _ (h))) b hM.1 rfl 22 (by decide) k0 (fun _ h9 => h9) rfl dX8_happen_1 ?_
  refine lv_iload_n hx hb dX8_happen_4 rfl (lv_at hl 1 rfl) ?_
  refine xg_ald S hK hG (b + 13) (show ws[b + 13]? = some (ad (b + 13), .inl (cI, 60, .inl (A 12))) from hM.2.1 12 (by decide)) (i := k9) (by first | assumption | exact vp_in_nI (by omega) (by decide)) dX8_happen_5 ?_
  refine lv_topi (fun x1 ex1 => ?_)
  replace ex1 := ex1.symm
  refine lv_istore_n (lv' := [(2, .int x1), (0, .ref (ad b)), (1, .int k9)]) hx hb dX8_happen_6 rfl hl (by decide) rfl (fun ls hl => ?_)
  refine lv_aload_n hx hb dX8_happen_7 rfl (lv_at hl 1 rfl) ?_
  refine xg_get (C := RX8) (T := TX8) (N := 46) S hK hG (fun w h => List.mem_cons_of_mem _ (List.mem_append_right _ (h))) b hM.1 rfl 23 (by decide) k1 (fun _ h9 => h9) rfl dX8_happen_8 ?_
  refine lv_iload_n hx hb dX8_happen_11 rfl (lv_at hl 2 rfl) ?_
  refine xg_ald S hK hG (b + 14) (show ws[b + 14]? = some (ad (b + 14), .inl (cI, 60, .inl (A 13))) from hM.2.1 13 (by decide)) (i := k9) (by first | assumption | exact vp_in_nI (by omega) (by decide)) dX8_happen_12 ?_
  refine lv_topi (fun x2 ex2 => ?_)
  replace ex2 := ex2.symm
  refine lv_istore_n (lv' := [(3, .int x2), (2, .int x1), (0, .ref (ad b)), (1, .int k9)]) hx hb dX8_happen_13 rfl hl (by decide) rfl (fun ls hl => ?_)
  refine lv_aload_n hx hb dX8_happen_14 rfl (lv_at hl 2 rfl) ?_
  refine xg_get (C := RX8) (T := TX8) (N := 46) S hK hG (fun w h => List.mem_cons_of_mem _ (List.mem_append_right _ (h))) b hM.1 rfl 21 (by decide) k2 (fun _ h9 => h9) rfl dX8_happen_15 ?_
  refine lv_iload_n hx hb dX8_happen_18 rfl (lv_at hl 3 rfl) ?_
  refine xg_ald S hK hG (b + 12) (show ws[b + 12]? = some (ad (b + 12), .inl (cI, 60, .inl (A 11))) from hM.2.1 11 (by decide)) (i := k9) (by first | assumption | exact vp_in_nI (by omega) (by decide)) dX8_happen_19 ?_
  refine lv_bipush (v := 43) hx hb dX8_happen_20 (by decide) ?_
  refine lv_icmp_ne (tgt := 50) hx hb dX8_happen_22 (by decide) (fun c22 => ?_) (fun c22 => ?_)
  · skip
    refine lv_aload_n hx hb dX8_happen_50 rfl (lv_at hl 2 rfl) ?_
    refine xg_get (C := RX8) (T := TX8) (N := 46) S hK hG (fun w h => List.mem_cons_of_mem _ (List.mem_append_right _ (h))) b hM.1 rfl 21 (by decide) k2 (fun _ h9 => h9) rfl dX8_happen_51 ?_
    refine lv_iload_n hx hb dX8_happen_54 rfl (lv_at hl 3 rfl) ?_
    refine xg_ald S hK hG (b + 12) (show ws[b + 12]? = some (ad (b + 12), .inl (cI, 60, .inl (A 11))) from hM.2.1 11 (by decide)) (i := k9) (by first | assumption | exact vp_in_nI (by omega) (by decide)) dX8_happen_55 ?_
    refine lv_bipush (v := 45) hx hb dX8_happen_56 (by decide) ?_
    refine lv_icmp_ne (tgt := 91) hx hb dX8_happen_58 (by decide) (fun c58 => ?_) (fun c58 => ?_)
    · skip
      refine lv_aload_n hx hb dX8_happen_91 rfl (lv_at hl 2 rfl) ?_
      refine lv_iload_n hx hb dX8_happen_92 rfl (lv_at hl 1 rfl) ?_
      refine lv_aload_n hx hb dX8_happen_93 rfl (lv_at hl 2 rfl) ?_
      refine xg_get (C := RX8) (T := TX8) (N := 46) S hK hG (fun w h => List.mem_cons_of_mem _ (List.mem_append_right _ (h))) b hM.1 rfl 24 (by decide) k3 (fun _ h9 => h9) rfl dX8_happen_94 ?_
      refine lv_iload_n hx hb dX8_happen_97 rfl (lv_at hl 3 rfl) ?_
      refine xg_ald S hK hG (b + 15) (show ws[b + 15]? = some (ad (b + 15), .inl (cI, 60, .inl (A 14))) from hM.2.1 14 (by decide)) (i := k9) (by first | assumption | exact vp_in_nI (by omega) (by decide)) dX8_happen_98 ?_
      refine xg_mi (va_runV (As := [.int x1, .int ((A 14) k9.toNatClampNeg)]) (rest := []) S (mX8_doIt l D cI cZ bs ad ws b A I L hM x1 ((A 14) k9.toNatClampNeg) (by subst ex1 ex2; exact hw1)) (cwV 2 hts gX8_happen_X8_doIt rfl rfl rfl (by decide +kernel) ⟨Nat.le_of_ble_eq_true rfl, Nat.le_of_ble_eq_true rfl⟩) (xg_preV hK hG b hM.1 rfl rfl) rfl rfl hl.1 rfl (lv_room (Nat.le_of_ble_eq_true rfl)) dX8_happen_99 ⟨Nat.zero_le _, Nat.zero_le _⟩) hG (fun r3 w4 H locs hr3 hG => ?_)
      obtain ⟨hr3, hvw4_0, hsw4⟩ := hr3
      replace hr3 := hr3.symm; subst hr3
      have hM : xv_M cI cZ ad w4 b (em_doT A I x1 ((A 14) k9.toNatClampNeg)) (em_doI I) L := hvw4_0
      obtain ⟨A5, eA5⟩ : ∃ zz : Nat → Nat → Int32, (em_doT A I x1 ((A 14) k9.toNatClampNeg)) = zz := ⟨_, rfl⟩
      rw [eA5] at hM
      obtain ⟨I6, eI6⟩ : ∃ zz : Nat → Int32, (em_doI I) = zz := ⟨_, rfl⟩
      rw [eI6] at hM
      have hSw4 : xv_S ws w4 b 24 := hsw4.mono (by omega) (by omega)
      refine xb_ifeq (tgt := 117) S dX8_happen_102 (by decide) (fun c102 => ?_) (fun c102 => ?_)
      · skip
        replace c102 := of_decide_eq_false c102
        refine lv_aload_n hx hb dX8_happen_117 rfl (lv_at hl 2 rfl) ?_
        refine lv_dup hx hb dX8_happen_118 rfl ?_
        refine xg_get (C := RX8) (T := TX8) (N := 46) S hK hG (fun w h => List.mem_cons_of_mem _ (List.mem_append_right _ (h))) b hM.1 rfl 30 (by decide) k4 (fun _ h9 => h9) rfl dX8_happen_119 ?_
        refine lv_iconst (v := 1) hx hb dX8_happen_122 (by decide) ?_
        refine lv_iadd hx hb dX8_happen_123 ?_
        refine xg_put2 (C := RX8) (T := TX8) (N := 46) (v := .int ((I6 30) + 1)) (ty := .int) S hK hG (fun w h => List.mem_cons_of_mem _ (List.mem_append_right _ (h))) tyX8 tyX8_ok nmX8 b hM.1 rfl 30 (by decide) k4 (fun _ h9 => h9) rfl (by decide +kernel) rfl rfl (Nat.le_of_ble_eq_true rfl) dX8_happen_124 (fun w7 H locs hw7 hG => ?_)
        have hs8 : xv_S w4 w7 b 1 := by rw [hw7]; exact xv_S.set (by omega) (by omega)
        obtain ⟨I9, eI9⟩ : ∃ zz : Nat → Int32, (va_up I6 30 ((I6 30) + 1)) = zz := ⟨_, rfl⟩
        have hM : xv_M cI cZ ad w7 b A5 I9 L := by rw [hw7, ← eI9]; exact hM.fld (va_up I6 30 ((I6 30) + 1)) L rfl
        have hSw7 : xv_S ws w7 b 24 := hSw4.trans (hs8.mono (by omega) (by omega))
        rw [hQ]
        exact xg_emv S hr hlk hK hG ⟨(by rw [show (em_hpA A I k9.toNatClampNeg) = A5 from (by subst ex1 ex2 eA5 eI6 eI9; simp [em_hpA, em_hp2, em_hpI, em_hi2, em_doT_ne, em_doI_ne, c22, c58, c102])]; rw [show (em_hpI A I k9.toNatClampNeg) = I9 from (by subst ex1 ex2 eA5 eI6 eI9; simp [em_hpA, em_hp2, em_hpI, em_hi2, em_doT_ne, em_doI_ne, c22, c58, c102])]; exact hM), hSw7⟩ dX8_happen_127
      · skip
        replace c102 := of_decide_eq_true c102
        refine lv_aload_n hx hb dX8_happen_105 rfl (lv_at hl 2 rfl) ?_
        refine lv_iload_n hx hb dX8_happen_106 rfl (lv_at hl 0 rfl) ?_
        refine lv_aload_n hx hb dX8_happen_107 rfl (lv_at hl 2 rfl) ?_
        refine xg_get (C := RX8) (T := TX8) (N := 46) S hK hG (fun w h => List.mem_cons_of_mem _ (List.mem_append_right _ (h))) b hM.1 rfl 24 (by decide) k3 (fun _ h9 => h9) rfl dX8_happen_108 ?_
        refine lv_iload_n hx hb dX8_happen_111 rfl (lv_at hl 3 rfl) ?_
        refine xg_ald S hK hG (b + 15) (show w4[b + 15]? = some (ad (b + 15), .inl (cI, 60, .inl (A5 14))) from hM.2.1 14 (by decide)) (i := k9) (by first | assumption | exact vp_in_nI (by omega) (by decide)) dX8_happen_112 ?_
        refine xg_mi (va_runV (As := [.int x2, .int ((A5 14) k9.toNatClampNeg)]) (rest := []) S (mX8_doIt l D cI cZ bs ad w4 b A5 I6 L hM x2 ((A5 14) k9.toNatClampNeg) (by subst ex1 ex2 eA5 eI6; exact hw2)) (cwV 2 hts gX8_happen_X8_doIt rfl rfl rfl (by decide +kernel) ⟨Nat.le_of_ble_eq_true rfl, Nat.le_of_ble_eq_true rfl⟩) (xg_preV hK hG b hM.1 rfl rfl) rfl rfl hl.1 rfl (lv_room (Nat.le_of_ble_eq_true rfl)) dX8_happen_113 ⟨Nat.zero_le _, Nat.zero_le _⟩) hG (fun r10 w11 H locs hr10 hG => ?_)
        obtain ⟨hr10, hvw11_0, hsw11⟩ := hr10
        replace hr10 := hr10.symm; subst hr10
        have hM : xv_M cI cZ ad w11 b (em_doT A5 I6 x2 ((A5 14) k9.toNatClampNeg)) (em_doI I6) L := hvw11_0
        obtain ⟨A12, eA12⟩ : ∃ zz : Nat → Nat → Int32, (em_doT A5 I6 x2 ((A5 14) k9.toNatClampNeg)) = zz := ⟨_, rfl⟩
        rw [eA12] at hM
        obtain ⟨I13, eI13⟩ : ∃ zz : Nat → Int32, (em_doI I6) = zz := ⟨_, rfl⟩
        rw [eI13] at hM
        have hSw11 : xv_S ws w11 b 24 := hSw4.trans (hsw11.mono (by omega) (by omega))
        refine lv_pop hx hb dX8_happen_116 rfl ?_
        refine lv_aload_n hx hb dX8_happen_117 rfl (lv_at hl 2 rfl) ?_
        refine lv_dup hx hb dX8_happen_118 rfl ?_
        refine xg_get (C := RX8) (T := TX8) (N := 46) S hK hG (fun w h => List.mem_cons_of_mem _ (List.mem_append_right _ (h))) b hM.1 rfl 30 (by decide) k4 (fun _ h9 => h9) rfl dX8_happen_119 ?_
        refine lv_iconst (v := 1) hx hb dX8_happen_122 (by decide) ?_
        refine lv_iadd hx hb dX8_happen_123 ?_
        refine xg_put2 (C := RX8) (T := TX8) (N := 46) (v := .int ((I13 30) + 1)) (ty := .int) S hK hG (fun w h => List.mem_cons_of_mem _ (List.mem_append_right _ (h))) tyX8 tyX8_ok nmX8 b hM.1 rfl 30 (by decide) k4 (fun _ h9 => h9) rfl (by decide +kernel) rfl rfl (Nat.le_of_ble_eq_true rfl) dX8_happen_124 (fun w14 H locs hw14 hG => ?_)
        have hs15 : xv_S w11 w14 b 1 := by rw [hw14]; exact xv_S.set (by omega) (by omega)
        obtain ⟨I16, eI16⟩ : ∃ zz : Nat → Int32, (va_up I13 30 ((I13 30) + 1)) = zz := ⟨_, rfl⟩
        have hM : xv_M cI cZ ad w14 b A12 I16 L := by rw [hw14, ← eI16]; exact hM.fld (va_up I13 30 ((I13 30) + 1)) L rfl
        have hSw14 : xv_S ws w14 b 24 := hSw11.trans (hs15.mono (by omega) (by omega))
        rw [hQ]
        exact xg_emv S hr hlk hK hG ⟨(by rw [show (em_hpA A I k9.toNatClampNeg) = A12 from (by subst ex1 ex2 eA5 eI6 eA12 eI13 eI16; simp [em_hpA, em_hp2, em_hpI, em_hi2, em_doT_ne, em_doI_ne, c22, c58, c102])]; rw [show (em_hpI A I k9.toNatClampNeg) = I16 from (by subst ex1 ex2 eA5 eI6 eA12 eI13 eI16; simp [em_hpA, em_hp2, em_hpI, em_hi2, em_doT_ne, em_doI_ne, c22, c58, c102])]; exact hM), hSw14⟩ dX8_happen_127
    · skip
      refine lv_aload_n hx hb dX8_happen_61 rfl (lv_at hl 2 rfl) ?_
      refine xg_get (C := RX8) (T := TX8) (N := 46) S hK hG (fun w h => List.mem_cons_of_mem _ (List.mem_append_right _ (h))) b hM.1 rfl 6 (by decide) k5 (fun _ h9 => h9) rfl dX8_happen_62 ?_
      refine lv_iload_n hx hb dX8_happen_65 rfl (lv_at hl 0 rfl) ?_
      refine lv_dup2_11 hx hb dX8_happen_66 rfl rfl ?_
      refine xg_ald S hK hG (b + 6) (show ws[b + 6]? = some (ad (b + 6), .inl (cI, 6, .inl (A 5))) from hM.2.1 5 (by decide)) (i := x2) (by subst ex1 ex2; exact hw2) dX8_happen_67 ?_
      refine lv_aload_n hx hb dX8_happen_68 rfl (lv_at hl 2 rfl) ?_
      refine xg_get (C := RX8) (T := TX8) (N := 46) S hK hG (fun w h => List.mem_cons_of_mem _ (List.mem_append_right _ (h))) b hM.1 rfl 24 (by decide) k3 (fun _ h9 => h9) rfl dX8_happen_69 ?_
      refine lv_iload_n hx hb dX8_happen_72 rfl (lv_at hl 3 rfl) ?_
      refine xg_ald S hK hG (b + 15) (show ws[b + 15]? = some (ad (b + 15), .inl (cI, 60, .inl (A 14))) from hM.2.1 14 (by decide)) (i := k9) (by first | assumption | exact vp_in_nI (by omega) (by decide)) dX8_happen_73 ?_
      refine lv_iconst (v := 2) hx hb dX8_happen_74 (by decide) ?_
      refine lv_idiv hx hb dX8_happen_75 (by decide) ?_
      refine lv_isub hx hb dX8_happen_76 ?_
      refine xg_ast2 S hK hG (b + 6) (show ws[b + 6]? = some (ad (b + 6), .inl (cI, 6, .inl (A 5))) from hM.2.1 5 (by decide)) (i := x2) (x := ((A 5) x2.toNatClampNeg) - (((A 14) k9.toNatClampNeg) / 2)) (by subst ex1 ex2; exact hw2) dX8_happen_77 (fun w17 H locs hw17 hG => ?_)
      have hs18 : xv_S ws w17 (b + 6) 1 := by rw [hw17]; exact xv_S.set (by omega) (by omega)
      obtain ⟨A19, eA19⟩ : ∃ zz : Nat → Nat → Int32, (va_up A 5 (upd (A 5) x2.toNatClampNeg (((A 5) x2.toNatClampNeg) - (((A 14) k9.toNatClampNeg) / 2)))) = zz := ⟨_, rfl⟩
      have hM : xv_M cI cZ ad w17 b A19 I L := by rw [hw17, ← eA19]; exact hM.row 5 (by decide)
      have hSw17 : xv_S ws w17 b 24 := hs18.mono (by omega) (by omega)
      refine lv_aload_n hx hb dX8_happen_78 rfl (lv_at hl 2 rfl) ?_
      refine lv_dup hx hb dX8_happen_79 rfl ?_
      refine xg_get (C := RX8) (T := TX8) (N := 46) S hK hG (fun w h => List.mem_cons_of_mem _ (List.mem_append_right _ (h))) b hM.1 rfl 29 (by decide) k6 (fun _ h9 => h9) rfl dX8_happen_80 ?_
      refine lv_iconst (v := 1) hx hb dX8_happen_83 (by decide) ?_
      refine lv_iadd hx hb dX8_happen_84 ?_
      refine xg_put2 (C := RX8) (T := TX8) (N := 46) (v := .int ((I 29) + 1)) (ty := .int) S hK hG (fun w h => List.mem_cons_of_mem _ (List.mem_append_right _ (h))) tyX8 tyX8_ok nmX8 b hM.1 rfl 29 (by decide) k6 (fun _ h9 => h9) rfl (by decide +kernel) rfl rfl (Nat.le_of_ble_eq_true rfl) dX8_happen_85 (fun w20 H locs hw20 hG => ?_)
      have hs21 : xv_S w17 w20 b 1 := by rw [hw20]; exact xv_S.set (by omega) (by omega)
      obtain ⟨I22, eI22⟩ : ∃ zz : Nat → Int32, (va_up I 29 ((I 29) + 1)) = zz := ⟨_, rfl⟩
      have hM : xv_M cI cZ ad w20 b A19 I22 L := by rw [hw20, ← eI22]; exact hM.fld (va_up I 29 ((I 29) + 1)) L rfl
      have hSw20 : xv_S ws w20 b 24 := hSw17.trans (hs21.mono (by omega) (by omega))
      refine lv_goto (tgt := 127) hx hb dX8_happen_88 (by decide) ?_
      rw [hQ]
      exact xg_emv S hr hlk hK hG ⟨(by rw [show (em_hpA A I k9.toNatClampNeg) = A19 from (by subst ex1 ex2 eA19 eI22; simp [em_hpA, em_hp2, em_hpI, em_hi2, em_doT_ne, em_doI_ne, c22, c58])]; rw [show (em_hpI A I k9.toNatClampNeg) = I22 from (by subst ex1 ex2 eA19 eI22; simp [em_hpA, em_hp2, em_hpI, em_hi2, em_doT_ne, em_doI_ne, c22, c58])]; exact hM), hSw20⟩ dX8_happen_127
  · skip
    refine lv_aload_n hx hb dX8_happen_25 rfl (lv_at hl 2 rfl) ?_
    refine lv_iload_n hx hb dX8_happen_26 rfl (lv_at hl 0 rfl) ?_
    refine lv_aload_n hx hb dX8_happen_27 rfl (lv_at hl 2 rfl) ?_
    refine xg_get (C := RX8) (T := TX8) (N := 46) S hK hG (fun w h => List.mem_cons_of_mem _ (List.mem_append_right _ (h))) b hM.1 rfl 24 (by decide) k3 (fun _ h9 => h9) rfl dX8_happen_28 ?_
    refine lv_iload_n hx hb dX8_happen_31 rfl (lv_at hl 3 rfl) ?_
    refine xg_ald S hK hG (b + 15) (show ws[b + 15]? = some (ad (b + 15), .inl (cI, 60, .inl (A 14))) from hM.2.1 14 (by decide)) (i := k9) (by first | assumption | exact vp_in_nI (by omega) (by decide)) dX8_happen_32 ?_
    refine xg_mi (va_runV (As := [.int x2, .int ((A 14) k9.toNatClampNeg)]) (rest := []) S (mX8_doIt l D cI cZ bs ad ws b A I L hM x2 ((A 14) k9.toNatClampNeg) (by subst ex1 ex2; exact hw2)) (cwV 2 hts gX8_happen_X8_doIt rfl rfl rfl (by decide +kernel) ⟨Nat.le_of_ble_eq_true rfl, Nat.le_of_ble_eq_true rfl⟩) (xg_preV hK hG b hM.1 rfl rfl) rfl rfl hl.1 rfl (lv_room (Nat.le_of_ble_eq_true rfl)) dX8_happen_33 ⟨Nat.zero_le _, Nat.zero_le _⟩) hG (fun r23 w24 H locs hr23 hG => ?_)
    obtain ⟨hr23, hvw24_0, hsw24⟩ := hr23
    replace hr23 := hr23.symm; subst hr23
    have hM : xv_M cI cZ ad w24 b (em_doT A I x2 ((A 14) k9.toNatClampNeg)) (em_doI I) L := hvw24_0
    obtain ⟨A25, eA25⟩ : ∃ zz : Nat → Nat → Int32, (em_doT A I x2 ((A 14) k9.toNatClampNeg)) = zz := ⟨_, rfl⟩
    rw [eA25] at hM
    obtain ⟨I26, eI26⟩ : ∃ zz : Nat → Int32, (em_doI I) = zz := ⟨_, rfl⟩
    rw [eI26] at hM
    have hSw24 : xv_S ws w24 b 24 := hsw24.mono (by omega) (by omega)
    refine lv_pop hx hb dX8_happen_36 rfl ?_
    refine lv_aload_n hx hb dX8_happen_37 rfl (lv_at hl 2 rfl) ?_
    refine lv_dup hx hb dX8_happen_38 rfl ?_
    refine xg_get (C := RX8) (T := TX8) (N := 46) S hK hG (fun w h => List.mem_cons_of_mem _ (List.mem_append_right _ (h))) b hM.1 rfl 28 (by decide) k7 (fun _ h9 => h9) rfl dX8_happen_39 ?_
    refine lv_iconst (v := 1) hx hb dX8_happen_42 (by decide) ?_
    refine lv_iadd hx hb dX8_happen_43 ?_
    refine xg_put2 (C := RX8) (T := TX8) (N := 46) (v := .int ((I26 28) + 1)) (ty := .int) S hK hG (fun w h => List.mem_cons_of_mem _ (List.mem_append_right _ (h))) tyX8 tyX8_ok nmX8 b hM.1 rfl 28 (by decide) k7 (fun _ h9 => h9) rfl (by decide +kernel) rfl rfl (Nat.le_of_ble_eq_true rfl) dX8_happen_44 (fun w27 H locs hw27 hG => ?_)
    have hs28 : xv_S w24 w27 b 1 := by rw [hw27]; exact xv_S.set (by omega) (by omega)
    obtain ⟨I29, eI29⟩ : ∃ zz : Nat → Int32, (va_up I26 28 ((I26 28) + 1)) = zz := ⟨_, rfl⟩
    have hM : xv_M cI cZ ad w27 b A25 I29 L := by rw [hw27, ← eI29]; exact hM.fld (va_up I26 28 ((I26 28) + 1)) L rfl
    have hSw27 : xv_S ws w27 b 24 := hSw24.trans (hs28.mono (by omega) (by omega))
    refine lv_goto (tgt := 127) hx hb dX8_happen_47 (by decide) ?_
    rw [hQ]
    exact xg_emv S hr hlk hK hG ⟨(by rw [show (em_hpA A I k9.toNatClampNeg) = A25 from (by subst ex1 ex2 eA25 eI26 eI29; simp [em_hpA, em_hp2, em_hpI, em_hi2, em_doT_ne, em_doI_ne, c22])]; rw [show (em_hpI A I k9.toNatClampNeg) = I29 from (by subst ex1 ex2 eA25 eI26 eI29; simp [em_hpA, em_hp2, em_hpI, em_hi2, em_doT_ne, em_doI_ne, c22])]; exact hM), hSw27⟩ dX8_happen_127
set_option maxHeartbeats 4000000 in
set_option maxRecDepth 100000 in
theorem mX8_keepNow (l : Launch) (D : va_G) (cI cZ : ClassId) (bs : Nat) (ad : Nat → Nat) (ws : va_W) (b : Nat) (A : Nat → Nat → Int32) (I : Nat → Int32) (L : Int64) (hM : xv_M cI cZ ad ws b A I L) : Met l yX8_keepNow wsX8_keepNow ({ frames := 0, cells := 0, slots := 0, locals := 0 } : Room) (va_Pc [.ref (ad b)] (fun U => xg_W D cI cZ bs ws U)) (va_Qv (fun w : va_W => xv_M cI cZ ad w b (em_kpk A 6) (va_up I 34 (I 14)) L ∧ xv_S ws w b 24) (fun w t => xg_W D cI cZ bs w t) (xg_A bs)) 0 0 (xg_A bs) := by
  refine xg_met cX8_keepNow 2 none RX8 (by decide) rfl rfl (Nat.le_of_ble_eq_true rfl) ?_
  intro pg en s m below meth c ls S hr hlk hnm hB hl
  have hK := hB.1
  have hG := xg_start hB
  obtain ⟨hx, hb, hml, hown, hts⟩ := id S
  have hl : lv_has ls 2 [(0, .ref (ad b))] := hl
  obtain ⟨Q, hQ⟩ : ∃ Q, Q = MQ below (va_Qv (fun w : va_W => xv_M cI cZ ad w b (em_kpk A 6) (va_up I 34 (I 14)) L ∧ xv_S ws w b 24) (fun w t => xg_W D cI cZ bs w t) (xg_A bs)) ([.ref (ad b)] : List Value).toArray s 0 0 (xg_A bs) := ⟨_, rfl⟩
  rw [← hQ]
  have k0 := hts (.fieldLink RX8 96 "DareBridgeModel" "x" "I") (List.mem_of_getElem? (i := 7) rfl)
  have k1 := hts (.fieldLink RX8 197 "DareBridgeModel" "hadX" "I") (List.mem_of_getElem? (i := 8) rfl)
  have k2 := hts (.fieldLink RX8 55 "DareBridgeModel" "hadHigh" "[I") (List.mem_of_getElem? (i := 1) rfl)
  have k3 := hts (.fieldLink RX8 22 "DareBridgeModel" "high" "[I") (List.mem_of_getElem? (i := 2) rfl)
  have k4 := hts (.fieldLink RX8 58 "DareBridgeModel" "hadFame" "[I") (List.mem_of_getElem? (i := 3) rfl)
  have k5 := hts (.fieldLink RX8 25 "DareBridgeModel" "fame" "[I") (List.mem_of_getElem? (i := 4) rfl)
  have k6 := hts (.fieldLink RX8 61 "DareBridgeModel" "hadNights" "[I") (List.mem_of_getElem? (i := 5) rfl)
  have k7 := hts (.fieldLink RX8 28 "DareBridgeModel" "nights" "[I") (List.mem_of_getElem? (i := 6) rfl)
  refine lv_iconst (v := 0) hx hb dX8_keepNow_0 (by decide) ?_
  refine lv_istore_n (lv' := [(1, .int 0), (0, .ref (ad b))]) hx hb dX8_keepNow_1 rfl hl (by decide) rfl (fun ls hl => ?_)
  -- the loop at 2
  have lp2 : ∀ (fu : Nat) (k : Nat), (k ≤ 6) → (7 ≤ k + fu) → ∀ y2_1 : Int32, y2_1 = nI k → ∀ z2_hM_A : Nat → Nat → Int32, z2_hM_A = em_kpk A k → ∀ (w2 : va_W) (H : Heap) (locs : List Loc), xg_H D bs w2 s.heap H locs → (xv_M cI cZ ad w2 b z2_hM_A I L) → xv_S ws w2 b 24 → ∀ (ls : Array Slot), lv_has ls 2 [(0, .ref (ad b)), (1, .int y2_1)] → W pg l en ({ frames := 0, cells := 0, slots := 0, locals := 0 } : Room) s m ([.ref (ad b)] : List Value).toArray below meth c H locs 0 0 Q (F0 m 2 ls []) := by
    intro fu
    induction fu with
    | zero =>
      intro k hk hf
      exact absurd hf (by omega)
    | succ fu ih =>
      intro k hk hf y2_1 ey2_1 z2_hM_A ez2_hM_A
      intro w2 H locs hG hM hSw2
      intro ls hl
      replace ey2_1 := ey2_1.symm; subst ey2_1
      replace ez2_hM_A := ez2_hM_A.symm; subst ez2_hM_A
      refine lv_iload_n hx hb dX8_keepNow_2 rfl (lv_at hl 1 rfl) ?_
      refine lv_bipush (v := 6) hx hb dX8_keepNow_3 (by decide) ?_
      refine lv_icmp_ge (tgt := 50) hx hb dX8_keepNow_5 (by decide) (fun c5 => ?_) (fun c5 => ?_)
      · skip
        have hk9 : k = 6 := by have := xb_le (k := k) (n := 6) (by omega) (by decide) c5; omega
        refine lv_aload_n hx hb dX8_keepNow_50 rfl (lv_at hl 0 rfl) ?_
        refine lv_aload_n hx hb dX8_keepNow_51 rfl (lv_at hl 0 rfl) ?_
        refine xg_get (C := RX8) (T := TX8) (N := 46) S hK hG (fun w h => List.mem_cons_of_mem _ (List.mem_append_right _ (h))) b hM.1 rfl 14 (by decide) k0 (fun _ h9 => h9) rfl dX8_keepNow_52 ?_
        refine xg_put2 (C := RX8) (T := TX8) (N := 46) (v := .int (I 14)) (ty := .int) S hK hG (fun w h => List.mem_cons_of_mem _ (List.mem_append_right _ (h))) tyX8 tyX8_ok nmX8 b hM.1 rfl 34 (by decide) k1 (fun _ h9 => h9) rfl (by decide +kernel) rfl rfl (Nat.le_of_ble_eq_true rfl) dX8_keepNow_55 (fun w1 H locs hw1 hG => ?_)
        have hs2 : xv_S w2 w1 b 1 := by rw [hw1]; exact xv_S.set (by omega) (by omega)
        obtain ⟨I3, eI3⟩ : ∃ zz : Nat → Int32, (va_up I 34 (I 14)) = zz := ⟨_, rfl⟩
        have hM : xv_M cI cZ ad w1 b (em_kpk A k) I3 L := by rw [hw1, ← eI3]; exact hM.fld (va_up I 34 (I 14)) L rfl
        have hSw1 : xv_S ws w1 b 24 := hSw2.trans (hs2.mono (by omega) (by omega))
        rw [hQ]
        exact xg_emv S hr hlk hK hG ⟨(by rw [show (em_kpk A 6) = (em_kpk A k) from (by subst eI3; first | rw [hk9] | rfl)]; rw [show (va_up I 34 (I 14)) = I3 from (by subst eI3; first | rw [hk9] | rfl)]; exact hM), hSw1⟩ dX8_keepNow_58
      · skip
        have hk9 : k < 6 := xb_lt (by omega) (by decide) c5
        refine lv_aload_n hx hb dX8_keepNow_8 rfl (lv_at hl 0 rfl) ?_
        refine xg_get (C := RX8) (T := TX8) (N := 46) S hK hG (fun w h => List.mem_cons_of_mem _ (List.mem_append_right _ (h))) b hM.1 rfl 31 (by decide) k2 (fun _ h9 => h9) rfl dX8_keepNow_9 ?_
        refine lv_iload_n hx hb dX8_keepNow_12 rfl (lv_at hl 1 rfl) ?_
        refine lv_aload_n hx hb dX8_keepNow_13 rfl (lv_at hl 0 rfl) ?_
        refine xg_get (C := RX8) (T := TX8) (N := 46) S hK hG (fun w h => List.mem_cons_of_mem _ (List.mem_append_right _ (h))) b hM.1 rfl 5 (by decide) k3 (fun _ h9 => h9) rfl dX8_keepNow_14 ?_
        refine lv_iload_n hx hb dX8_keepNow_17 rfl (lv_at hl 1 rfl) ?_
        refine xg_ald S hK hG (b + 5) (show w2[b + 5]? = some (ad (b + 5), .inl (cI, 6, .inl ((em_kpk A k) 4))) from hM.2.1 4 (by decide)) (i := nI k) (by first | assumption | exact vp_in_nI (by omega) (by decide)) dX8_keepNow_18 ?_
        refine xg_ast2 S hK hG (b + 16) (show w2[b + 16]? = some (ad (b + 16), .inl (cI, 6, .inl ((em_kpk A k) 15))) from hM.2.1 15 (by decide)) (i := nI k) (x := ((em_kpk A k) 4) ((nI k).toNatClampNeg)) (by first | assumption | exact vp_in_nI (by omega) (by decide)) dX8_keepNow_19 (fun w4 H locs hw4 hG => ?_)
        have hs5 : xv_S w2 w4 (b + 16) 1 := by rw [hw4]; exact xv_S.set (by omega) (by omega)
        obtain ⟨A6, eA6⟩ : ∃ zz : Nat → Nat → Int32, (va_up (em_kpk A k) 15 (upd ((em_kpk A k) 15) ((nI k).toNatClampNeg) (((em_kpk A k) 4) ((nI k).toNatClampNeg)))) = zz := ⟨_, rfl⟩
        have hM : xv_M cI cZ ad w4 b A6 I L := by rw [hw4, ← eA6]; exact hM.row 15 (by decide)
        have hSw4 : xv_S ws w4 b 24 := hSw2.trans (hs5.mono (by omega) (by omega))
        refine lv_aload_n hx hb dX8_keepNow_20 rfl (lv_at hl 0 rfl) ?_
        refine xg_get (C := RX8) (T := TX8) (N := 46) S hK hG (fun w h => List.mem_cons_of_mem _ (List.mem_append_right _ (h))) b hM.1 rfl 32 (by decide) k4 (fun _ h9 => h9) rfl dX8_keepNow_21 ?_
        refine lv_iload_n hx hb dX8_keepNow_24 rfl (lv_at hl 1 rfl) ?_
        refine lv_aload_n hx hb dX8_keepNow_25 rfl (lv_at hl 0 rfl) ?_
        refine xg_get (C := RX8) (T := TX8) (N := 46) S hK hG (fun w h => List.mem_cons_of_mem _ (List.mem_append_right _ (h))) b hM.1 rfl 6 (by decide) k5 (fun _ h9 => h9) rfl dX8_keepNow_26 ?_
        refine lv_iload_n hx hb dX8_keepNow_29 rfl (lv_at hl 1 rfl) ?_
        refine xg_ald S hK hG (b + 6) (show w4[b + 6]? = some (ad (b + 6), .inl (cI, 6, .inl (A6 5))) from hM.2.1 5 (by decide)) (i := nI k) (by first | assumption | exact vp_in_nI (by omega) (by decide)) dX8_keepNow_30 ?_
        refine xg_ast2 S hK hG (b + 17) (show w4[b + 17]? = some (ad (b + 17), .inl (cI, 6, .inl (A6 16))) from hM.2.1 16 (by decide)) (i := nI k) (x := (A6 5) ((nI k).toNatClampNeg)) (by first | assumption | exact vp_in_nI (by omega) (by decide)) dX8_keepNow_31 (fun w7 H locs hw7 hG => ?_)
        have hs8 : xv_S w4 w7 (b + 17) 1 := by rw [hw7]; exact xv_S.set (by omega) (by omega)
        obtain ⟨A9, eA9⟩ : ∃ zz : Nat → Nat → Int32, (va_up A6 16 (upd (A6 16) ((nI k).toNatClampNeg) ((A6 5) ((nI k).toNatClampNeg)))) = zz := ⟨_, rfl⟩
        have hM : xv_M cI cZ ad w7 b A9 I L := by rw [hw7, ← eA9]; exact hM.row 16 (by decide)
        have hSw7 : xv_S ws w7 b 24 := hSw4.trans (hs8.mono (by omega) (by omega))
        refine lv_aload_n hx hb dX8_keepNow_32 rfl (lv_at hl 0 rfl) ?_
        refine xg_get (C := RX8) (T := TX8) (N := 46) S hK hG (fun w h => List.mem_cons_of_mem _ (List.mem_append_right _ (h))) b hM.1 rfl 33 (by decide) k6 (fun _ h9 => h9) rfl dX8_keepNow_33 ?_
        refine lv_iload_n hx hb dX8_keepNow_36 rfl (lv_at hl 1 rfl) ?_
        refine lv_aload_n hx hb dX8_keepNow_37 rfl (lv_at hl 0 rfl) ?_
        refine xg_get (C := RX8) (T := TX8) (N := 46) S hK hG (fun w h => List.mem_cons_of_mem _ (List.mem_append_right _ (h))) b hM.1 rfl 7 (by decide) k7 (fun _ h9 => h9) rfl dX8_keepNow_38 ?_
        refine lv_iload_n hx hb dX8_keepNow_41 rfl (lv_at hl 1 rfl) ?_
        refine xg_ald S hK hG (b + 7) (show w7[b + 7]? = some (ad (b + 7), .inl (cI, 6, .inl (A9 6))) from hM.2.1 6 (by decide)) (i := nI k) (by first | assumption | exact vp_in_nI (by omega) (by decide)) dX8_keepNow_42 ?_
        refine xg_ast2 S hK hG (b + 18) (show w7[b + 18]? = some (ad (b + 18), .inl (cI, 6, .inl (A9 17))) from hM.2.1 17 (by decide)) (i := nI k) (x := (A9 6) ((nI k).toNatClampNeg)) (by first | assumption | exact vp_in_nI (by omega) (by decide)) dX8_keepNow_43 (fun w10 H locs hw10 hG => ?_)
        have hs11 : xv_S w7 w10 (b + 18) 1 := by rw [hw10]; exact xv_S.set (by omega) (by omega)
        obtain ⟨A12, eA12⟩ : ∃ zz : Nat → Nat → Int32, (va_up A9 17 (upd (A9 17) ((nI k).toNatClampNeg) ((A9 6) ((nI k).toNatClampNeg)))) = zz := ⟨_, rfl⟩
        have hM : xv_M cI cZ ad w10 b A12 I L := by rw [hw10, ← eA12]; exact hM.row 17 (by decide)
        have hSw10 : xv_S ws w10 b 24 := hSw7.trans (hs11.mono (by omega) (by omega))
        obtain ⟨x13, ex13⟩ : ∃ zz : Int32, ((nI k) + 1) = zz := ⟨_, rfl⟩
        refine lv_iinc (v := x13) (lv' := [(1, .int x13), (0, .ref (ad b))]) hx hb dX8_keepNow_44 hl (k := 1) rfl (by rw [← ex13]; rfl) (by decide) rfl (fun ls hl => ?_)
        refine lv_goto (tgt := 2) hx hb dX8_keepNow_47 (by decide) ?_
        exact ih (k + 1) (by omega) (by omega) x13 (by subst eA6 eA9 eA12 ex13; exact nI_1 k) A12 (by subst eA6 eA9 eA12 ex13; exact em_kpS (by omega)) w10 _ _ hG hM hSw10 ls (lv_sub hl [1, 0] rfl)
  exact lp2 7 0 (by omega) (by omega) 0 (by skip; rfl) A em_kp0 ws _ _ hG hM xv_S.rf ls (lv_sub hl [1, 0] rfl)
set_option maxHeartbeats 4000000 in
set_option maxRecDepth 100000 in
theorem mX8_putBack (l : Launch) (D : va_G) (cI cZ : ClassId) (bs : Nat) (ad : Nat → Nat) (ws : va_W) (b : Nat) (A : Nat → Nat → Int32) (I : Nat → Int32) (L : Int64) (hM : xv_M cI cZ ad ws b A I L) : Met l yX8_putBack wsX8_putBack ({ frames := 0, cells := 0, slots := 0, locals := 0 } : Room) (va_Pc [.ref (ad b)] (fun U => xg_W D cI cZ bs ws U)) (va_Qv (fun w : va_W => xv_M cI cZ ad w b (em_pbk A 6) (va_up I 14 (I 34)) L ∧ xv_S ws w b 24) (fun w t => xg_W D cI cZ bs w t) (xg_A bs)) 0 0 (xg_A bs) := by
  refine xg_met cX8_putBack 2 none RX8 (by decide) rfl rfl (Nat.le_of_ble_eq_true rfl) ?_
  intro pg en s m below meth c ls S hr hlk hnm hB hl
  have hK := hB.1
  have hG := xg_start hB
  obtain ⟨hx, hb, hml, hown, hts⟩ := id S
  have hl : lv_has ls 2 [(0, .ref (ad b))] := hl
  obtain ⟨Q, hQ⟩ : ∃ Q, Q = MQ below (va_Qv (fun w : va_W => xv_M cI cZ ad w b (em_pbk A 6) (va_up I 14 (I 34)) L ∧ xv_S ws w b 24) (fun w t => xg_W D cI cZ bs w t) (xg_A bs)) ([.ref (ad b)] : List Value).toArray s 0 0 (xg_A bs) := ⟨_, rfl⟩
  rw [← hQ]
  have k0 := hts (.fieldLink RX8 197 "DareBridgeModel" "hadX" "I") (List.mem_of_getElem? (i := 7) rfl)
  have k1 := hts (.fieldLink RX8 96 "DareBridgeModel" "x" "I") (List.mem_of_getElem? (i := 8) rfl)
  have k2 := hts (.fieldLink RX8 22 "DareBridgeModel" "high" "[I") (List.mem_of_getElem? (i := 1) rfl)
  have k3 := hts (.fieldLink RX8 55 "DareBridgeModel" "hadHigh" "[I") (List.mem_of_getElem? (i := 2) rfl)
  have k4 := hts (.fieldLink RX8 25 "DareBridgeModel" "fame" "[I") (List.mem_of_getElem? (i := 3) rfl)
  have k5 := hts (.fieldLink RX8 58 "DareBridgeModel" "hadFame" "[I") (List.mem_of_getElem? (i := 4) rfl)
  have k6 := hts (.fieldLink RX8 28 "DareBridgeModel" "nights" "[I") (List.mem_of_getElem? (i := 5) rfl)
  have k7 := hts (.fieldLink RX8 61 "DareBridgeModel" "hadNights" "[I") (List.mem_of_getElem? (i := 6) rfl)
  refine lv_iconst (v := 0) hx hb dX8_putBack_0 (by decide) ?_
  refine lv_istore_n (lv' := [(1, .int 0), (0, .ref (ad b))]) hx hb dX8_putBack_1 rfl hl (by decide) rfl (fun ls hl => ?_)
  -- the loop at 2
  have lp2 : ∀ (fu : Nat) (k : Nat), (k ≤ 6) → (7 ≤ k + fu) → ∀ y2_1 : Int32, y2_1 = nI k → ∀ z2_hM_A : Nat → Nat → Int32, z2_hM_A = em_pbk A k → ∀ (w2 : va_W) (H : Heap) (locs : List Loc), xg_H D bs w2 s.heap H locs → (xv_M cI cZ ad w2 b z2_hM_A I L) → xv_S ws w2 b 24 → ∀ (ls : Array Slot), lv_has ls 2 [(0, .ref (ad b)), (1, .int y2_1)] → W pg l en ({ frames := 0, cells := 0, slots := 0, locals := 0 } : Room) s m ([.ref (ad b)] : List Value).toArray below meth c H locs 0 0 Q (F0 m 2 ls []) := by
    intro fu
    induction fu with
    | zero =>
      intro k hk hf
      exact absurd hf (by omega)
    | succ fu ih =>
      intro k hk hf y2_1 ey2_1 z2_hM_A ez2_hM_A
      intro w2 H locs hG hM hSw2
      intro ls hl
      replace ey2_1 := ey2_1.symm; subst ey2_1
      replace ez2_hM_A := ez2_hM_A.symm; subst ez2_hM_A
      refine lv_iload_n hx hb dX8_putBack_2 rfl (lv_at hl 1 rfl) ?_
      refine lv_bipush (v := 6) hx hb dX8_putBack_3 (by decide) ?_
      refine lv_icmp_ge (tgt := 50) hx hb dX8_putBack_5 (by decide) (fun c5 => ?_) (fun c5 => ?_)
      · skip
        have hk9 : k = 6 := by have := xb_le (k := k) (n := 6) (by omega) (by decide) c5; omega
        refine lv_aload_n hx hb dX8_putBack_50 rfl (lv_at hl 0 rfl) ?_
        refine lv_aload_n hx hb dX8_putBack_51 rfl (lv_at hl 0 rfl) ?_
        refine xg_get (C := RX8) (T := TX8) (N := 46) S hK hG (fun w h => List.mem_cons_of_mem _ (List.mem_append_right _ (h))) b hM.1 rfl 34 (by decide) k0 (fun _ h9 => h9) rfl dX8_putBack_52 ?_
        refine xg_put2 (C := RX8) (T := TX8) (N := 46) (v := .int (I 34)) (ty := .int) S hK hG (fun w h => List.mem_cons_of_mem _ (List.mem_append_right _ (h))) tyX8 tyX8_ok nmX8 b hM.1 rfl 14 (by decide) k1 (fun _ h9 => h9) rfl (by decide +kernel) rfl rfl (Nat.le_of_ble_eq_true rfl) dX8_putBack_55 (fun w1 H locs hw1 hG => ?_)
        have hs2 : xv_S w2 w1 b 1 := by rw [hw1]; exact xv_S.set (by omega) (by omega)
        obtain ⟨I3, eI3⟩ : ∃ zz : Nat → Int32, (va_up I 14 (I 34)) = zz := ⟨_, rfl⟩
        have hM : xv_M cI cZ ad w1 b (em_pbk A k) I3 L := by rw [hw1, ← eI3]; exact hM.fld (va_up I 14 (I 34)) L rfl
        have hSw1 : xv_S ws w1 b 24 := hSw2.trans (hs2.mono (by omega) (by omega))
        rw [hQ]
        exact xg_emv S hr hlk hK hG ⟨(by rw [show (em_pbk A 6) = (em_pbk A k) from (by subst eI3; first | rw [hk9] | rfl)]; rw [show (va_up I 14 (I 34)) = I3 from (by subst eI3; first | rw [hk9] | rfl)]; exact hM), hSw1⟩ dX8_putBack_58
      · skip
        have hk9 : k < 6 := xb_lt (by omega) (by decide) c5
        refine lv_aload_n hx hb dX8_putBack_8 rfl (lv_at hl 0 rfl) ?_
        refine xg_get (C := RX8) (T := TX8) (N := 46) S hK hG (fun w h => List.mem_cons_of_mem _ (List.mem_append_right _ (h))) b hM.1 rfl 5 (by decide) k2 (fun _ h9 => h9) rfl dX8_putBack_9 ?_
        refine lv_iload_n hx hb dX8_putBack_12 rfl (lv_at hl 1 rfl) ?_
        refine lv_aload_n hx hb dX8_putBack_13 rfl (lv_at hl 0 rfl) ?_
        refine xg_get (C := RX8) (T := TX8) (N := 46) S hK hG (fun w h => List.mem_cons_of_mem _ (List.mem_append_right _ (h))) b hM.1 rfl 31 (by decide) k3 (fun _ h9 => h9) rfl dX8_putBack_14 ?_
        refine lv_iload_n hx hb dX8_putBack_17 rfl (lv_at hl 1 rfl) ?_
        refine xg_ald S hK hG (b + 16) (show w2[b + 16]? = some (ad (b + 16), .inl (cI, 6, .inl ((em_pbk A k) 15))) from hM.2.1 15 (by decide)) (i := nI k) (by first | assumption | exact vp_in_nI (by omega) (by decide)) dX8_putBack_18 ?_
        refine xg_ast2 S hK hG (b + 5) (show w2[b + 5]? = some (ad (b + 5), .inl (cI, 6, .inl ((em_pbk A k) 4))) from hM.2.1 4 (by decide)) (i := nI k) (x := ((em_pbk A k) 15) ((nI k).toNatClampNeg)) (by first | assumption | exact vp_in_nI (by omega) (by decide)) dX8_putBack_19 (fun w4 H locs hw4 hG => ?_)
        have hs5 : xv_S w2 w4 (b + 5) 1 := by rw [hw4]; exact xv_S.set (by omega) (by omega)
        obtain ⟨A6, eA6⟩ : ∃ zz : Nat → Nat → Int32, (va_up (em_pbk A k) 4 (upd ((em_pbk A k) 4) ((nI k).toNatClampNeg) (((em_pbk A k) 15) ((nI k).toNatClampNeg)))) = zz := ⟨_, rfl⟩
        have hM : xv_M cI cZ ad w4 b A6 I L := by rw [hw4, ← eA6]; exact hM.row 4 (by decide)
        have hSw4 : xv_S ws w4 b 24 := hSw2.trans (hs5.mono (by omega) (by omega))
        refine lv_aload_n hx hb dX8_putBack_20 rfl (lv_at hl 0 rfl) ?_
        refine xg_get (C := RX8) (T := TX8) (N := 46) S hK hG (fun w h => List.mem_cons_of_mem _ (List.mem_append_right _ (h))) b hM.1 rfl 6 (by decide) k4 (fun _ h9 => h9) rfl dX8_putBack_21 ?_
        refine lv_iload_n hx hb dX8_putBack_24 rfl (lv_at hl 1 rfl) ?_
        refine lv_aload_n hx hb dX8_putBack_25 rfl (lv_at hl 0 rfl) ?_
        refine xg_get (C := RX8) (T := TX8) (N := 46) S hK hG (fun w h => List.mem_cons_of_mem _ (List.mem_append_right _ (h))) b hM.1 rfl 32 (by decide) k5 (fun _ h9 => h9) rfl dX8_putBack_26 ?_
        refine lv_iload_n hx hb dX8_putBack_29 rfl (lv_at hl 1 rfl) ?_
        refine xg_ald S hK hG (b + 17) (show w4[b + 17]? = some (ad (b + 17), .inl (cI, 6, .inl (A6 16))) from hM.2.1 16 (by decide)) (i := nI k) (by first | assumption | exact vp_in_nI (by omega) (by decide)) dX8_putBack_30 ?_
        refine xg_ast2 S hK hG (b + 6) (show w4[b + 6]? = some (ad (b + 6), .inl (cI, 6, .inl (A6 5))) from hM.2.1 5 (by decide)) (i := nI k) (x := (A6 16) ((nI k).toNatClampNeg)) (by first | assumption | exact vp_in_nI (by omega) (by decide)) dX8_putBack_31 (fun w7 H locs hw7 hG => ?_)
        have hs8 : xv_S w4 w7 (b + 6) 1 := by rw [hw7]; exact xv_S.set (by omega) (by omega)
        obtain ⟨A9, eA9⟩ : ∃ zz : Nat → Nat → Int32, (va_up A6 5 (upd (A6 5) ((nI k).toNatClampNeg) ((A6 16) ((nI k).toNatClampNeg)))) = zz := ⟨_, rfl⟩
        have hM : xv_M cI cZ ad w7 b A9 I L := by rw [hw7, ← eA9]; exact hM.row 5 (by decide)
        have hSw7 : xv_S ws w7 b 24 := hSw4.trans (hs8.mono (by omega) (by omega))
        refine lv_aload_n hx hb dX8_putBack_32 rfl (lv_at hl 0 rfl) ?_
        refine xg_get (C := RX8) (T := TX8) (N := 46) S hK hG (fun w h => List.mem_cons_of_mem _ (List.mem_append_right _ (h))) b hM.1 rfl 7 (by decide) k6 (fun _ h9 => h9) rfl dX8_putBack_33 ?_
        refine lv_iload_n hx hb dX8_putBack_36 rfl (lv_at hl 1 rfl) ?_
        refine lv_aload_n hx hb dX8_putBack_37 rfl (lv_at hl 0 rfl) ?_
        refine xg_get (C := RX8) (T := TX8) (N := 46) S hK hG (fun w h => List.mem_cons_of_mem _ (List.mem_append_right _ (h))) b hM.1 rfl 33 (by decide) k7 (fun _ h9 => h9) rfl dX8_putBack_38 ?_
        refine lv_iload_n hx hb dX8_putBack_41 rfl (lv_at hl 1 rfl) ?_
        refine xg_ald S hK hG (b + 18) (show w7[b + 18]? = some (ad (b + 18), .inl (cI, 6, .inl (A9 17))) from hM.2.1 17 (by decide)) (i := nI k) (by first | assumption | exact vp_in_nI (by omega) (by decide)) dX8_putBack_42 ?_
        refine xg_ast2 S hK hG (b + 7) (show w7[b + 7]? = some (ad (b + 7), .inl (cI, 6, .inl (A9 6))) from hM.2.1 6 (by decide)) (i := nI k) (x := (A9 17) ((nI k).toNatClampNeg)) (by first | assumption | exact vp_in_nI (by omega) (by decide)) dX8_putBack_43 (fun w10 H locs hw10 hG => ?_)
        have hs11 : xv_S w7 w10 (b + 7) 1 := by rw [hw10]; exact xv_S.set (by omega) (by omega)
        obtain ⟨A12, eA12⟩ : ∃ zz : Nat → Nat → Int32, (va_up A9 6 (upd (A9 6) ((nI k).toNatClampNeg) ((A9 17) ((nI k).toNatClampNeg)))) = zz := ⟨_, rfl⟩
        have hM : xv_M cI cZ ad w10 b A12 I L := by rw [hw10, ← eA12]; exact hM.row 6 (by decide)
        have hSw10 : xv_S ws w10 b 24 := hSw7.trans (hs11.mono (by omega) (by omega))
        obtain ⟨x13, ex13⟩ : ∃ zz : Int32, ((nI k) + 1) = zz := ⟨_, rfl⟩
        refine lv_iinc (v := x13) (lv' := [(1, .int x13), (0, .ref (ad b))]) hx hb dX8_putBack_44 hl (k := 1) rfl (by rw [← ex13]; rfl) (by decide) rfl (fun ls hl => ?_)
        refine lv_goto (tgt := 2) hx hb dX8_putBack_47 (by decide) ?_
        exact ih (k + 1) (by omega) (by omega) x13 (by subst eA6 eA9 eA12 ex13; exact nI_1 k) A12 (by subst eA6 eA9 eA12 ex13; exact em_pbS (by omega)) w10 _ _ hG hM hSw10 ls (lv_sub hl [1, 0] rfl)
  exact lp2 7 0 (by omega) (by omega) 0 (by skip; rfl) A em_pb0 ws _ _ hG hM xv_S.rf ls (lv_sub hl [1, 0] rfl)
