set_option maxHeartbeats 4000000 in
set_option maxRecDepth 100000 in
theorem mX8_told (l : Launch) (D : va_G) (cI cZ : ClassId) (bs : Nat) (ad : Nat → Nat) (ws : va_W) (b : Nat) (A : Nat → Nat → Int32) (I : Nat → Int32) (L : Int64) (hM : xv_M cI cZ ad ws b A I L) (x : Int32) : Met l yX8_told wsX8_told ({ frames := 3, cells := 0, slots := 0, locals := 66 } : Room) (va_Pc [.ref (ad b), .int x] (fun U => xg_W D cI cZ bs ws U)) (xg_Ri (fun r : Int32 => r = em_tll A I x)) 0 0 xg_F := by
  refine xg_met cX8_told 4 (some .int) RX8 (by decide) rfl rfl (Nat.le_of_ble_eq_true rfl) ?_
  intro pg en s m below meth c ls S hr hlk hnm hB hl
  have hK := hB.1
  have hG := xg_start hB
  obtain ⟨hx, hb, hml, hown, hts⟩ := id S
  have hl : lv_has ls 4 [(0, .ref (ad b)), (1, .int x)] := hl
  obtain ⟨Q, hQ⟩ : ∃ Q, Q = MQ below (xg_Ri (fun r : Int32 => r = em_tll A I x)) ([.ref (ad b), .int x] : List Value).toArray s 0 0 xg_F := ⟨_, rfl⟩
  rw [← hQ]
  have k0 := hts (.constantLong RX8 242 (10)) (List.mem_of_getElem? (i := 1) rfl)
  have k1 := hts (.constantLong RX8 341 (69)) (List.mem_of_getElem? (i := 2) rfl)
  have k2 := hts (.constantLong RX8 231 (2)) (List.mem_of_getElem? (i := 7) rfl)
  have k3 := hts (.constantLong RX8 343 (8)) (List.mem_of_getElem? (i := 8) rfl)
  have k4 := hts (.fieldLink RX8 322 "DareBridgeModel" "sights" "I") (List.mem_of_getElem? (i := 11) rfl)
  have k5 := hts (.fieldLink RX8 109 "DareBridgeModel" "people" "I") (List.mem_of_getElem? (i := 10) rfl)
  have k6 := hts (.fieldLink RX8 146 "DareBridgeModel" "padMany" "I") (List.mem_of_getElem? (i := 9) rfl)
  have k7 := hts (.fieldLink RX8 19 "DareBridgeModel" "wish" "[I") (List.mem_of_getElem? (i := 6) rfl)
  have k8 := hts (.fieldLink RX8 16 "DareBridgeModel" "pride" "[I") (List.mem_of_getElem? (i := 5) rfl)
  have k9 := hts (.fieldLink RX8 13 "DareBridgeModel" "fear" "[I") (List.mem_of_getElem? (i := 4) rfl)
  have k10 := hts (.fieldLink RX8 7 "DareBridgeModel" "skill" "[I") (List.mem_of_getElem? (i := 3) rfl)
  refine lv_iload_n hx hb dX8_told_0 rfl (lv_at hl 1 rfl) ?_
  refine lv_i2l (v := x.toInt64) hx hb dX8_told_1 rfl ?_
  refine lv_ldc2 (v := 10) hx hb hown k0 dX8_told_2 ?_
  refine lv_ldc2 (v := 69) hx hb hown k1 dX8_told_5 ?_
  refine xg_ri (va_runS (As := [.long x.toInt64, .long 10, .long 69]) (rest := []) S (mX8_in l D cI cZ bs ad ws x.toInt64 10 69) (va_cwS 3 hts gX8_told_X8_in rfl rfl rfl (by decide +kernel) ⟨Nat.le_of_ble_eq_true rfl, Nat.le_of_ble_eq_true rfl⟩) (xg_preS hK hG) rfl rfl hl.1 rfl (lv_room (Nat.le_of_ble_eq_true rfl)) dX8_told_8 ⟨Nat.zero_le _, Nat.zero_le _⟩) (fun r1 hr1 => ?_)
  replace hr1 := hr1.symm; subst hr1
  rw [xw_inL_lit x 10 69 10 69 (by decide) (by decide)]
  refine xb_ifeq (tgt := 97) S dX8_told_11 (by decide) (fun c11 => ?_) (fun c11 => ?_)
  · skip
    refine lv_iload_n hx hb dX8_told_97 rfl (lv_at hl 1 rfl) ?_
    refine lv_i2l (v := x.toInt64) hx hb dX8_told_98 rfl ?_
    refine lv_ldc2 (v := 2) hx hb hown k2 dX8_told_99 ?_
    refine lv_ldc2 (v := 8) hx hb hown k3 dX8_told_102 ?_
    refine xg_ri (va_runS (As := [.long x.toInt64, .long 2, .long 8]) (rest := []) S (mX8_in l D cI cZ bs ad ws x.toInt64 2 8) (va_cwS 3 hts gX8_told_X8_in rfl rfl rfl (by decide +kernel) ⟨Nat.le_of_ble_eq_true rfl, Nat.le_of_ble_eq_true rfl⟩) (xg_preS hK hG) rfl rfl hl.1 rfl (lv_room (Nat.le_of_ble_eq_true rfl)) dX8_told_105 ⟨Nat.zero_le _, Nat.zero_le _⟩) (fun r2 hr2 => ?_)
    replace hr2 := hr2.symm; subst hr2
    rw [xw_inL_lit x 2 8 2 8 (by decide) (by decide)]
    refine xb_ifeq (tgt := 119) S dX8_told_108 (by decide) (fun c108 => ?_) (fun c108 => ?_)
    · skip
      refine lv_iload_n hx hb dX8_told_119 rfl (lv_at hl 1 rfl) ?_
      refine lv_if_ne (tgt := 130) hx hb dX8_told_120 (by decide) (fun c120 => ?_) (fun c120 => ?_)
      · skip
        refine lv_iload_n hx hb dX8_told_130 rfl (lv_at hl 1 rfl) ?_
        refine lv_iconst (v := 1) hx hb dX8_told_131 (by decide) ?_
        refine lv_icmp_ne (tgt := 142) hx hb dX8_told_132 (by decide) (fun c132 => ?_) (fun c132 => ?_)
        · skip
          refine lv_iload_n hx hb dX8_told_142 rfl (lv_at hl 1 rfl) ?_
          refine lv_bipush (v := 9) hx hb dX8_told_143 (by decide) ?_
          refine lv_icmp_ne (tgt := 155) hx hb dX8_told_145 (by decide) (fun c145 => ?_) (fun c145 => ?_)
          · skip
            refine lv_bipush (v := (-2)) hx hb dX8_told_155 (by decide) ?_
            rw [hQ]
            exact xg_eri S hr hlk (by skip; first | (simp only [em_tll, em_tlp, c11, c108, c120, c132, c145, if_true, if_false, Bool.false_eq_true]; done) | (simp only [em_tll, em_tlp, xw_rem, c11, c108, c120, c132, c145, if_true, if_false, Bool.false_eq_true]; done) | (simp [em_tll, em_tlp, xw_rem, c11, c108, c120, c132, c145]; done) | (unfold em_tll em_tlp xw_rem; rw [if_pos c11]; simp only [c11, c108, c120, c132, c145, if_true, if_false]; done) | (unfold em_tll; rw [if_neg (Bool.eq_false_iff.mp c11), if_neg (Bool.eq_false_iff.mp c108)]; first | exact (if_pos c120).symm | (rw [if_neg c120]; first | exact (if_pos c132).symm | (rw [if_neg c132]; exact (if_pos c145).symm)))) dX8_told_157
          · skip
            refine lv_aload_n hx hb dX8_told_148 rfl (lv_at hl 0 rfl) ?_
            refine xg_get (C := RX8) (T := TX8) (N := 46) S hK hG (fun w h => List.mem_cons_of_mem _ (List.mem_append_right _ (h))) b hM.1 rfl 18 (by decide) k4 (fun _ h9 => h9) rfl dX8_told_149 ?_
            refine lv_goto (tgt := 157) hx hb dX8_told_152 (by decide) ?_
            rw [hQ]
            exact xg_eri S hr hlk (by skip; first | (simp only [em_tll, em_tlp, c11, c108, c120, c132, c145, if_true, if_false, Bool.false_eq_true]; done) | (simp only [em_tll, em_tlp, xw_rem, c11, c108, c120, c132, c145, if_true, if_false, Bool.false_eq_true]; done) | (simp [em_tll, em_tlp, xw_rem, c11, c108, c120, c132, c145]; done) | (unfold em_tll em_tlp xw_rem; rw [if_pos c11]; simp only [c11, c108, c120, c132, c145, if_true, if_false]; done) | (unfold em_tll; rw [if_neg (Bool.eq_false_iff.mp c11), if_neg (Bool.eq_false_iff.mp c108)]; first | exact (if_pos c120).symm | (rw [if_neg c120]; first | exact (if_pos c132).symm | (rw [if_neg c132]; exact (if_pos c145).symm)))) dX8_told_157
        · skip
          refine lv_aload_n hx hb dX8_told_135 rfl (lv_at hl 0 rfl) ?_
          refine xg_get (C := RX8) (T := TX8) (N := 46) S hK hG (fun w h => List.mem_cons_of_mem _ (List.mem_append_right _ (h))) b hM.1 rfl 0 (by decide) k5 (fun _ h9 => h9) rfl dX8_told_136 ?_
          refine lv_goto (tgt := 157) hx hb dX8_told_139 (by decide) ?_
          rw [hQ]
          exact xg_eri S hr hlk (by skip; first | (simp only [em_tll, em_tlp, c11, c108, c120, c132, if_true, if_false, Bool.false_eq_true]; done) | (simp only [em_tll, em_tlp, xw_rem, c11, c108, c120, c132, if_true, if_false, Bool.false_eq_true]; done) | (simp [em_tll, em_tlp, xw_rem, c11, c108, c120, c132]; done) | (unfold em_tll em_tlp xw_rem; rw [if_pos c11]; simp only [c11, c108, c120, c132, if_true, if_false]; done) | (unfold em_tll; rw [if_neg (Bool.eq_false_iff.mp c11), if_neg (Bool.eq_false_iff.mp c108)]; first | exact (if_pos c120).symm | (rw [if_neg c120]; first | exact (if_pos c132).symm | (rw [if_neg c132]; exact (if_pos c145).symm)))) dX8_told_157
      · skip
        refine lv_aload_n hx hb dX8_told_123 rfl (lv_at hl 0 rfl) ?_
        refine xg_get (C := RX8) (T := TX8) (N := 46) S hK hG (fun w h => List.mem_cons_of_mem _ (List.mem_append_right _ (h))) b hM.1 rfl 20 (by decide) k6 (fun _ h9 => h9) rfl dX8_told_124 ?_
        refine lv_goto (tgt := 157) hx hb dX8_told_127 (by decide) ?_
        rw [hQ]
        exact xg_eri S hr hlk (by skip; first | (simp only [em_tll, em_tlp, c11, c108, c120, if_true, if_false, Bool.false_eq_true]; done) | (simp only [em_tll, em_tlp, xw_rem, c11, c108, c120, if_true, if_false, Bool.false_eq_true]; done) | (simp [em_tll, em_tlp, xw_rem, c11, c108, c120]; done) | (unfold em_tll em_tlp xw_rem; rw [if_pos c11]; simp only [c11, c108, c120, if_true, if_false]; done) | (unfold em_tll; rw [if_neg (Bool.eq_false_iff.mp c11), if_neg (Bool.eq_false_iff.mp c108)]; first | exact (if_pos c120).symm | (rw [if_neg c120]; first | exact (if_pos c132).symm | (rw [if_neg c132]; exact (if_pos c145).symm)))) dX8_told_157
    · skip
      refine lv_aload_n hx hb dX8_told_111 rfl (lv_at hl 0 rfl) ?_
      refine lv_iload_n hx hb dX8_told_112 rfl (lv_at hl 1 rfl) ?_
      refine lv_iconst (v := 2) hx hb dX8_told_113 (by decide) ?_
      refine lv_isub hx hb dX8_told_114 ?_
      refine xg_ri (va_runV (As := [.int (x - 2)]) (rest := []) S (mX8_toldSet l D cI cZ bs ad ws b A I L hM (x - 2)) (cwV 1 hts gX8_told_X8_toldSet rfl rfl rfl (by decide +kernel) ⟨Nat.le_of_ble_eq_true rfl, Nat.le_of_ble_eq_true rfl⟩) (xg_preV hK hG b hM.1 rfl rfl) rfl rfl hl.1 rfl (lv_room (Nat.le_of_ble_eq_true rfl)) dX8_told_115 ⟨Nat.zero_le _, Nat.zero_le _⟩) (fun r3 hr3 => ?_)
      replace hr3 := hr3.symm; subst hr3
      rw [hQ]
      exact xg_eri S hr hlk (by skip; first | (simp only [em_tll, em_tlp, c11, c108, if_true, if_false, Bool.false_eq_true]; done) | (simp only [em_tll, em_tlp, xw_rem, c11, c108, if_true, if_false, Bool.false_eq_true]; done) | (simp [em_tll, em_tlp, xw_rem, c11, c108]; done) | (unfold em_tll em_tlp xw_rem; rw [if_pos c11]; simp only [c11, c108, if_true, if_false]; done) | (unfold em_tll; rw [if_neg (Bool.eq_false_iff.mp c11), if_neg (Bool.eq_false_iff.mp c108)]; first | exact (if_pos c120).symm | (rw [if_neg c120]; first | exact (if_pos c132).symm | (rw [if_neg c132]; exact (if_pos c145).symm)))) dX8_told_118
  · skip
    refine lv_iload_n hx hb dX8_told_14 rfl (lv_at hl 1 rfl) ?_
    refine lv_bipush (v := 10) hx hb dX8_told_15 (by decide) ?_
    refine lv_idiv hx hb dX8_told_17 (by decide) ?_
    refine lv_iconst (v := 1) hx hb dX8_told_18 (by decide) ?_
    refine lv_isub hx hb dX8_told_19 ?_
    refine lv_topi (fun x4 ex4 => ?_)
    replace ex4 := ex4.symm
    refine lv_istore_n (lv' := [(2, .int x4), (0, .ref (ad b)), (1, .int x)]) hx hb dX8_told_20 rfl hl (by decide) rfl (fun ls hl => ?_)
    refine lv_iload_n hx hb dX8_told_21 rfl (lv_at hl 2 rfl) ?_
    refine lv_bipush (v := 10) hx hb dX8_told_22 (by decide) ?_
    refine lv_irem hx hb dX8_told_24 (by decide) ?_
    refine lv_topi (fun x5 ex5 => ?_)
    replace ex5 := ex5.symm
    refine lv_istore_n (lv' := [(3, .int x5), (2, .int x4), (0, .ref (ad b)), (1, .int x)]) hx hb dX8_told_25 rfl hl (by decide) rfl (fun ls hl => ?_)
    refine lv_aload_n hx hb dX8_told_26 rfl (lv_at hl 2 rfl) ?_
    refine lv_iload_n hx hb dX8_told_27 rfl (lv_at hl 1 rfl) ?_
    refine xg_ri (va_runV (As := [.int x4]) (rest := []) S (mX8_isThere l D cI cZ bs ad ws b A I L hM x4) (cwV 1 hts gX8_told_X8_isThere rfl rfl rfl (by decide +kernel) ⟨Nat.le_of_ble_eq_true rfl, Nat.le_of_ble_eq_true rfl⟩) (xg_preV hK hG b hM.1 rfl rfl) rfl rfl hl.1 rfl (lv_room (Nat.le_of_ble_eq_true rfl)) dX8_told_28 ⟨Nat.zero_le _, Nat.zero_le _⟩) (fun r6 hr6 => ?_)
    replace hr6 := hr6.symm; subst hr6
    refine xb_ifne (tgt := 39) S dX8_told_31 (by decide) (fun c31 => ?_) (fun c31 => ?_)
    · skip
      have hp := em_isT_in c31
      refine lv_iload_n hx hb dX8_told_39 rfl (lv_at hl 0 rfl) ?_
      refine lv_if_ne (tgt := 52) hx hb dX8_told_40 (by decide) (fun c40 => ?_) (fun c40 => ?_)
      · skip
        refine lv_iload_n hx hb dX8_told_52 rfl (lv_at hl 0 rfl) ?_
        refine lv_iconst (v := 1) hx hb dX8_told_53 (by decide) ?_
        refine lv_icmp_ne (tgt := 66) hx hb dX8_told_54 (by decide) (fun c54 => ?_) (fun c54 => ?_)
        · skip
          refine lv_iload_n hx hb dX8_told_66 rfl (lv_at hl 0 rfl) ?_
          refine lv_iconst (v := 2) hx hb dX8_told_67 (by decide) ?_
          refine lv_icmp_ne (tgt := 80) hx hb dX8_told_68 (by decide) (fun c68 => ?_) (fun c68 => ?_)
          · skip
            refine lv_iload_n hx hb dX8_told_80 rfl (lv_at hl 0 rfl) ?_
            refine lv_iconst (v := 3) hx hb dX8_told_81 (by decide) ?_
            refine lv_icmp_ne (tgt := 94) hx hb dX8_told_82 (by decide) (fun c82 => ?_) (fun c82 => ?_)
            · skip
              refine lv_bipush (v := (-2)) hx hb dX8_told_94 (by decide) ?_
              rw [hQ]
              exact xg_eri S hr hlk (by subst ex4 ex5; first | (simp only [em_tll, em_tlp, c11, c31, c40, c54, c68, c82, if_true, if_false, Bool.false_eq_true]; done) | (simp only [em_tll, em_tlp, xw_rem, c11, c31, c40, c54, c68, c82, if_true, if_false, Bool.false_eq_true]; done) | (simp [em_tll, em_tlp, xw_rem, c11, c31, c40, c54, c68, c82]; done) | (unfold em_tll em_tlp xw_rem; rw [if_pos c11]; simp only [c11, c31, c40, c54, c68, c82, if_true, if_false]; done) | (unfold em_tll; rw [if_neg (Bool.eq_false_iff.mp c11), if_neg (Bool.eq_false_iff.mp c108)]; first | exact (if_pos c120).symm | (rw [if_neg c120]; first | exact (if_pos c132).symm | (rw [if_neg c132]; exact (if_pos c145).symm)))) dX8_told_96
            · skip
              refine lv_aload_n hx hb dX8_told_85 rfl (lv_at hl 2 rfl) ?_
              refine xg_get (C := RX8) (T := TX8) (N := 46) S hK hG (fun w h => List.mem_cons_of_mem _ (List.mem_append_right _ (h))) b hM.1 rfl 4 (by decide) k7 (fun _ h9 => h9) rfl dX8_told_86 ?_
              refine lv_iload_n hx hb dX8_told_89 rfl (lv_at hl 1 rfl) ?_
              refine xg_ald S hK hG (b + 4) (show ws[b + 4]? = some (ad (b + 4), .inl (cI, 6, .inl (A 3))) from hM.2.1 3 (by decide)) (i := x4) (by first | assumption | exact vp_in_nI (by omega) (by decide)) dX8_told_90 ?_
              refine lv_goto (tgt := 96) hx hb dX8_told_91 (by decide) ?_
              rw [hQ]
              exact xg_eri S hr hlk (by subst ex4 ex5; first | (simp only [em_tll, em_tlp, c11, c31, c40, c54, c68, c82, if_true, if_false, Bool.false_eq_true]; done) | (simp only [em_tll, em_tlp, xw_rem, c11, c31, c40, c54, c68, c82, if_true, if_false, Bool.false_eq_true]; done) | (simp [em_tll, em_tlp, xw_rem, c11, c31, c40, c54, c68, c82]; done) | (unfold em_tll em_tlp xw_rem; rw [if_pos c11]; simp only [c11, c31, c40, c54, c68, c82, if_true, if_false]; done) | (unfold em_tll; rw [if_neg (Bool.eq_false_iff.mp c11), if_neg (Bool.eq_false_iff.mp c108)]; first | exact (if_pos c120).symm | (rw [if_neg c120]; first | exact (if_pos c132).symm | (rw [if_neg c132]; exact (if_pos c145).symm)))) dX8_told_96
          · skip
            refine lv_aload_n hx hb dX8_told_71 rfl (lv_at hl 2 rfl) ?_
            refine xg_get (C := RX8) (T := TX8) (N := 46) S hK hG (fun w h => List.mem_cons_of_mem _ (List.mem_append_right _ (h))) b hM.1 rfl 3 (by decide) k8 (fun _ h9 => h9) rfl dX8_told_72 ?_
            refine lv_iload_n hx hb dX8_told_75 rfl (lv_at hl 1 rfl) ?_
            refine xg_ald S hK hG (b + 3) (show ws[b + 3]? = some (ad (b + 3), .inl (cI, 6, .inl (A 2))) from hM.2.1 2 (by decide)) (i := x4) (by first | assumption | exact vp_in_nI (by omega) (by decide)) dX8_told_76 ?_
            refine lv_goto (tgt := 96) hx hb dX8_told_77 (by decide) ?_
            rw [hQ]
            exact xg_eri S hr hlk (by subst ex4 ex5; first | (simp only [em_tll, em_tlp, c11, c31, c40, c54, c68, if_true, if_false, Bool.false_eq_true]; done) | (simp only [em_tll, em_tlp, xw_rem, c11, c31, c40, c54, c68, if_true, if_false, Bool.false_eq_true]; done) | (simp [em_tll, em_tlp, xw_rem, c11, c31, c40, c54, c68]; done) | (unfold em_tll em_tlp xw_rem; rw [if_pos c11]; simp only [c11, c31, c40, c54, c68, if_true, if_false]; done) | (unfold em_tll; rw [if_neg (Bool.eq_false_iff.mp c11), if_neg (Bool.eq_false_iff.mp c108)]; first | exact (if_pos c120).symm | (rw [if_neg c120]; first | exact (if_pos c132).symm | (rw [if_neg c132]; exact (if_pos c145).symm)))) dX8_told_96
        · skip
          refine lv_aload_n hx hb dX8_told_57 rfl (lv_at hl 2 rfl) ?_
          refine xg_get (C := RX8) (T := TX8) (N := 46) S hK hG (fun w h => List.mem_cons_of_mem _ (List.mem_append_right _ (h))) b hM.1 rfl 2 (by decide) k9 (fun _ h9 => h9) rfl dX8_told_58 ?_
          refine lv_iload_n hx hb dX8_told_61 rfl (lv_at hl 1 rfl) ?_
          refine xg_ald S hK hG (b + 2) (show ws[b + 2]? = some (ad (b + 2), .inl (cI, 6, .inl (A 1))) from hM.2.1 1 (by decide)) (i := x4) (by first | assumption | exact vp_in_nI (by omega) (by decide)) dX8_told_62 ?_
          refine lv_goto (tgt := 96) hx hb dX8_told_63 (by decide) ?_
          rw [hQ]
          exact xg_eri S hr hlk (by subst ex4 ex5; first | (simp only [em_tll, em_tlp, c11, c31, c40, c54, if_true, if_false, Bool.false_eq_true]; done) | (simp only [em_tll, em_tlp, xw_rem, c11, c31, c40, c54, if_true, if_false, Bool.false_eq_true]; done) | (simp [em_tll, em_tlp, xw_rem, c11, c31, c40, c54]; done) | (unfold em_tll em_tlp xw_rem; rw [if_pos c11]; simp only [c11, c31, c40, c54, if_true, if_false]; done) | (unfold em_tll; rw [if_neg (Bool.eq_false_iff.mp c11), if_neg (Bool.eq_false_iff.mp c108)]; first | exact (if_pos c120).symm | (rw [if_neg c120]; first | exact (if_pos c132).symm | (rw [if_neg c132]; exact (if_pos c145).symm)))) dX8_told_96
      · skip
        refine lv_aload_n hx hb dX8_told_43 rfl (lv_at hl 2 rfl) ?_
        refine xg_get (C := RX8) (T := TX8) (N := 46) S hK hG (fun w h => List.mem_cons_of_mem _ (List.mem_append_right _ (h))) b hM.1 rfl 1 (by decide) k10 (fun _ h9 => h9) rfl dX8_told_44 ?_
        refine lv_iload_n hx hb dX8_told_47 rfl (lv_at hl 1 rfl) ?_
        refine xg_ald S hK hG (b + 1) (show ws[b + 1]? = some (ad (b + 1), .inl (cI, 6, .inl (A 0))) from hM.2.1 0 (by decide)) (i := x4) (by first | assumption | exact vp_in_nI (by omega) (by decide)) dX8_told_48 ?_
        refine lv_goto (tgt := 96) hx hb dX8_told_49 (by decide) ?_
        rw [hQ]
        exact xg_eri S hr hlk (by subst ex4 ex5; first | (simp only [em_tll, em_tlp, c11, c31, c40, if_true, if_false, Bool.false_eq_true]; done) | (simp only [em_tll, em_tlp, xw_rem, c11, c31, c40, if_true, if_false, Bool.false_eq_true]; done) | (simp [em_tll, em_tlp, xw_rem, c11, c31, c40]; done) | (unfold em_tll em_tlp xw_rem; rw [if_pos c11]; simp only [c11, c31, c40, if_true, if_false]; done) | (unfold em_tll; rw [if_neg (Bool.eq_false_iff.mp c11), if_neg (Bool.eq_false_iff.mp c108)]; first | exact (if_pos c120).symm | (rw [if_neg c120]; first | exact (if_pos c132).symm | (rw [if_neg c132]; exact (if_pos c145).symm)))) dX8_told_96
    · skip
      refine lv_bipush (v := (-2)) hx hb dX8_told_34 (by decide) ?_
      refine lv_goto (tgt := 96) hx hb dX8_told_36 (by decide) ?_
      rw [hQ]
      exact xg_eri S hr hlk (by subst ex4 ex5; first | (simp only [em_tll, em_tlp, c11, c31, if_true, if_false, Bool.false_eq_true]; done) | (simp only [em_tll, em_tlp, xw_rem, c11, c31, if_true, if_false, Bool.false_eq_true]; done) | (simp [em_tll, em_tlp, xw_rem, c11, c31]; done) | (unfold em_tll em_tlp xw_rem; rw [if_pos c11]; simp only [c11, c31, if_true, if_false]; done) | (unfold em_tll; rw [if_neg (Bool.eq_false_iff.mp c11), if_neg (Bool.eq_false_iff.mp c108)]; first | exact (if_pos c120).symm | (rw [if_neg c120]; first | exact (if_pos c132).symm | (rw [if_neg c132]; exact (if_pos c145).symm)))) dX8_told_96
set_option maxHeartbeats 4000000 in
set_option maxRecDepth 100000 in
theorem mX8_pass (l : Launch) (D : va_G) (cI cZ : ClassId) (bs : Nat) (ad : Nat → Nat) (ws : va_W) (b : Nat) (A : Nat → Nat → Int32) (I : Nat → Int32) (L : Int64) (hM : xv_M cI cZ ad ws b A I L) (x : Int32) (h44 : vp_in (I 44) 200) : Met l yX8_pass wsX8_pass ({ frames := 0, cells := 0, slots := 0, locals := 0 } : Room) (va_Pc [.ref (ad b), .int x] (fun U => xg_W D cI cZ bs ws U)) (va_Qi (fun (r : Int32) (w : va_W) => r = em_pv A I x ∧ xv_M cI cZ ad w b (em_pvA A I x) (em_pvI I) L ∧ xv_S ws w b 24) (fun w t => xg_W D cI cZ bs w t) (xg_A bs)) 0 0 (xg_A bs) := by
  refine xg_met cX8_pass 3 (some .int) RX8 (by decide) rfl rfl (Nat.le_of_ble_eq_true rfl) ?_
  intro pg en s m below meth c ls S hr hlk hnm hB hl
  have hK := hB.1
  have hG := xg_start hB
  obtain ⟨hx, hb, hml, hown, hts⟩ := id S
  have hl : lv_has ls 3 [(0, .ref (ad b)), (1, .int x)] := hl
  obtain ⟨Q, hQ⟩ : ∃ Q, Q = MQ below (va_Qi (fun (r : Int32) (w : va_W) => r = em_pv A I x ∧ xv_M cI cZ ad w b (em_pvA A I x) (em_pvI I) L ∧ xv_S ws w b 24) (fun w t => xg_W D cI cZ bs w t) (xg_A bs)) ([.ref (ad b), .int x] : List Value).toArray s 0 0 (xg_A bs) := ⟨_, rfl⟩
  rw [← hQ]
  have k0 := hts (.fieldLink RX8 328 "DareBridgeModel" "isWriting" "Z") (List.mem_of_getElem? (i := 1) rfl)
  have k1 := hts (.fieldLink RX8 73 "DareBridgeModel" "kept" "[I") (List.mem_of_getElem? (i := 2) rfl)
  have k2 := hts (.fieldLink RX8 332 "DareBridgeModel" "keptAt" "I") (List.mem_of_getElem? (i := 3) rfl)
  refine lv_aload_n hx hb dX8_pass_0 rfl (lv_at hl 0 rfl) ?_
  refine xg_get (C := RX8) (T := TX8) (N := 46) S hK hG (fun w h => List.mem_cons_of_mem _ (List.mem_append_right _ (h))) b hM.1 rfl 45 (by decide) k0 (fun _ h9 => h9) rfl dX8_pass_1 ?_
  have jn20_1 : ∀ v1 : Int32, v1 = ((if (I 45) = 0 then (A 21) ((I 44).toNatClampNeg) else x) : Int32) → W pg l en ({ frames := 0, cells := 0, slots := 0, locals := 0 } : Room) s m ([.ref (ad b), .int x] : List Value).toArray below meth c s.heap [] 0 0 Q (F0 m 20 ls [.int v1]) := by
    intro v1 ev1
    replace ev1 := ev1.symm
    refine lv_istore_n (lv' := [(2, .int v1), (0, .ref (ad b)), (1, .int x)]) hx hb dX8_pass_20 rfl hl (by decide) rfl (fun ls hl => ?_)
    refine lv_aload_n hx hb dX8_pass_21 rfl (lv_at hl 1 rfl) ?_
    refine xg_get (C := RX8) (T := TX8) (N := 46) S hK hG (fun w h => List.mem_cons_of_mem _ (List.mem_append_right _ (h))) b hM.1 rfl 42 (by decide) k1 (fun _ h9 => h9) rfl dX8_pass_22 ?_
    refine lv_aload_n hx hb dX8_pass_25 rfl (lv_at hl 1 rfl) ?_
    refine xg_get (C := RX8) (T := TX8) (N := 46) S hK hG (fun w h => List.mem_cons_of_mem _ (List.mem_append_right _ (h))) b hM.1 rfl 44 (by decide) k2 (fun _ h9 => h9) rfl dX8_pass_26 ?_
    refine lv_iload_n hx hb dX8_pass_29 rfl (lv_at hl 0 rfl) ?_
    refine xg_ast2 S hK hG (b + 22) (show ws[b + 22]? = some (ad (b + 22), .inl (cI, 200, .inl (A 21))) from hM.2.1 21 (by decide)) (i := I 44) (x := v1) (by first | assumption | exact vp_in_nI (by omega) (by decide)) dX8_pass_30 (fun w2 H locs hw2 hG => ?_)
    have hs3 : xv_S ws w2 (b + 22) 1 := by rw [hw2]; exact xv_S.set (by omega) (by omega)
    obtain ⟨A4, eA4⟩ : ∃ zz : Nat → Nat → Int32, (va_up A 21 (upd (A 21) ((I 44).toNatClampNeg) v1)) = zz := ⟨_, rfl⟩
    have hM : xv_M cI cZ ad w2 b A4 I L := by rw [hw2, ← eA4]; exact hM.row 21 (by decide)
    have hSw2 : xv_S ws w2 b 24 := hs3.mono (by omega) (by omega)
    refine lv_aload_n hx hb dX8_pass_31 rfl (lv_at hl 1 rfl) ?_
    refine lv_dup hx hb dX8_pass_32 rfl ?_
    refine xg_get (C := RX8) (T := TX8) (N := 46) S hK hG (fun w h => List.mem_cons_of_mem _ (List.mem_append_right _ (h))) b hM.1 rfl 44 (by decide) k2 (fun _ h9 => h9) rfl dX8_pass_33 ?_
    refine lv_iconst (v := 1) hx hb dX8_pass_36 (by decide) ?_
    refine lv_iadd hx hb dX8_pass_37 ?_
    refine xg_put2 (C := RX8) (T := TX8) (N := 46) (v := .int ((I 44) + 1)) (ty := .int) S hK hG (fun w h => List.mem_cons_of_mem _ (List.mem_append_right _ (h))) tyX8 tyX8_ok nmX8 b hM.1 rfl 44 (by decide) k2 (fun _ h9 => h9) rfl (by decide +kernel) rfl rfl (Nat.le_of_ble_eq_true rfl) dX8_pass_38 (fun w5 H locs hw5 hG => ?_)
    have hs6 : xv_S w2 w5 b 1 := by rw [hw5]; exact xv_S.set (by omega) (by omega)
    obtain ⟨I7, eI7⟩ : ∃ zz : Nat → Int32, (va_up I 44 ((I 44) + 1)) = zz := ⟨_, rfl⟩
    have hM : xv_M cI cZ ad w5 b A4 I7 L := by rw [hw5, ← eI7]; exact hM.fld (va_up I 44 ((I 44) + 1)) L rfl
    have hSw5 : xv_S ws w5 b 24 := hSw2.trans (hs6.mono (by omega) (by omega))
    refine lv_iload_n hx hb dX8_pass_41 rfl (lv_at hl 0 rfl) ?_
    rw [hQ]
    exact xg_emi S hr hlk hK hG ⟨(by subst ev1 eA4 eI7; rfl), (by rw [show (em_pvA A I x) = A4 from (by subst ev1 eA4 eI7; rfl)]; rw [show (em_pvI I) = I7 from (by subst ev1 eA4 eI7; rfl)]; exact hM), hSw5⟩ dX8_pass_42
  refine lv_if_eq (tgt := 11) hx hb dX8_pass_4 (by decide) (fun c4 => ?_) (fun c4 => ?_)
  · skip
    refine lv_aload_n hx hb dX8_pass_11 rfl (lv_at hl 0 rfl) ?_
    refine xg_get (C := RX8) (T := TX8) (N := 46) S hK hG (fun w h => List.mem_cons_of_mem _ (List.mem_append_right _ (h))) b hM.1 rfl 42 (by decide) k1 (fun _ h9 => h9) rfl dX8_pass_12 ?_
    refine lv_aload_n hx hb dX8_pass_15 rfl (lv_at hl 0 rfl) ?_
    refine xg_get (C := RX8) (T := TX8) (N := 46) S hK hG (fun w h => List.mem_cons_of_mem _ (List.mem_append_right _ (h))) b hM.1 rfl 44 (by decide) k2 (fun _ h9 => h9) rfl dX8_pass_16 ?_
    refine xg_ald S hK hG (b + 22) (show ws[b + 22]? = some (ad (b + 22), .inl (cI, 200, .inl (A 21))) from hM.2.1 21 (by decide)) (i := I 44) (by first | assumption | exact vp_in_nI (by omega) (by decide)) dX8_pass_19 ?_
    exact jn20_1 _ (by rw [if_pos c4])
  · skip
    refine lv_iload_n hx hb dX8_pass_7 rfl (lv_at hl 1 rfl) ?_
    refine lv_goto (tgt := 20) hx hb dX8_pass_8 (by decide) ?_
    exact jn20_1 _ (by rw [if_neg c4])
