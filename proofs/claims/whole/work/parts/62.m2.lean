set_option maxHeartbeats 4000000 in
set_option maxRecDepth 100000 in
theorem mX8_set (l : Launch) (D : va_G) (cI cZ : ClassId) (bs : Nat) (ad : Nat → Nat) (ws : va_W) (b : Nat) (A : Nat → Nat → Int32) (I : Nat → Int32) (L : Int64) (hM : xv_M cI cZ ad ws b A I L) (k9 : Int32) (v9 : Int32) : Met l yX8_set wsX8_set ({ frames := 3, cells := 0, slots := 0, locals := 66 } : Room) (va_Pc [.ref (ad b), .int k9, .int v9] (fun U => xg_W D cI cZ bs ws U)) (va_Qi (fun (r : Int32) (w : va_W) => r = em_setR I k9 v9 ∧ xv_M cI cZ ad w b A (em_setI I k9 v9) L ∧ xv_S ws w b 24) (fun w t => xg_W D cI cZ bs w t) (xg_A bs)) 0 0 (xg_A bs) := by
  refine xg_met cX8_set 4 (some .int) RX8 (by decide) rfl rfl (Nat.le_of_ble_eq_true rfl) ?_
  intro pg en s m below meth c ls S hr hlk hnm hB hl
  have hK := hB.1
  have hG := xg_start hB
  obtain ⟨hx, hb, hml, hown, hts⟩ := id S
  have hl : lv_has ls 4 [(0, .ref (ad b)), (1, .int k9), (2, .int v9)] := hl
  obtain ⟨Q, hQ⟩ : ∃ Q, Q = MQ below (va_Qi (fun (r : Int32) (w : va_W) => r = em_setR I k9 v9 ∧ xv_M cI cZ ad w b A (em_setI I k9 v9) L ∧ xv_S ws w b 24) (fun w t => xg_W D cI cZ bs w t) (xg_A bs)) ([.ref (ad b), .int k9, .int v9] : List Value).toArray s 0 0 (xg_A bs) := ⟨_, rfl⟩
  rw [← hQ]
  have k0 := hts (.fieldLink RX8 80 "DareBridgeModel" "step" "I") (List.mem_of_getElem? (i := 1) rfl)
  have k1 := hts (.fieldLink RX8 84 "DareBridgeModel" "start" "I") (List.mem_of_getElem? (i := 2) rfl)
  have k2 := hts (.fieldLink RX8 87 "DareBridgeModel" "cost" "I") (List.mem_of_getElem? (i := 3) rfl)
  have k3 := hts (.fieldLink RX8 90 "DareBridgeModel" "fade" "I") (List.mem_of_getElem? (i := 4) rfl)
  have k4 := hts (.fieldLink RX8 93 "DareBridgeModel" "plaster" "I") (List.mem_of_getElem? (i := 5) rfl)
  have k5 := hts (.fieldLink RX8 132 "DareBridgeModel" "wet" "I") (List.mem_of_getElem? (i := 6) rfl)
  have k6 := hts (.fieldLink RX8 96 "DareBridgeModel" "x" "I") (List.mem_of_getElem? (i := 7) rfl)
  refine lv_iload_n hx hb dX8_set_0 rfl (lv_at hl 1 rfl) ?_
  refine lv_iload_n hx hb dX8_set_1 rfl (lv_at hl 2 rfl) ?_
  refine xg_ri (va_runS (As := [.int k9, .int v9]) (rest := []) S (mX8_maySet l D cI cZ bs ad ws k9 v9) (va_cwS 2 hts gX8_set_X8_maySet rfl rfl rfl (by decide +kernel) ⟨Nat.le_of_ble_eq_true rfl, Nat.le_of_ble_eq_true rfl⟩) (xg_preS hK hG) rfl rfl hl.1 rfl (lv_room (Nat.le_of_ble_eq_true rfl)) dX8_set_2 ⟨Nat.zero_le _, Nat.zero_le _⟩) (fun r1 hr1 => ?_)
  replace hr1 := hr1.symm; subst hr1
  refine xb_ifne (tgt := 11) S dX8_set_5 (by decide) (fun c5 => ?_) (fun c5 => ?_)
  · skip
    refine lv_aload_n hx hb dX8_set_11 rfl (lv_at hl 0 rfl) ?_
    refine lv_iload_n hx hb dX8_set_12 rfl (lv_at hl 1 rfl) ?_
    refine xg_ri (va_runV (As := [.int k9]) (rest := []) S (mX8_toldSet l D cI cZ bs ad ws b A I L hM k9) (cwV 1 hts gX8_set_X8_toldSet rfl rfl rfl (by decide +kernel) ⟨Nat.le_of_ble_eq_true rfl, Nat.le_of_ble_eq_true rfl⟩) (xg_preV hK hG b hM.1 rfl rfl) rfl rfl hl.1 rfl (lv_room (Nat.le_of_ble_eq_true rfl)) dX8_set_13 ⟨Nat.zero_le _, Nat.zero_le _⟩) (fun r2 hr2 => ?_)
    replace hr2 := hr2.symm; subst hr2
    refine lv_topi (fun x3 ex3 => ?_)
    replace ex3 := ex3.symm
    refine lv_istore_n (lv' := [(3, .int x3), (0, .ref (ad b)), (1, .int k9), (2, .int v9)]) hx hb dX8_set_16 rfl hl (by decide) rfl (fun ls hl => ?_)
    refine lv_aload_n hx hb dX8_set_17 rfl (lv_at hl 1 rfl) ?_
    refine lv_iload_n hx hb dX8_set_18 rfl (lv_at hl 2 rfl) ?_
    have jn30_4 : ∀ v4 : Int32, v4 = (if k9 = 0 then v9 else I 8) → W pg l en ({ frames := 3, cells := 0, slots := 0, locals := 66 } : Room) s m ([.ref (ad b), .int k9, .int v9] : List Value).toArray below meth c s.heap [] 0 0 Q (F0 m 30 ls [.int v4, .ref (ad b)]) := by
      intro v4 ev4
      replace ev4 := ev4.symm
      refine xg_put2 (C := RX8) (T := TX8) (N := 46) (v := .int v4) (ty := .int) S hK hG (fun w h => List.mem_cons_of_mem _ (List.mem_append_right _ (h))) tyX8 tyX8_ok nmX8 b hM.1 rfl 8 (by decide) k0 (fun _ h9 => h9) rfl (by decide +kernel) rfl rfl (Nat.le_of_ble_eq_true rfl) dX8_set_30 (fun w5 H locs hw5 hG => ?_)
      have hs6 : xv_S ws w5 b 1 := by rw [hw5]; exact xv_S.set (by omega) (by omega)
      obtain ⟨I7, eI7⟩ : ∃ zz : Nat → Int32, (va_up I 8 v4) = zz := ⟨_, rfl⟩
      have hM : xv_M cI cZ ad w5 b A I7 L := by rw [hw5, ← eI7]; exact hM.fld (va_up I 8 v4) L rfl
      have hSw5 : xv_S ws w5 b 24 := hs6.mono (by omega) (by omega)
      refine lv_aload_n hx hb dX8_set_33 rfl (lv_at hl 1 rfl) ?_
      refine lv_iload_n hx hb dX8_set_34 rfl (lv_at hl 2 rfl) ?_
      refine lv_iconst (v := 1) hx hb dX8_set_35 (by decide) ?_
      have jn47_8 : ∀ v8 : Int32, v8 = (if k9 = 1 then v9 else I7 9) → W pg l en ({ frames := 3, cells := 0, slots := 0, locals := 66 } : Room) s m ([.ref (ad b), .int k9, .int v9] : List Value).toArray below meth c H locs 0 0 Q (F0 m 47 ls [.int v8, .ref (ad b)]) := by
        intro v8 ev8
        replace ev8 := ev8.symm
        refine xg_put2 (C := RX8) (T := TX8) (N := 46) (v := .int v8) (ty := .int) S hK hG (fun w h => List.mem_cons_of_mem _ (List.mem_append_right _ (h))) tyX8 tyX8_ok nmX8 b hM.1 rfl 9 (by decide) k1 (fun _ h9 => h9) rfl (by decide +kernel) rfl rfl (Nat.le_of_ble_eq_true rfl) dX8_set_47 (fun w9 H locs hw9 hG => ?_)
        have hs10 : xv_S w5 w9 b 1 := by rw [hw9]; exact xv_S.set (by omega) (by omega)
        obtain ⟨I11, eI11⟩ : ∃ zz : Nat → Int32, (va_up I7 9 v8) = zz := ⟨_, rfl⟩
        have hM : xv_M cI cZ ad w9 b A I11 L := by rw [hw9, ← eI11]; exact hM.fld (va_up I7 9 v8) L rfl
        have hSw9 : xv_S ws w9 b 24 := hSw5.trans (hs10.mono (by omega) (by omega))
        refine lv_aload_n hx hb dX8_set_50 rfl (lv_at hl 1 rfl) ?_
        refine lv_iload_n hx hb dX8_set_51 rfl (lv_at hl 2 rfl) ?_
        refine lv_iconst (v := 2) hx hb dX8_set_52 (by decide) ?_
        have jn64_12 : ∀ v12 : Int32, v12 = (if k9 = 2 then v9 else I11 10) → W pg l en ({ frames := 3, cells := 0, slots := 0, locals := 66 } : Room) s m ([.ref (ad b), .int k9, .int v9] : List Value).toArray below meth c H locs 0 0 Q (F0 m 64 ls [.int v12, .ref (ad b)]) := by
          intro v12 ev12
          replace ev12 := ev12.symm
          refine xg_put2 (C := RX8) (T := TX8) (N := 46) (v := .int v12) (ty := .int) S hK hG (fun w h => List.mem_cons_of_mem _ (List.mem_append_right _ (h))) tyX8 tyX8_ok nmX8 b hM.1 rfl 10 (by decide) k2 (fun _ h9 => h9) rfl (by decide +kernel) rfl rfl (Nat.le_of_ble_eq_true rfl) dX8_set_64 (fun w13 H locs hw13 hG => ?_)
          have hs14 : xv_S w9 w13 b 1 := by rw [hw13]; exact xv_S.set (by omega) (by omega)
          obtain ⟨I15, eI15⟩ : ∃ zz : Nat → Int32, (va_up I11 10 v12) = zz := ⟨_, rfl⟩
          have hM : xv_M cI cZ ad w13 b A I15 L := by rw [hw13, ← eI15]; exact hM.fld (va_up I11 10 v12) L rfl
          have hSw13 : xv_S ws w13 b 24 := hSw9.trans (hs14.mono (by omega) (by omega))
          refine lv_aload_n hx hb dX8_set_67 rfl (lv_at hl 1 rfl) ?_
          refine lv_iload_n hx hb dX8_set_68 rfl (lv_at hl 2 rfl) ?_
          refine lv_iconst (v := 3) hx hb dX8_set_69 (by decide) ?_
          have jn81_16 : ∀ v16 : Int32, v16 = (if k9 = 3 then v9 else I15 11) → W pg l en ({ frames := 3, cells := 0, slots := 0, locals := 66 } : Room) s m ([.ref (ad b), .int k9, .int v9] : List Value).toArray below meth c H locs 0 0 Q (F0 m 81 ls [.int v16, .ref (ad b)]) := by
            intro v16 ev16
            replace ev16 := ev16.symm
            refine xg_put2 (C := RX8) (T := TX8) (N := 46) (v := .int v16) (ty := .int) S hK hG (fun w h => List.mem_cons_of_mem _ (List.mem_append_right _ (h))) tyX8 tyX8_ok nmX8 b hM.1 rfl 11 (by decide) k3 (fun _ h9 => h9) rfl (by decide +kernel) rfl rfl (Nat.le_of_ble_eq_true rfl) dX8_set_81 (fun w17 H locs hw17 hG => ?_)
            have hs18 : xv_S w13 w17 b 1 := by rw [hw17]; exact xv_S.set (by omega) (by omega)
            obtain ⟨I19, eI19⟩ : ∃ zz : Nat → Int32, (va_up I15 11 v16) = zz := ⟨_, rfl⟩
            have hM : xv_M cI cZ ad w17 b A I19 L := by rw [hw17, ← eI19]; exact hM.fld (va_up I15 11 v16) L rfl
            have hSw17 : xv_S ws w17 b 24 := hSw13.trans (hs18.mono (by omega) (by omega))
            refine lv_aload_n hx hb dX8_set_84 rfl (lv_at hl 1 rfl) ?_
            refine lv_iload_n hx hb dX8_set_85 rfl (lv_at hl 2 rfl) ?_
            refine lv_iconst (v := 4) hx hb dX8_set_86 (by decide) ?_
            have jn98_20 : ∀ v20 : Int32, v20 = (if k9 = 4 then v9 else I19 12) → W pg l en ({ frames := 3, cells := 0, slots := 0, locals := 66 } : Room) s m ([.ref (ad b), .int k9, .int v9] : List Value).toArray below meth c H locs 0 0 Q (F0 m 98 ls [.int v20, .ref (ad b)]) := by
              intro v20 ev20
              replace ev20 := ev20.symm
              refine xg_put2 (C := RX8) (T := TX8) (N := 46) (v := .int v20) (ty := .int) S hK hG (fun w h => List.mem_cons_of_mem _ (List.mem_append_right _ (h))) tyX8 tyX8_ok nmX8 b hM.1 rfl 12 (by decide) k4 (fun _ h9 => h9) rfl (by decide +kernel) rfl rfl (Nat.le_of_ble_eq_true rfl) dX8_set_98 (fun w21 H locs hw21 hG => ?_)
              have hs22 : xv_S w17 w21 b 1 := by rw [hw21]; exact xv_S.set (by omega) (by omega)
              obtain ⟨I23, eI23⟩ : ∃ zz : Nat → Int32, (va_up I19 12 v20) = zz := ⟨_, rfl⟩
              have hM : xv_M cI cZ ad w21 b A I23 L := by rw [hw21, ← eI23]; exact hM.fld (va_up I19 12 v20) L rfl
              have hSw21 : xv_S ws w21 b 24 := hSw17.trans (hs22.mono (by omega) (by omega))
              refine lv_aload_n hx hb dX8_set_101 rfl (lv_at hl 1 rfl) ?_
              refine lv_iload_n hx hb dX8_set_102 rfl (lv_at hl 2 rfl) ?_
              refine lv_iconst (v := 5) hx hb dX8_set_103 (by decide) ?_
              have jn115_24 : ∀ v24 : Int32, v24 = (if k9 = 5 then v9 else I23 13) → W pg l en ({ frames := 3, cells := 0, slots := 0, locals := 66 } : Room) s m ([.ref (ad b), .int k9, .int v9] : List Value).toArray below meth c H locs 0 0 Q (F0 m 115 ls [.int v24, .ref (ad b)]) := by
                intro v24 ev24
                replace ev24 := ev24.symm
                refine xg_put2 (C := RX8) (T := TX8) (N := 46) (v := .int v24) (ty := .int) S hK hG (fun w h => List.mem_cons_of_mem _ (List.mem_append_right _ (h))) tyX8 tyX8_ok nmX8 b hM.1 rfl 13 (by decide) k5 (fun _ h9 => h9) rfl (by decide +kernel) rfl rfl (Nat.le_of_ble_eq_true rfl) dX8_set_115 (fun w25 H locs hw25 hG => ?_)
                have hs26 : xv_S w21 w25 b 1 := by rw [hw25]; exact xv_S.set (by omega) (by omega)
                obtain ⟨I27, eI27⟩ : ∃ zz : Nat → Int32, (va_up I23 13 v24) = zz := ⟨_, rfl⟩
                have hM : xv_M cI cZ ad w25 b A I27 L := by rw [hw25, ← eI27]; exact hM.fld (va_up I23 13 v24) L rfl
                have hSw25 : xv_S ws w25 b 24 := hSw21.trans (hs26.mono (by omega) (by omega))
                refine lv_aload_n hx hb dX8_set_118 rfl (lv_at hl 1 rfl) ?_
                refine lv_iload_n hx hb dX8_set_119 rfl (lv_at hl 2 rfl) ?_
                refine lv_bipush (v := 6) hx hb dX8_set_120 (by decide) ?_
                have jn133_28 : ∀ v28 : Int32, v28 = (if k9 = 6 then v9 else I27 14) → W pg l en ({ frames := 3, cells := 0, slots := 0, locals := 66 } : Room) s m ([.ref (ad b), .int k9, .int v9] : List Value).toArray below meth c H locs 0 0 Q (F0 m 133 ls [.int v28, .ref (ad b)]) := by
                  intro v28 ev28
                  replace ev28 := ev28.symm
                  refine xg_put2 (C := RX8) (T := TX8) (N := 46) (v := .int v28) (ty := .int) S hK hG (fun w h => List.mem_cons_of_mem _ (List.mem_append_right _ (h))) tyX8 tyX8_ok nmX8 b hM.1 rfl 14 (by decide) k6 (fun _ h9 => h9) rfl (by decide +kernel) rfl rfl (Nat.le_of_ble_eq_true rfl) dX8_set_133 (fun w29 H locs hw29 hG => ?_)
                  have hs30 : xv_S w25 w29 b 1 := by rw [hw29]; exact xv_S.set (by omega) (by omega)
                  obtain ⟨I31, eI31⟩ : ∃ zz : Nat → Int32, (va_up I27 14 v28) = zz := ⟨_, rfl⟩
                  have hM : xv_M cI cZ ad w29 b A I31 L := by rw [hw29, ← eI31]; exact hM.fld (va_up I27 14 v28) L rfl
                  have hSw29 : xv_S ws w29 b 24 := hSw25.trans (hs30.mono (by omega) (by omega))
                  refine lv_iload_n hx hb dX8_set_136 rfl (lv_at hl 0 rfl) ?_
                  rw [hQ]
                  exact xg_emi S hr hlk hK hG ⟨(by subst ex3 ev4 eI7 ev8 eI11 ev12 eI15 ev16 eI19 ev20 eI23 ev24 eI27 ev28 eI31; simp only [em_setR, c5, if_true, if_false, Bool.false_eq_true]), (by rw [show (em_setI I k9 v9) = I31 from (by subst ex3 ev4 eI7 ev8 eI11 ev12 eI15 ev16 eI19 ev20 eI23 ev24 eI27 ev28 eI31; simp only [em_setI, em_st7, c5, if_true, if_false, Bool.false_eq_true, va_up_self, va_up_ne, ne_eq, Nat.reduceEqDiff, not_false_eq_true])]; exact hM), hSw29⟩ dX8_set_137
                refine lv_icmp_ne (tgt := 129) hx hb dX8_set_122 (by decide) (fun c122 => ?_) (fun c122 => ?_)
                · skip
                  refine lv_aload_n hx hb dX8_set_129 rfl (lv_at hl 1 rfl) ?_
                  refine xg_get (C := RX8) (T := TX8) (N := 46) S hK hG (fun w h => List.mem_cons_of_mem _ (List.mem_append_right _ (h))) b hM.1 rfl 14 (by decide) k6 (fun _ h9 => h9) rfl dX8_set_130 ?_
                  exact jn133_28 _ (by rw [if_neg c122])
                · skip
                  refine lv_iload_n hx hb dX8_set_125 rfl (lv_at hl 3 rfl) ?_
                  refine lv_goto (tgt := 133) hx hb dX8_set_126 (by decide) ?_
                  exact jn133_28 _ (by rw [if_pos c122])
              refine lv_icmp_ne (tgt := 111) hx hb dX8_set_104 (by decide) (fun c104 => ?_) (fun c104 => ?_)
              · skip
                refine lv_aload_n hx hb dX8_set_111 rfl (lv_at hl 1 rfl) ?_
                refine xg_get (C := RX8) (T := TX8) (N := 46) S hK hG (fun w h => List.mem_cons_of_mem _ (List.mem_append_right _ (h))) b hM.1 rfl 13 (by decide) k5 (fun _ h9 => h9) rfl dX8_set_112 ?_
                exact jn115_24 _ (by rw [if_neg c104])
              · skip
                refine lv_iload_n hx hb dX8_set_107 rfl (lv_at hl 3 rfl) ?_
                refine lv_goto (tgt := 115) hx hb dX8_set_108 (by decide) ?_
                exact jn115_24 _ (by rw [if_pos c104])
            refine lv_icmp_ne (tgt := 94) hx hb dX8_set_87 (by decide) (fun c87 => ?_) (fun c87 => ?_)
            · skip
              refine lv_aload_n hx hb dX8_set_94 rfl (lv_at hl 1 rfl) ?_
              refine xg_get (C := RX8) (T := TX8) (N := 46) S hK hG (fun w h => List.mem_cons_of_mem _ (List.mem_append_right _ (h))) b hM.1 rfl 12 (by decide) k4 (fun _ h9 => h9) rfl dX8_set_95 ?_
              exact jn98_20 _ (by rw [if_neg c87])
            · skip
              refine lv_iload_n hx hb dX8_set_90 rfl (lv_at hl 3 rfl) ?_
              refine lv_goto (tgt := 98) hx hb dX8_set_91 (by decide) ?_
              exact jn98_20 _ (by rw [if_pos c87])
          refine lv_icmp_ne (tgt := 77) hx hb dX8_set_70 (by decide) (fun c70 => ?_) (fun c70 => ?_)
          · skip
            refine lv_aload_n hx hb dX8_set_77 rfl (lv_at hl 1 rfl) ?_
            refine xg_get (C := RX8) (T := TX8) (N := 46) S hK hG (fun w h => List.mem_cons_of_mem _ (List.mem_append_right _ (h))) b hM.1 rfl 11 (by decide) k3 (fun _ h9 => h9) rfl dX8_set_78 ?_
            exact jn81_16 _ (by rw [if_neg c70])
          · skip
            refine lv_iload_n hx hb dX8_set_73 rfl (lv_at hl 3 rfl) ?_
            refine lv_goto (tgt := 81) hx hb dX8_set_74 (by decide) ?_
            exact jn81_16 _ (by rw [if_pos c70])
        refine lv_icmp_ne (tgt := 60) hx hb dX8_set_53 (by decide) (fun c53 => ?_) (fun c53 => ?_)
        · skip
          refine lv_aload_n hx hb dX8_set_60 rfl (lv_at hl 1 rfl) ?_
          refine xg_get (C := RX8) (T := TX8) (N := 46) S hK hG (fun w h => List.mem_cons_of_mem _ (List.mem_append_right _ (h))) b hM.1 rfl 10 (by decide) k2 (fun _ h9 => h9) rfl dX8_set_61 ?_
          exact jn64_12 _ (by rw [if_neg c53])
        · skip
          refine lv_iload_n hx hb dX8_set_56 rfl (lv_at hl 3 rfl) ?_
          refine lv_goto (tgt := 64) hx hb dX8_set_57 (by decide) ?_
          exact jn64_12 _ (by rw [if_pos c53])
      refine lv_icmp_ne (tgt := 43) hx hb dX8_set_36 (by decide) (fun c36 => ?_) (fun c36 => ?_)
      · skip
        refine lv_aload_n hx hb dX8_set_43 rfl (lv_at hl 1 rfl) ?_
        refine xg_get (C := RX8) (T := TX8) (N := 46) S hK hG (fun w h => List.mem_cons_of_mem _ (List.mem_append_right _ (h))) b hM.1 rfl 9 (by decide) k1 (fun _ h9 => h9) rfl dX8_set_44 ?_
        exact jn47_8 _ (by rw [if_neg c36])
      · skip
        refine lv_iload_n hx hb dX8_set_39 rfl (lv_at hl 3 rfl) ?_
        refine lv_goto (tgt := 47) hx hb dX8_set_40 (by decide) ?_
        exact jn47_8 _ (by rw [if_pos c36])
    refine lv_if_ne (tgt := 26) hx hb dX8_set_19 (by decide) (fun c19 => ?_) (fun c19 => ?_)
    · skip
      refine lv_aload_n hx hb dX8_set_26 rfl (lv_at hl 1 rfl) ?_
      refine xg_get (C := RX8) (T := TX8) (N := 46) S hK hG (fun w h => List.mem_cons_of_mem _ (List.mem_append_right _ (h))) b hM.1 rfl 8 (by decide) k0 (fun _ h9 => h9) rfl dX8_set_27 ?_
      exact jn30_4 _ (by rw [if_neg c19])
    · skip
      refine lv_iload_n hx hb dX8_set_22 rfl (lv_at hl 3 rfl) ?_
      refine lv_goto (tgt := 30) hx hb dX8_set_23 (by decide) ?_
      exact jn30_4 _ (by rw [if_pos c19])
  · skip
    refine lv_bipush (v := (-2)) hx hb dX8_set_8 (by decide) ?_
    rw [hQ]
    exact xg_emi S hr hlk hK hG ⟨(by skip; simp only [em_setR, c5, if_true, if_false, Bool.false_eq_true]), (by rw [show (em_setI I k9 v9) = I from (by skip; simp only [em_setI, em_st7, c5, if_true, if_false, Bool.false_eq_true, va_up_self, va_up_ne, ne_eq, Nat.reduceEqDiff, not_false_eq_true])]; exact hM), xv_S.rf⟩ dX8_set_10
set_option maxHeartbeats 4000000 in
set_option maxRecDepth 100000 in
theorem mX8_say (l : Launch) (D : va_G) (cI cZ : ClassId) (bs : Nat) (ad : Nat → Nat) (ws : va_W) (b : Nat) (A : Nat → Nat → Int32) (I : Nat → Int32) (L : Int64) (hM : xv_M cI cZ ad ws b A I L) (x : Int32) (n : Nat) (hn : I 20 = nI n) (hn60 : n ≤ 60) : Met l yX8_say wsX8_say ({ frames := 1, cells := 0, slots := 0, locals := 25 } : Room) (va_Pc [.ref (ad b), .int x] (fun U => xg_W D cI cZ bs ws U)) (va_Qi (fun (r : Int32) (w : va_W) => r = em_sayR I x ∧ xv_M cI cZ ad w b (em_sayA A I x) (em_sayI I x) L ∧ xv_S ws w b 24) (fun w t => xg_W D cI cZ bs w t) (xg_A bs)) 0 0 (xg_A bs) := by
  refine xg_met cX8_say 2 (some .int) RX8 (by decide) rfl rfl (Nat.le_of_ble_eq_true rfl) ?_
  intro pg en s m below meth c ls S hr hlk hnm hB hl
  have hK := hB.1
  have hG := xg_start hB
  obtain ⟨hx, hb, hml, hown, hts⟩ := id S
  have hl : lv_has ls 2 [(0, .ref (ad b)), (1, .int x)] := hl
  obtain ⟨Q, hQ⟩ : ∃ Q, Q = MQ below (va_Qi (fun (r : Int32) (w : va_W) => r = em_sayR I x ∧ xv_M cI cZ ad w b (em_sayA A I x) (em_sayI I x) L ∧ xv_S ws w b 24) (fun w t => xg_W D cI cZ bs w t) (xg_A bs)) ([.ref (ad b), .int x] : List Value).toArray s 0 0 (xg_A bs) := ⟨_, rfl⟩
  rw [← hQ]
  have k0 := hts (.constantLong RX8 142 (33)) (List.mem_of_getElem? (i := 1) rfl)
  have k1 := hts (.constantLong RX8 144 (126)) (List.mem_of_getElem? (i := 2) rfl)
  have k2 := hts (.fieldLink RX8 146 "DareBridgeModel" "padMany" "I") (List.mem_of_getElem? (i := 3) rfl)
  have k3 := hts (.fieldLink RX8 40 "DareBridgeModel" "pad" "[I") (List.mem_of_getElem? (i := 4) rfl)
  refine lv_iload_n hx hb dX8_say_0 rfl (lv_at hl 1 rfl) ?_
  refine lv_i2l (v := x.toInt64) hx hb dX8_say_1 rfl ?_
  refine lv_ldc2 (v := 33) hx hb hown k0 dX8_say_2 ?_
  refine lv_ldc2 (v := 126) hx hb hown k1 dX8_say_5 ?_
  refine xg_ri (va_runS (As := [.long x.toInt64, .long 33, .long 126]) (rest := []) S (mX8_in l D cI cZ bs ad ws x.toInt64 33 126) (va_cwS 3 hts gX8_say_X8_in rfl rfl rfl (by decide +kernel) ⟨Nat.le_of_ble_eq_true rfl, Nat.le_of_ble_eq_true rfl⟩) (xg_preS hK hG) rfl rfl hl.1 rfl (lv_room (Nat.le_of_ble_eq_true rfl)) dX8_say_8 ⟨Nat.zero_le _, Nat.zero_le _⟩) (fun r1 hr1 => ?_)
  replace hr1 := hr1.symm; subst hr1
  rw [xw_inL_lit x 33 126 33 126 (by decide) (by decide)]
  refine xb_ifne (tgt := 17) S dX8_say_11 (by decide) (fun c11 => ?_) (fun c11 => ?_)
  · skip
    refine lv_aload_n hx hb dX8_say_17 rfl (lv_at hl 0 rfl) ?_
    refine xg_get (C := RX8) (T := TX8) (N := 46) S hK hG (fun w h => List.mem_cons_of_mem _ (List.mem_append_right _ (h))) b hM.1 rfl 20 (by decide) k2 (fun _ h9 => h9) rfl dX8_say_18 ?_
    refine lv_bipush (v := 60) hx hb dX8_say_21 (by decide) ?_
    refine lv_icmp_ne (tgt := 29) hx hb dX8_say_23 (by decide) (fun c23 => ?_) (fun c23 => ?_)
    · skip
      have hp : vp_in (I 20) 60 := by rw [hn]; exact vp_in_nI (by rcases Nat.lt_or_ge n 60 with q | q; exact q; exact absurd (by rw [hn, show n = 60 by omega]; rfl) c23) (by decide)
      refine lv_aload_n hx hb dX8_say_29 rfl (lv_at hl 0 rfl) ?_
      refine xg_get (C := RX8) (T := TX8) (N := 46) S hK hG (fun w h => List.mem_cons_of_mem _ (List.mem_append_right _ (h))) b hM.1 rfl 19 (by decide) k3 (fun _ h9 => h9) rfl dX8_say_30 ?_
      refine lv_aload_n hx hb dX8_say_33 rfl (lv_at hl 0 rfl) ?_
      refine xg_get (C := RX8) (T := TX8) (N := 46) S hK hG (fun w h => List.mem_cons_of_mem _ (List.mem_append_right _ (h))) b hM.1 rfl 20 (by decide) k2 (fun _ h9 => h9) rfl dX8_say_34 ?_
      refine lv_iload_n hx hb dX8_say_37 rfl (lv_at hl 1 rfl) ?_
      refine xg_ast2 S hK hG (b + 11) (show ws[b + 11]? = some (ad (b + 11), .inl (cI, 60, .inl (A 10))) from hM.2.1 10 (by decide)) (i := I 20) (x := x) (by first | assumption | exact vp_in_nI (by omega) (by decide)) dX8_say_38 (fun w2 H locs hw2 hG => ?_)
      have hs3 : xv_S ws w2 (b + 11) 1 := by rw [hw2]; exact xv_S.set (by omega) (by omega)
      obtain ⟨A4, eA4⟩ : ∃ zz : Nat → Nat → Int32, (va_up A 10 (upd (A 10) ((I 20).toNatClampNeg) x)) = zz := ⟨_, rfl⟩
      have hM : xv_M cI cZ ad w2 b A4 I L := by rw [hw2, ← eA4]; exact hM.row 10 (by decide)
      have hSw2 : xv_S ws w2 b 24 := hs3.mono (by omega) (by omega)
      refine lv_aload_n hx hb dX8_say_39 rfl (lv_at hl 0 rfl) ?_
      refine lv_dup hx hb dX8_say_40 rfl ?_
      refine xg_get (C := RX8) (T := TX8) (N := 46) S hK hG (fun w h => List.mem_cons_of_mem _ (List.mem_append_right _ (h))) b hM.1 rfl 20 (by decide) k2 (fun _ h9 => h9) rfl dX8_say_41 ?_
      refine lv_iconst (v := 1) hx hb dX8_say_44 (by decide) ?_
      refine lv_iadd hx hb dX8_say_45 ?_
      refine xg_put2 (C := RX8) (T := TX8) (N := 46) (v := .int ((I 20) + 1)) (ty := .int) S hK hG (fun w h => List.mem_cons_of_mem _ (List.mem_append_right _ (h))) tyX8 tyX8_ok nmX8 b hM.1 rfl 20 (by decide) k2 (fun _ h9 => h9) rfl (by decide +kernel) rfl rfl (Nat.le_of_ble_eq_true rfl) dX8_say_46 (fun w5 H locs hw5 hG => ?_)
      have hs6 : xv_S w2 w5 b 1 := by rw [hw5]; exact xv_S.set (by omega) (by omega)
      obtain ⟨I7, eI7⟩ : ∃ zz : Nat → Int32, (va_up I 20 ((I 20) + 1)) = zz := ⟨_, rfl⟩
      have hM : xv_M cI cZ ad w5 b A4 I7 L := by rw [hw5, ← eI7]; exact hM.fld (va_up I 20 ((I 20) + 1)) L rfl
      have hSw5 : xv_S ws w5 b 24 := hSw2.trans (hs6.mono (by omega) (by omega))
      refine lv_aload_n hx hb dX8_say_49 rfl (lv_at hl 0 rfl) ?_
      refine xg_get (C := RX8) (T := TX8) (N := 46) S hK hG (fun w h => List.mem_cons_of_mem _ (List.mem_append_right _ (h))) b hM.1 rfl 20 (by decide) k2 (fun _ h9 => h9) rfl dX8_say_50 ?_
      rw [hQ]
      exact xg_emi S hr hlk hK hG ⟨(by subst eA4 eI7; simp [em_sayR, va_up_self, va_up_ne, c11, c23]), (by rw [show (em_sayA A I x) = A4 from (by subst eA4 eI7; simp [em_sayA, em_sayI, va_up_self, va_up_ne, c11, c23])]; rw [show (em_sayI I x) = I7 from (by subst eA4 eI7; simp [em_sayA, em_sayI, va_up_self, va_up_ne, c11, c23])]; exact hM), hSw5⟩ dX8_say_53
    · skip
      refine lv_bipush (v := (-4)) hx hb dX8_say_26 (by decide) ?_
      rw [hQ]
      exact xg_emi S hr hlk hK hG ⟨(by skip; simp [em_sayR, va_up_self, va_up_ne, c11, c23]), (by rw [show (em_sayA A I x) = A from (by skip; simp [em_sayA, em_sayI, va_up_self, va_up_ne, c11, c23])]; rw [show (em_sayI I x) = I from (by skip; simp [em_sayA, em_sayI, va_up_self, va_up_ne, c11, c23])]; exact hM), xv_S.rf⟩ dX8_say_28
  · skip
    refine lv_bipush (v := (-2)) hx hb dX8_say_14 (by decide) ?_
    rw [hQ]
    exact xg_emi S hr hlk hK hG ⟨(by skip; simp [em_sayR, va_up_self, va_up_ne, c11]), (by rw [show (em_sayA A I x) = A from (by skip; simp [em_sayA, em_sayI, va_up_self, va_up_ne, c11])]; rw [show (em_sayI I x) = I from (by skip; simp [em_sayA, em_sayI, va_up_self, va_up_ne, c11])]; exact hM), xv_S.rf⟩ dX8_say_16
set_option maxHeartbeats 4000000 in
set_option maxRecDepth 100000 in
theorem mX8_wipe (l : Launch) (D : va_G) (cI cZ : ClassId) (bs : Nat) (ad : Nat → Nat) (ws : va_W) (b : Nat) (A : Nat → Nat → Int32) (I : Nat → Int32) (L : Int64) (hM : xv_M cI cZ ad ws b A I L) : Met l yX8_wipe wsX8_wipe ({ frames := 0, cells := 0, slots := 0, locals := 0 } : Room) (va_Pc [.ref (ad b)] (fun U => xg_W D cI cZ bs ws U)) (va_Qi (fun (r : Int32) (w : va_W) => r = I 20 ∧ xv_M cI cZ ad w b A (va_up I 20 0) L ∧ xv_S ws w b 24) (fun w t => xg_W D cI cZ bs w t) (xg_A bs)) 0 0 (xg_A bs) := by
  refine xg_met cX8_wipe 2 (some .int) RX8 (by decide) rfl rfl (Nat.le_of_ble_eq_true rfl) ?_
  intro pg en s m below meth c ls S hr hlk hnm hB hl
  have hK := hB.1
  have hG := xg_start hB
  obtain ⟨hx, hb, hml, hown, hts⟩ := id S
  have hl : lv_has ls 2 [(0, .ref (ad b))] := hl
  obtain ⟨Q, hQ⟩ : ∃ Q, Q = MQ below (va_Qi (fun (r : Int32) (w : va_W) => r = I 20 ∧ xv_M cI cZ ad w b A (va_up I 20 0) L ∧ xv_S ws w b 24) (fun w t => xg_W D cI cZ bs w t) (xg_A bs)) ([.ref (ad b)] : List Value).toArray s 0 0 (xg_A bs) := ⟨_, rfl⟩
  rw [← hQ]
  have k0 := hts (.fieldLink RX8 146 "DareBridgeModel" "padMany" "I") (List.mem_of_getElem? (i := 1) rfl)
  refine lv_aload_n hx hb dX8_wipe_0 rfl (lv_at hl 0 rfl) ?_
  refine xg_get (C := RX8) (T := TX8) (N := 46) S hK hG (fun w h => List.mem_cons_of_mem _ (List.mem_append_right _ (h))) b hM.1 rfl 20 (by decide) k0 (fun _ h9 => h9) rfl dX8_wipe_1 ?_
  refine lv_topi (fun x1 ex1 => ?_)
  replace ex1 := ex1.symm
  refine lv_istore_n (lv' := [(1, .int x1), (0, .ref (ad b))]) hx hb dX8_wipe_4 rfl hl (by decide) rfl (fun ls hl => ?_)
  refine lv_aload_n hx hb dX8_wipe_5 rfl (lv_at hl 1 rfl) ?_
  refine lv_iconst (v := 0) hx hb dX8_wipe_6 (by decide) ?_
  refine xg_put2 (C := RX8) (T := TX8) (N := 46) (v := .int 0) (ty := .int) S hK hG (fun w h => List.mem_cons_of_mem _ (List.mem_append_right _ (h))) tyX8 tyX8_ok nmX8 b hM.1 rfl 20 (by decide) k0 (fun _ h9 => h9) rfl (by decide +kernel) rfl rfl (Nat.le_of_ble_eq_true rfl) dX8_wipe_7 (fun w2 H locs hw2 hG => ?_)
  have hs3 : xv_S ws w2 b 1 := by rw [hw2]; exact xv_S.set (by omega) (by omega)
  obtain ⟨I4, eI4⟩ : ∃ zz : Nat → Int32, (va_up I 20 0) = zz := ⟨_, rfl⟩
  have hM : xv_M cI cZ ad w2 b A I4 L := by rw [hw2, ← eI4]; exact hM.fld (va_up I 20 0) L rfl
  have hSw2 : xv_S ws w2 b 24 := hs3.mono (by omega) (by omega)
  refine lv_iload_n hx hb dX8_wipe_10 rfl (lv_at hl 0 rfl) ?_
  rw [hQ]
  exact xg_emi S hr hlk hK hG ⟨(by subst ex1 eI4; rfl), (by rw [show (va_up I 20 0) = I4 from (by subst ex1 eI4; rfl)]; exact hM), hSw2⟩ dX8_wipe_11
set_option maxHeartbeats 4000000 in
set_option maxRecDepth 100000 in
theorem mX8_oddsOf (l : Launch) (D : va_G) (cI cZ : ClassId) (bs : Nat) (ad : Nat → Nat) (ws : va_W) (b : Nat) (A : Nat → Nat → Int32) (I : Nat → Int32) (L : Int64) (hM : xv_M cI cZ ad ws b A I L) (p : Int32) (y : Int32) (hp : vp_in p 6) : Met l yX8_oddsOf wsX8_oddsOf ({ frames := 0, cells := 0, slots := 0, locals := 0 } : Room) (va_Pc [.ref (ad b), .int p, .int y] (fun U => xg_W D cI cZ bs ws U)) (xg_Ri (fun r : Int32 => r = em_odd A I p y)) 0 0 xg_F := by
  refine xg_met cX8_oddsOf 4 (some .int) RX8 (by decide) rfl rfl (Nat.le_of_ble_eq_true rfl) ?_
  intro pg en s m below meth c ls S hr hlk hnm hB hl
  have hK := hB.1
  have hG := xg_start hB
  obtain ⟨hx, hb, hml, hown, hts⟩ := id S
  have hl : lv_has ls 4 [(0, .ref (ad b)), (1, .int p), (2, .int y)] := hl
  obtain ⟨Q, hQ⟩ : ∃ Q, Q = MQ below (xg_Ri (fun r : Int32 => r = em_odd A I p y)) ([.ref (ad b), .int p, .int y] : List Value).toArray s 0 0 xg_F := ⟨_, rfl⟩
  rw [← hQ]
  have k0 := hts (.fieldLink RX8 132 "DareBridgeModel" "wet" "I") (List.mem_of_getElem? (i := 1) rfl)
  have k1 := hts (.fieldLink RX8 7 "DareBridgeModel" "skill" "[I") (List.mem_of_getElem? (i := 2) rfl)
  refine lv_iload_n hx hb dX8_oddsOf_0 rfl (lv_at hl 2 rfl) ?_
  refine lv_iconst (v := 5) hx hb dX8_oddsOf_1 (by decide) ?_
  refine lv_aload_n hx hb dX8_oddsOf_2 rfl (lv_at hl 0 rfl) ?_
  refine xg_get (C := RX8) (T := TX8) (N := 46) S hK hG (fun w h => List.mem_cons_of_mem _ (List.mem_append_right _ (h))) b hM.1 rfl 13 (by decide) k0 (fun _ h9 => h9) rfl dX8_oddsOf_3 ?_
  refine lv_imul hx hb dX8_oddsOf_6 ?_
  refine lv_iadd hx hb dX8_oddsOf_7 ?_
  refine lv_aload_n hx hb dX8_oddsOf_8 rfl (lv_at hl 0 rfl) ?_
  refine xg_get (C := RX8) (T := TX8) (N := 46) S hK hG (fun w h => List.mem_cons_of_mem _ (List.mem_append_right _ (h))) b hM.1 rfl 1 (by decide) k1 (fun _ h9 => h9) rfl dX8_oddsOf_9 ?_
  refine lv_iload_n hx hb dX8_oddsOf_12 rfl (lv_at hl 1 rfl) ?_
  refine xg_ald S hK hG (b + 1) (show ws[b + 1]? = some (ad (b + 1), .inl (cI, 6, .inl (A 0))) from hM.2.1 0 (by decide)) (i := p) (by first | assumption | exact vp_in_nI (by omega) (by decide)) dX8_oddsOf_13 ?_
  refine lv_isub hx hb dX8_oddsOf_14 ?_
  refine lv_iconst (v := 2) hx hb dX8_oddsOf_15 (by decide) ?_
  refine lv_idiv hx hb dX8_oddsOf_16 (by decide) ?_
  refine lv_topi (fun x1 ex1 => ?_)
  replace ex1 := ex1.symm
  refine lv_istore_n (lv' := [(3, .int x1), (0, .ref (ad b)), (1, .int p), (2, .int y)]) hx hb dX8_oddsOf_17 rfl hl (by decide) rfl (fun ls hl => ?_)
  refine lv_iload_n hx hb dX8_oddsOf_18 rfl (lv_at hl 0 rfl) ?_
  refine lv_if_ge (tgt := 26) hx hb dX8_oddsOf_19 (by decide) (fun c19 => ?_) (fun c19 => ?_)
  · skip
    refine lv_iload_n hx hb dX8_oddsOf_26 rfl (lv_at hl 0 rfl) ?_
    refine lv_bipush (v := 10) hx hb dX8_oddsOf_27 (by decide) ?_
    refine lv_icmp_le (tgt := 37) hx hb dX8_oddsOf_29 (by decide) (fun c29 => ?_) (fun c29 => ?_)
    · skip
      refine lv_iload_n hx hb dX8_oddsOf_37 rfl (lv_at hl 0 rfl) ?_
      rw [hQ]
      exact xg_eri S hr hlk (by subst ex1; simp only [em_odd, c19, c29, if_true, if_false]) dX8_oddsOf_38
    · skip
      refine lv_bipush (v := 10) hx hb dX8_oddsOf_32 (by decide) ?_
      refine lv_goto (tgt := 38) hx hb dX8_oddsOf_34 (by decide) ?_
      rw [hQ]
      exact xg_eri S hr hlk (by subst ex1; simp only [em_odd, c19, c29, if_true, if_false]) dX8_oddsOf_38
  · skip
    refine lv_iconst (v := 0) hx hb dX8_oddsOf_22 (by decide) ?_
    refine lv_goto (tgt := 38) hx hb dX8_oddsOf_23 (by decide) ?_
    rw [hQ]
    exact xg_eri S hr hlk (by subst ex1; simp only [em_odd, c19, if_true, if_false]) dX8_oddsOf_38
set_option maxHeartbeats 4000000 in
set_option maxRecDepth 100000 in
theorem mX8_draw (l : Launch) (D : va_G) (cI cZ : ClassId) (bs : Nat) (ad : Nat → Nat) (ws : va_W) (b : Nat) (A : Nat → Nat → Int32) (I : Nat → Int32) (L : Int64) (hM : xv_M cI cZ ad ws b A I L) : Met l yX8_draw wsX8_draw ({ frames := 0, cells := 0, slots := 0, locals := 0 } : Room) (va_Pc [.ref (ad b)] (fun U => xg_W D cI cZ bs ws U)) (va_Qi (fun (r : Int32) (w : va_W) => r = xw_rem (em_drw (I 14)) 10 ∧ xv_M cI cZ ad w b A (em_doI I) L ∧ xv_S ws w b 24) (fun w t => xg_W D cI cZ bs w t) (xg_A bs)) 0 0 (xg_A bs) := by
  refine xg_met cX8_draw 1 (some .int) RX8 (by decide) rfl rfl (Nat.le_of_ble_eq_true rfl) ?_
  intro pg en s m below meth c ls S hr hlk hnm hB hl
  have hK := hB.1
  have hG := xg_start hB
  obtain ⟨hx, hb, hml, hown, hts⟩ := id S
  have hl : lv_has ls 1 [(0, .ref (ad b))] := hl
  obtain ⟨Q, hQ⟩ : ∃ Q, Q = MQ below (va_Qi (fun (r : Int32) (w : va_W) => r = xw_rem (em_drw (I 14)) 10 ∧ xv_M cI cZ ad w b A (em_doI I) L ∧ xv_S ws w b 24) (fun w t => xg_W D cI cZ bs w t) (xg_A bs)) ([.ref (ad b)] : List Value).toArray s 0 0 (xg_A bs) := ⟨_, rfl⟩
  rw [← hQ]
  have k0 := hts (.constantLong RX8 168 (75)) (List.mem_of_getElem? (i := 1) rfl)
  have k1 := hts (.fieldLink RX8 96 "DareBridgeModel" "x" "I") (List.mem_of_getElem? (i := 2) rfl)
  have k2 := hts (.constantLong RX8 170 (74)) (List.mem_of_getElem? (i := 3) rfl)
  have k3 := hts (.constantLong RX8 172 (65537)) (List.mem_of_getElem? (i := 4) rfl)
  refine lv_aload_n hx hb dX8_draw_0 rfl (lv_at hl 0 rfl) ?_
  refine lv_ldc2 (v := 75) hx hb hown k0 dX8_draw_1 ?_
  refine lv_aload_n hx hb dX8_draw_4 rfl (lv_at hl 0 rfl) ?_
  refine xg_get (C := RX8) (T := TX8) (N := 46) S hK hG (fun w h => List.mem_cons_of_mem _ (List.mem_append_right _ (h))) b hM.1 rfl 14 (by decide) k1 (fun _ h9 => h9) rfl dX8_draw_5 ?_
  refine lv_i2l (v := (I 14).toInt64) hx hb dX8_draw_8 rfl ?_
  refine lv_lmul hx hb dX8_draw_9 ?_
  refine lv_ldc2 (v := 74) hx hb hown k2 dX8_draw_10 ?_
  refine lv_ladd hx hb dX8_draw_13 ?_
  refine lv_ldc2 (v := 65537) hx hb hown k3 dX8_draw_14 ?_
  refine lv_lrem hx hb dX8_draw_17 (by decide) ?_
  refine lv_l2i (v := (((75 * ((I 14).toInt64)) + 74) - ((75 * ((I 14).toInt64)) + 74) / 65537 * 65537).toInt32) hx hb dX8_draw_18 rfl ?_
  refine xg_put2 (C := RX8) (T := TX8) (N := 46) (v := .int ((((75 * ((I 14).toInt64)) + 74) - ((75 * ((I 14).toInt64)) + 74) / 65537 * 65537).toInt32)) (ty := .int) S hK hG (fun w h => List.mem_cons_of_mem _ (List.mem_append_right _ (h))) tyX8 tyX8_ok nmX8 b hM.1 rfl 14 (by decide) k1 (fun _ h9 => h9) rfl (by decide +kernel) rfl rfl (Nat.le_of_ble_eq_true rfl) dX8_draw_19 (fun w1 H locs hw1 hG => ?_)
  have hs2 : xv_S ws w1 b 1 := by rw [hw1]; exact xv_S.set (by omega) (by omega)
  obtain ⟨I3, eI3⟩ : ∃ zz : Nat → Int32, (va_up I 14 ((((75 * ((I 14).toInt64)) + 74) - ((75 * ((I 14).toInt64)) + 74) / 65537 * 65537).toInt32)) = zz := ⟨_, rfl⟩
  have hM : xv_M cI cZ ad w1 b A I3 L := by rw [hw1, ← eI3]; exact hM.fld (va_up I 14 ((((75 * ((I 14).toInt64)) + 74) - ((75 * ((I 14).toInt64)) + 74) / 65537 * 65537).toInt32)) L rfl
  have hSw1 : xv_S ws w1 b 24 := hs2.mono (by omega) (by omega)
  refine lv_aload_n hx hb dX8_draw_22 rfl (lv_at hl 0 rfl) ?_
  refine xg_get (C := RX8) (T := TX8) (N := 46) S hK hG (fun w h => List.mem_cons_of_mem _ (List.mem_append_right _ (h))) b hM.1 rfl 14 (by decide) k1 (fun _ h9 => h9) rfl dX8_draw_23 ?_
  refine lv_bipush (v := 10) hx hb dX8_draw_26 (by decide) ?_
  refine lv_irem hx hb dX8_draw_28 (by decide) ?_
  rw [hQ]
  exact xg_emi S hr hlk hK hG ⟨(by subst eI3; simp [xw_rem, em_drw, va_up_self]), (by rw [show (em_doI I) = I3 from (by subst eI3; rfl)]; exact hM), hSw1⟩ dX8_draw_29
set_option maxHeartbeats 4000000 in
set_option maxRecDepth 100000 in
theorem mX8_doIt (l : Launch) (D : va_G) (cI cZ : ClassId) (bs : Nat) (ad : Nat → Nat) (ws : va_W) (b : Nat) (A : Nat → Nat → Int32) (I : Nat → Int32) (L : Int64) (hM : xv_M cI cZ ad ws b A I L) (p : Int32) (y : Int32) (hp : vp_in p 6) : Met l yX8_doIt wsX8_doIt ({ frames := 1, cells := 0, slots := 0, locals := 23 } : Room) (va_Pc [.ref (ad b), .int p, .int y] (fun U => xg_W D cI cZ bs ws U)) (va_Qi (fun (r : Int32) (w : va_W) => r = xb_i (decide (em_doH A I p y = 0)) ∧ xv_M cI cZ ad w b (em_doT A I p y) (em_doI I) L ∧ xv_S ws w b 24) (fun w t => xg_W D cI cZ bs w t) (xg_A bs)) 0 0 (xg_A bs) := by
  refine xg_met cX8_doIt 4 (some .boolean) RX8 (by decide) rfl rfl (Nat.le_of_ble_eq_true rfl) ?_
  intro pg en s m below meth c ls S hr hlk hnm hB hl
  have hK := hB.1
  have hG := xg_start hB
  obtain ⟨hx, hb, hml, hown, hts⟩ := id S
  have hl : lv_has ls 4 [(0, .ref (ad b)), (1, .int p), (2, .int y)] := hl
  obtain ⟨Q, hQ⟩ : ∃ Q, Q = MQ below (va_Qi (fun (r : Int32) (w : va_W) => r = xb_i (decide (em_doH A I p y = 0)) ∧ xv_M cI cZ ad w b (em_doT A I p y) (em_doI I) L ∧ xv_S ws w b 24) (fun w t => xg_W D cI cZ bs w t) (xg_A bs)) ([.ref (ad b), .int p, .int y] : List Value).toArray s 0 0 (xg_A bs) := ⟨_, rfl⟩
  rw [← hQ]
  have k0 := hts (.fieldLink RX8 22 "DareBridgeModel" "high" "[I") (List.mem_of_getElem? (i := 1) rfl)
  have k1 := hts (.fieldLink RX8 25 "DareBridgeModel" "fame" "[I") (List.mem_of_getElem? (i := 2) rfl)
  have k2 := hts (.fieldLink RX8 28 "DareBridgeModel" "nights" "[I") (List.mem_of_getElem? (i := 3) rfl)
  have k3 := hts (.fieldLink RX8 93 "DareBridgeModel" "plaster" "I") (List.mem_of_getElem? (i := 4) rfl)
  refine lv_aload_n hx hb dX8_doIt_0 rfl (lv_at hl 0 rfl) ?_
  refine xg_get (C := RX8) (T := TX8) (N := 46) S hK hG (fun w h => List.mem_cons_of_mem _ (List.mem_append_right _ (h))) b hM.1 rfl 5 (by decide) k0 (fun _ h9 => h9) rfl dX8_doIt_1 ?_
  refine lv_iload_n hx hb dX8_doIt_4 rfl (lv_at hl 1 rfl) ?_
  refine lv_aload_n hx hb dX8_doIt_5 rfl (lv_at hl 0 rfl) ?_
  refine xg_get (C := RX8) (T := TX8) (N := 46) S hK hG (fun w h => List.mem_cons_of_mem _ (List.mem_append_right _ (h))) b hM.1 rfl 5 (by decide) k0 (fun _ h9 => h9) rfl dX8_doIt_6 ?_
  refine lv_iload_n hx hb dX8_doIt_9 rfl (lv_at hl 1 rfl) ?_
  refine xg_ald S hK hG (b + 5) (show ws[b + 5]? = some (ad (b + 5), .inl (cI, 6, .inl (A 4))) from hM.2.1 4 (by decide)) (i := p) (by first | assumption | exact vp_in_nI (by omega) (by decide)) dX8_doIt_10 ?_
  refine lv_iload_n hx hb dX8_doIt_11 rfl (lv_at hl 2 rfl) ?_
  refine xg_ri (va_runS (As := [.int ((A 4) p.toNatClampNeg), .int y]) (rest := [.int p, .ref (ad (b + 5))]) S (mX8_most l D cI cZ bs ad ws ((A 4) p.toNatClampNeg) y) (va_cwS 2 hts gX8_doIt_X8_most rfl rfl rfl (by decide +kernel) ⟨Nat.le_of_ble_eq_true rfl, Nat.le_of_ble_eq_true rfl⟩) (xg_preS hK hG) rfl rfl hl.1 rfl (lv_room (Nat.le_of_ble_eq_true rfl)) dX8_doIt_12 ⟨Nat.zero_le _, Nat.zero_le _⟩) (fun r1 hr1 => ?_)
  replace hr1 := hr1.symm; subst hr1
  refine xg_ast2 S hK hG (b + 5) (show ws[b + 5]? = some (ad (b + 5), .inl (cI, 6, .inl (A 4))) from hM.2.1 4 (by decide)) (i := p) (x := em_mst ((A 4) p.toNatClampNeg) y) (by first | assumption | exact vp_in_nI (by omega) (by decide)) dX8_doIt_15 (fun w2 H locs hw2 hG => ?_)
  have hs3 : xv_S ws w2 (b + 5) 1 := by rw [hw2]; exact xv_S.set (by omega) (by omega)
  obtain ⟨A4, eA4⟩ : ∃ zz : Nat → Nat → Int32, (va_up A 4 (upd (A 4) p.toNatClampNeg (em_mst ((A 4) p.toNatClampNeg) y))) = zz := ⟨_, rfl⟩
  have hM : xv_M cI cZ ad w2 b A4 I L := by rw [hw2, ← eA4]; exact hM.row 4 (by decide)
  have hSw2 : xv_S ws w2 b 24 := hs3.mono (by omega) (by omega)
  refine lv_aload_n hx hb dX8_doIt_16 rfl (lv_at hl 0 rfl) ?_
  refine xg_get (C := RX8) (T := TX8) (N := 46) S hK hG (fun w h => List.mem_cons_of_mem _ (List.mem_append_right _ (h))) b hM.1 rfl 6 (by decide) k1 (fun _ h9 => h9) rfl dX8_doIt_17 ?_
  refine lv_iload_n hx hb dX8_doIt_20 rfl (lv_at hl 1 rfl) ?_
  refine lv_dup2_11 hx hb dX8_doIt_21 rfl rfl ?_
  refine xg_ald S hK hG (b + 6) (show w2[b + 6]? = some (ad (b + 6), .inl (cI, 6, .inl (A4 5))) from hM.2.1 5 (by decide)) (i := p) (by first | assumption | exact vp_in_nI (by omega) (by decide)) dX8_doIt_22 ?_
  refine lv_iload_n hx hb dX8_doIt_23 rfl (lv_at hl 2 rfl) ?_
  refine lv_iadd hx hb dX8_doIt_24 ?_
  refine xg_ast2 S hK hG (b + 6) (show w2[b + 6]? = some (ad (b + 6), .inl (cI, 6, .inl (A4 5))) from hM.2.1 5 (by decide)) (i := p) (x := ((A4 5) p.toNatClampNeg) + y) (by first | assumption | exact vp_in_nI (by omega) (by decide)) dX8_doIt_25 (fun w5 H locs hw5 hG => ?_)
  have hs6 : xv_S w2 w5 (b + 6) 1 := by rw [hw5]; exact xv_S.set (by omega) (by omega)
  obtain ⟨A7, eA7⟩ : ∃ zz : Nat → Nat → Int32, (va_up A4 5 (upd (A4 5) p.toNatClampNeg (((A4 5) p.toNatClampNeg) + y))) = zz := ⟨_, rfl⟩
  have hM : xv_M cI cZ ad w5 b A7 I L := by rw [hw5, ← eA7]; exact hM.row 5 (by decide)
  have hSw5 : xv_S ws w5 b 24 := hSw2.trans (hs6.mono (by omega) (by omega))
  refine lv_aload_n hx hb dX8_doIt_26 rfl (lv_at hl 0 rfl) ?_
  refine xg_mi (va_runV (As := []) (rest := []) S (mX8_draw l D cI cZ bs ad w5 b A7 I L hM) (cwV 0 hts gX8_doIt_X8_draw rfl rfl rfl (by decide +kernel) ⟨Nat.le_of_ble_eq_true rfl, Nat.le_of_ble_eq_true rfl⟩) (xg_preV hK hG b hM.1 rfl rfl) rfl rfl hl.1 rfl (lv_room (Nat.le_of_ble_eq_true rfl)) dX8_doIt_27 ⟨Nat.zero_le _, Nat.zero_le _⟩) hG (fun r8 w9 H locs hr8 hG => ?_)
  obtain ⟨hr8, hvw9_0, hsw9⟩ := hr8
  replace hr8 := hr8.symm; subst hr8
  have hM : xv_M cI cZ ad w9 b A7 (em_doI I) L := hvw9_0
  obtain ⟨I10, eI10⟩ : ∃ zz : Nat → Int32, (em_doI I) = zz := ⟨_, rfl⟩
  rw [eI10] at hM
  have hSw9 : xv_S ws w9 b 24 := hSw5.trans (hsw9.mono (by omega) (by omega))
  refine lv_aload_n hx hb dX8_doIt_30 rfl (lv_at hl 0 rfl) ?_
  refine lv_iload_n hx hb dX8_doIt_31 rfl (lv_at hl 1 rfl) ?_
  refine lv_iload_n hx hb dX8_doIt_32 rfl (lv_at hl 2 rfl) ?_
  refine xg_ri (va_runV (As := [.int p, .int y]) (rest := [.int (xw_rem (em_drw (I 14)) 10)]) S (mX8_oddsOf l D cI cZ bs ad w9 b A7 I10 L hM p y (by first | assumption | omega)) (cwV 2 hts gX8_doIt_X8_oddsOf rfl rfl rfl (by decide +kernel) ⟨Nat.le_of_ble_eq_true rfl, Nat.le_of_ble_eq_true rfl⟩) (xg_preV hK hG b hM.1 rfl rfl) rfl rfl hl.1 rfl (lv_room (Nat.le_of_ble_eq_true rfl)) dX8_doIt_33 ⟨Nat.zero_le _, Nat.zero_le _⟩) (fun r11 hr11 => ?_)
  replace hr11 := hr11.symm; subst hr11
  have jn44_12 : ∀ v12 : Int32, v12 = (if (em_odd A7 I10 p y) ≤ (xw_rem (em_drw (I 14)) 10) then 0 else 1) → W pg l en ({ frames := 1, cells := 0, slots := 0, locals := 23 } : Room) s m ([.ref (ad b), .int p, .int y] : List Value).toArray below meth c H locs 0 0 Q (F0 m 44 ls [.int v12]) := by
    intro v12 ev12
    replace ev12 := ev12.symm
    refine lv_istore_n (lv' := [(3, .int v12), (0, .ref (ad b)), (1, .int p), (2, .int y)]) hx hb dX8_doIt_44 rfl hl (by decide) rfl (fun ls hl => ?_)
    have hv : v12 = em_doH A I p y := by subst eA4 eA7 eI10 ev12; unfold em_doH em_doI; rw [em_odd_do]
    refine lv_aload_n hx hb dX8_doIt_45 rfl (lv_at hl 1 rfl) ?_
    refine xg_get (C := RX8) (T := TX8) (N := 46) S hK hG (fun w h => List.mem_cons_of_mem _ (List.mem_append_right _ (h))) b hM.1 rfl 7 (by decide) k2 (fun _ h9 => h9) rfl dX8_doIt_46 ?_
    refine lv_iload_n hx hb dX8_doIt_49 rfl (lv_at hl 2 rfl) ?_
    refine lv_iload_n hx hb dX8_doIt_50 rfl (lv_at hl 0 rfl) ?_
    have jn67_13 : ∀ v13 : Int32, v13 = (if v12 = 0 then (A7 6) p.toNatClampNeg else I10 12) → W pg l en ({ frames := 1, cells := 0, slots := 0, locals := 23 } : Room) s m ([.ref (ad b), .int p, .int y] : List Value).toArray below meth c H locs 0 0 Q (F0 m 67 ls [.int v13, .int p, .ref (ad (b + 7))]) := by
      intro v13 ev13
      replace ev13 := ev13.symm
      refine xg_ast2 S hK hG (b + 7) (show w9[b + 7]? = some (ad (b + 7), .inl (cI, 6, .inl (A7 6))) from hM.2.1 6 (by decide)) (i := p) (x := v13) (by first | assumption | exact vp_in_nI (by omega) (by decide)) dX8_doIt_67 (fun w14 H locs hw14 hG => ?_)
      have hs15 : xv_S w9 w14 (b + 7) 1 := by rw [hw14]; exact xv_S.set (by omega) (by omega)
      obtain ⟨A16, eA16⟩ : ∃ zz : Nat → Nat → Int32, (va_up A7 6 (upd (A7 6) p.toNatClampNeg v13)) = zz := ⟨_, rfl⟩
      have hM : xv_M cI cZ ad w14 b A16 I10 L := by rw [hw14, ← eA16]; exact hM.row 6 (by decide)
      have hSw14 : xv_S ws w14 b 24 := hSw9.trans (hs15.mono (by omega) (by omega))
      refine lv_iload_n hx hb dX8_doIt_68 rfl (lv_at hl 0 rfl) ?_
      refine lv_if_ne (tgt := 76) hx hb dX8_doIt_69 (by decide) (fun c69 => ?_) (fun c69 => ?_)
      · skip
        refine lv_iconst (v := 0) hx hb dX8_doIt_76 (by decide) ?_
        rw [hQ]
        exact xg_emz S hr hlk rfl hK hG ⟨(by subst eA4 eA7 eI10 ev12 ev13 eA16; rw [hv] at c69; simp [xb_i, c69]), (by rw [show (em_doT A I p y) = A16 from (by subst eA4 eA7 eI10 ev12 ev13 eA16; first | rfl | (unfold em_doT; rw [← hv]; simp [em_do3, em_doI, va_up_self, va_up_ne]))]; rw [show (em_doI I) = I10 from (by subst eA4 eA7 eI10 ev12 ev13 eA16; first | rfl | (unfold em_doT; rw [← hv]; simp [em_do3, em_doI, va_up_self, va_up_ne]))]; exact hM), hSw14⟩ dX8_doIt_77
      · skip
        refine lv_iconst (v := 1) hx hb dX8_doIt_72 (by decide) ?_
        refine lv_goto (tgt := 77) hx hb dX8_doIt_73 (by decide) ?_
        rw [hQ]
        exact xg_emz S hr hlk rfl hK hG ⟨(by subst eA4 eA7 eI10 ev12 ev13 eA16; rw [hv] at c69; simp [xb_i, c69]), (by rw [show (em_doT A I p y) = A16 from (by subst eA4 eA7 eI10 ev12 ev13 eA16; first | rfl | (unfold em_doT; rw [← hv]; simp [em_do3, em_doI, va_up_self, va_up_ne]))]; rw [show (em_doI I) = I10 from (by subst eA4 eA7 eI10 ev12 ev13 eA16; first | rfl | (unfold em_doT; rw [← hv]; simp [em_do3, em_doI, va_up_self, va_up_ne]))]; exact hM), hSw14⟩ dX8_doIt_77
    refine lv_if_eq (tgt := 61) hx hb dX8_doIt_51 (by decide) (fun c51 => ?_) (fun c51 => ?_)
    · skip
      refine lv_aload_n hx hb dX8_doIt_61 rfl (lv_at hl 1 rfl) ?_
      refine xg_get (C := RX8) (T := TX8) (N := 46) S hK hG (fun w h => List.mem_cons_of_mem _ (List.mem_append_right _ (h))) b hM.1 rfl 7 (by decide) k2 (fun _ h9 => h9) rfl dX8_doIt_62 ?_
      refine lv_iload_n hx hb dX8_doIt_65 rfl (lv_at hl 2 rfl) ?_
      refine xg_ald S hK hG (b + 7) (show w9[b + 7]? = some (ad (b + 7), .inl (cI, 6, .inl (A7 6))) from hM.2.1 6 (by decide)) (i := p) (by first | assumption | exact vp_in_nI (by omega) (by decide)) dX8_doIt_66 ?_
      exact jn67_13 _ (by rw [if_pos c51])
    · skip
      refine lv_aload_n hx hb dX8_doIt_54 rfl (lv_at hl 1 rfl) ?_
      refine xg_get (C := RX8) (T := TX8) (N := 46) S hK hG (fun w h => List.mem_cons_of_mem _ (List.mem_append_right _ (h))) b hM.1 rfl 12 (by decide) k3 (fun _ h9 => h9) rfl dX8_doIt_55 ?_
      refine lv_goto (tgt := 67) hx hb dX8_doIt_58 (by decide) ?_
      exact jn67_13 _ (by rw [if_neg c51])
  refine lv_icmp_ge (tgt := 43) hx hb dX8_doIt_36 (by decide) (fun c36 => ?_) (fun c36 => ?_)
  · skip
    refine lv_iconst (v := 0) hx hb dX8_doIt_43 (by decide) ?_
    exact jn44_12 _ (by rw [if_pos c36])
  · skip
    refine lv_iconst (v := 1) hx hb dX8_doIt_39 (by decide) ?_
    refine lv_goto (tgt := 44) hx hb dX8_doIt_40 (by decide) ?_
    exact jn44_12 _ (by rw [if_neg c36])
set_option maxHeartbeats 4000000 in
set_option maxRecDepth 100000 in
theorem mX8_passNight (l : Launch) (D : va_G) (cI cZ : ClassId) (bs : Nat) (ad : Nat → Nat) (ws : va_W) (b : Nat) (A : Nat → Nat → Int32) (I : Nat → Int32) (L : Int64) (hM : xv_M cI cZ ad ws b A I L) : Met l yX8_passNight wsX8_passNight ({ frames := 1, cells := 0, slots := 0, locals := 21 } : Room) (va_Pc [.ref (ad b)] (fun U => xg_W D cI cZ bs ws U)) (va_Qv (fun w : va_W => xv_M cI cZ ad w b (em_nik A (I 11) 6) I L ∧ xv_S ws w b 24) (fun w t => xg_W D cI cZ bs w t) (xg_A bs)) 0 0 (xg_A bs) := by
  refine xg_met cX8_passNight 3 none RX8 (by decide) rfl rfl (Nat.le_of_ble_eq_true rfl) ?_
  intro pg en s m below meth c ls S hr hlk hnm hB hl
  have hK := hB.1
  have hG := xg_start hB
  obtain ⟨hx, hb, hml, hown, hts⟩ := id S
  have hl : lv_has ls 3 [(0, .ref (ad b))] := hl
  obtain ⟨Q, hQ⟩ : ∃ Q, Q = MQ below (va_Qv (fun w : va_W => xv_M cI cZ ad w b (em_nik A (I 11) 6) I L ∧ xv_S ws w b 24) (fun w t => xg_W D cI cZ bs w t) (xg_A bs)) ([.ref (ad b)] : List Value).toArray s 0 0 (xg_A bs) := ⟨_, rfl⟩
  rw [← hQ]
  have k0 := hts (.fieldLink RX8 25 "DareBridgeModel" "fame" "[I") (List.mem_of_getElem? (i := 1) rfl)
  have k1 := hts (.fieldLink RX8 90 "DareBridgeModel" "fade" "I") (List.mem_of_getElem? (i := 2) rfl)
  have k2 := hts (.fieldLink RX8 28 "DareBridgeModel" "nights" "[I") (List.mem_of_getElem? (i := 3) rfl)
  refine lv_iconst (v := 0) hx hb dX8_passNight_0 (by decide) ?_
  refine lv_istore_n (lv' := [(1, .int 0), (0, .ref (ad b))]) hx hb dX8_passNight_1 rfl hl (by decide) rfl (fun ls hl => ?_)
  -- the loop at 2
  have lp2 : ∀ (fu : Nat) (k : Nat), (k ≤ 6) → (7 ≤ k + fu) → ∀ y2_1 : Int32, y2_1 = nI k → ∀ z2_hM_A : Nat → Nat → Int32, z2_hM_A = em_nik A (I 11) k → ∀ (w2 : va_W) (H : Heap) (locs : List Loc), xg_H D bs w2 s.heap H locs → (xv_M cI cZ ad w2 b z2_hM_A I L) → xv_S ws w2 b 24 → ∀ (ls : Array Slot), lv_has ls 3 [(0, .ref (ad b)), (1, .int y2_1)] → W pg l en ({ frames := 1, cells := 0, slots := 0, locals := 21 } : Room) s m ([.ref (ad b)] : List Value).toArray below meth c H locs 0 0 Q (F0 m 2 ls []) := by
    intro fu
    induction fu with
    | zero =>
      intro k hk hf
      exact absurd hf (by omega)
    | succ fu ih =>
      intro k hk hf y2_1 ey2_1 z2_hM_A ez2_hM_A
      intro w2 H locs hG hM hSw2
      intro ls hl
      replace ey2_1 := ey2_1.symm; subst ey2_1
      replace ez2_hM_A := ez2_hM_A.symm; subst ez2_hM_A
      refine lv_iload_n hx hb dX8_passNight_2 rfl (lv_at hl 1 rfl) ?_
      refine lv_bipush (v := 6) hx hb dX8_passNight_3 (by decide) ?_
      refine lv_icmp_ge (tgt := 90) hx hb dX8_passNight_5 (by decide) (fun c5 => ?_) (fun c5 => ?_)
      · skip
        have hk9 : k = 6 := by have := xb_le (k := k) (n := 6) (by omega) (by decide) c5; omega
        rw [hQ]
        exact xg_emv S hr hlk hK hG ⟨(by rw [show (em_nik A (I 11) 6) = (em_nik A (I 11) k) from (by skip; rw [hk9])]; exact hM), hSw2⟩ dX8_passNight_90
      · skip
        have hk9 : k < 6 := xb_lt (by omega) (by decide) c5
        refine lv_aload_n hx hb dX8_passNight_8 rfl (lv_at hl 0 rfl) ?_
        refine xg_get (C := RX8) (T := TX8) (N := 46) S hK hG (fun w h => List.mem_cons_of_mem _ (List.mem_append_right _ (h))) b hM.1 rfl 6 (by decide) k0 (fun _ h9 => h9) rfl dX8_passNight_9 ?_
        refine lv_iload_n hx hb dX8_passNight_12 rfl (lv_at hl 1 rfl) ?_
        refine xg_ald S hK hG (b + 6) (show w2[b + 6]? = some (ad (b + 6), .inl (cI, 6, .inl ((em_nik A (I 11) k) 5))) from hM.2.1 5 (by decide)) (i := nI k) (by first | assumption | exact vp_in_nI (by omega) (by decide)) dX8_passNight_13 ?_
        have jn33_1 : ∀ v1 : Int32, v1 = (if 0 ≤ (((em_nik A (I 11) k) 5) ((nI k).toNatClampNeg)) then ((em_nik A (I 11) k) 5) ((nI k).toNatClampNeg) else -(((em_nik A (I 11) k) 5) ((nI k).toNatClampNeg))) → W pg l en ({ frames := 1, cells := 0, slots := 0, locals := 21 } : Room) s m ([.ref (ad b)] : List Value).toArray below meth c H locs 0 0 Q (F0 m 33 ls [.int v1]) := by
          intro v1 ev1
          replace ev1 := ev1.symm
          refine lv_istore_n (lv' := [(2, .int v1), (0, .ref (ad b)), (1, .int (nI k))]) hx hb dX8_passNight_33 rfl hl (by decide) rfl (fun ls hl => ?_)
          refine lv_iconst (v := 0) hx hb dX8_passNight_34 (by decide) ?_
          refine lv_iload_n hx hb dX8_passNight_35 rfl (lv_at hl 0 rfl) ?_
          refine lv_aload_n hx hb dX8_passNight_36 rfl (lv_at hl 1 rfl) ?_
          refine xg_get (C := RX8) (T := TX8) (N := 46) S hK hG (fun w h => List.mem_cons_of_mem _ (List.mem_append_right _ (h))) b hM.1 rfl 11 (by decide) k1 (fun _ h9 => h9) rfl dX8_passNight_37 ?_
          refine lv_isub hx hb dX8_passNight_40 ?_
          refine xg_ri (va_runS (As := [.int 0, .int (v1 - (I 11))]) (rest := []) S (mX8_most l D cI cZ bs ad w2 0 (v1 - (I 11))) (va_cwS 2 hts gX8_passNight_X8_most rfl rfl rfl (by decide +kernel) ⟨Nat.le_of_ble_eq_true rfl, Nat.le_of_ble_eq_true rfl⟩) (xg_preS hK hG) rfl rfl hl.1 rfl (lv_room (Nat.le_of_ble_eq_true rfl)) dX8_passNight_41 ⟨Nat.zero_le _, Nat.zero_le _⟩) (fun r2 hr2 => ?_)
          replace hr2 := hr2.symm; subst hr2
          refine lv_topi (fun x3 ex3 => ?_)
          replace ex3 := ex3.symm
          refine lv_istore_n (lv' := [(2, .int x3), (0, .ref (ad b)), (1, .int (nI k))]) hx hb dX8_passNight_44 rfl hl (by decide) rfl (fun ls hl => ?_)
          refine lv_aload_n hx hb dX8_passNight_45 rfl (lv_at hl 1 rfl) ?_
          refine xg_get (C := RX8) (T := TX8) (N := 46) S hK hG (fun w h => List.mem_cons_of_mem _ (List.mem_append_right _ (h))) b hM.1 rfl 6 (by decide) k0 (fun _ h9 => h9) rfl dX8_passNight_46 ?_
          refine lv_iload_n hx hb dX8_passNight_49 rfl (lv_at hl 2 rfl) ?_
          refine lv_aload_n hx hb dX8_passNight_50 rfl (lv_at hl 1 rfl) ?_
          refine xg_get (C := RX8) (T := TX8) (N := 46) S hK hG (fun w h => List.mem_cons_of_mem _ (List.mem_append_right _ (h))) b hM.1 rfl 6 (by decide) k0 (fun _ h9 => h9) rfl dX8_passNight_51 ?_
          refine lv_iload_n hx hb dX8_passNight_54 rfl (lv_at hl 2 rfl) ?_
          refine xg_ald S hK hG (b + 6) (show w2[b + 6]? = some (ad (b + 6), .inl (cI, 6, .inl ((em_nik A (I 11) k) 5))) from hM.2.1 5 (by decide)) (i := nI k) (by first | assumption | exact vp_in_nI (by omega) (by decide)) dX8_passNight_55 ?_
          have jn65_4 : ∀ v4 : Int32, v4 = (if 0 ≤ (((em_nik A (I 11) k) 5) ((nI k).toNatClampNeg)) then x3 else -x3) → W pg l en ({ frames := 1, cells := 0, slots := 0, locals := 21 } : Room) s m ([.ref (ad b)] : List Value).toArray below meth c H locs 0 0 Q (F0 m 65 ls [.int v4, .int (nI k), .ref (ad (b + 6))]) := by
            intro v4 ev4
            replace ev4 := ev4.symm
            refine xg_ast2 S hK hG (b + 6) (show w2[b + 6]? = some (ad (b + 6), .inl (cI, 6, .inl ((em_nik A (I 11) k) 5))) from hM.2.1 5 (by decide)) (i := nI k) (x := v4) (by first | assumption | exact vp_in_nI (by omega) (by decide)) dX8_passNight_65 (fun w5 H locs hw5 hG => ?_)
            have hs6 : xv_S w2 w5 (b + 6) 1 := by rw [hw5]; exact xv_S.set (by omega) (by omega)
            obtain ⟨A7, eA7⟩ : ∃ zz : Nat → Nat → Int32, (va_up (em_nik A (I 11) k) 5 (upd ((em_nik A (I 11) k) 5) ((nI k).toNatClampNeg) v4)) = zz := ⟨_, rfl⟩
            have hM : xv_M cI cZ ad w5 b A7 I L := by rw [hw5, ← eA7]; exact hM.row 5 (by decide)
            have hSw5 : xv_S ws w5 b 24 := hSw2.trans (hs6.mono (by omega) (by omega))
            refine lv_aload_n hx hb dX8_passNight_66 rfl (lv_at hl 1 rfl) ?_
            refine xg_get (C := RX8) (T := TX8) (N := 46) S hK hG (fun w h => List.mem_cons_of_mem _ (List.mem_append_right _ (h))) b hM.1 rfl 7 (by decide) k2 (fun _ h9 => h9) rfl dX8_passNight_67 ?_
            refine lv_iload_n hx hb dX8_passNight_70 rfl (lv_at hl 2 rfl) ?_
            refine lv_iconst (v := 0) hx hb dX8_passNight_71 (by decide) ?_
            refine lv_aload_n hx hb dX8_passNight_72 rfl (lv_at hl 1 rfl) ?_
            refine xg_get (C := RX8) (T := TX8) (N := 46) S hK hG (fun w h => List.mem_cons_of_mem _ (List.mem_append_right _ (h))) b hM.1 rfl 7 (by decide) k2 (fun _ h9 => h9) rfl dX8_passNight_73 ?_
            refine lv_iload_n hx hb dX8_passNight_76 rfl (lv_at hl 2 rfl) ?_
            refine xg_ald S hK hG (b + 7) (show w5[b + 7]? = some (ad (b + 7), .inl (cI, 6, .inl (A7 6))) from hM.2.1 6 (by decide)) (i := nI k) (by first | assumption | exact vp_in_nI (by omega) (by decide)) dX8_passNight_77 ?_
            refine lv_iconst (v := 1) hx hb dX8_passNight_78 (by decide) ?_
            refine lv_isub hx hb dX8_passNight_79 ?_
            refine xg_ri (va_runS (As := [.int 0, .int (((A7 6) ((nI k).toNatClampNeg)) - 1)]) (rest := [.int (nI k), .ref (ad (b + 7))]) S (mX8_most l D cI cZ bs ad w5 0 (((A7 6) ((nI k).toNatClampNeg)) - 1)) (va_cwS 2 hts gX8_passNight_X8_most rfl rfl rfl (by decide +kernel) ⟨Nat.le_of_ble_eq_true rfl, Nat.le_of_ble_eq_true rfl⟩) (xg_preS hK hG) rfl rfl hl.1 rfl (lv_room (Nat.le_of_ble_eq_true rfl)) dX8_passNight_80 ⟨Nat.zero_le _, Nat.zero_le _⟩) (fun r8 hr8 => ?_)
            replace hr8 := hr8.symm; subst hr8
            refine xg_ast2 S hK hG (b + 7) (show w5[b + 7]? = some (ad (b + 7), .inl (cI, 6, .inl (A7 6))) from hM.2.1 6 (by decide)) (i := nI k) (x := em_mst 0 (((A7 6) ((nI k).toNatClampNeg)) - 1)) (by first | assumption | exact vp_in_nI (by omega) (by decide)) dX8_passNight_83 (fun w9 H locs hw9 hG => ?_)
            have hs10 : xv_S w5 w9 (b + 7) 1 := by rw [hw9]; exact xv_S.set (by omega) (by omega)
            obtain ⟨A11, eA11⟩ : ∃ zz : Nat → Nat → Int32, (va_up A7 6 (upd (A7 6) ((nI k).toNatClampNeg) (em_mst 0 (((A7 6) ((nI k).toNatClampNeg)) - 1)))) = zz := ⟨_, rfl⟩
            have hM : xv_M cI cZ ad w9 b A11 I L := by rw [hw9, ← eA11]; exact hM.row 6 (by decide)
            have hSw9 : xv_S ws w9 b 24 := hSw5.trans (hs10.mono (by omega) (by omega))
            obtain ⟨x12, ex12⟩ : ∃ zz : Int32, ((nI k) + 1) = zz := ⟨_, rfl⟩
            refine lv_iinc (v := x12) (lv' := [(1, .int x12), (2, .int x3), (0, .ref (ad b))]) hx hb dX8_passNight_84 hl (k := 2) rfl (by rw [← ex12]; rfl) (by decide) rfl (fun ls hl => ?_)
            refine lv_goto (tgt := 2) hx hb dX8_passNight_87 (by decide) ?_
            exact ih (k + 1) (by omega) (by omega) x12 (by subst ev1 ex3 ev4 eA7 eA11 ex12; exact nI_1 k) A11 (by subst ev1 ex3 ev4 eA7 eA11 ex12; simp [em_nik, em_ni2, em_ni1, em_ab, em_fa2, va_up_self, va_up_ne, xb_cl (show k < 2 ^ 31 by omega)]) w9 _ _ hG hM hSw9 ls (lv_sub hl [2, 0] rfl)
          refine lv_if_ge (tgt := 64) hx hb dX8_passNight_56 (by decide) (fun c56 => ?_) (fun c56 => ?_)
          · skip
            refine lv_iload_n hx hb dX8_passNight_64 rfl (lv_at hl 0 rfl) ?_
            exact jn65_4 _ (by rw [if_pos c56])
          · skip
            refine lv_iload_n hx hb dX8_passNight_59 rfl (lv_at hl 0 rfl) ?_
            refine lv_ineg hx hb dX8_passNight_60 ?_
            refine lv_goto (tgt := 65) hx hb dX8_passNight_61 (by decide) ?_
            exact jn65_4 _ (by rw [if_neg c56])
        refine lv_if_ge (tgt := 27) hx hb dX8_passNight_14 (by decide) (fun c14 => ?_) (fun c14 => ?_)
        · skip
          refine lv_aload_n hx hb dX8_passNight_27 rfl (lv_at hl 0 rfl) ?_
          refine xg_get (C := RX8) (T := TX8) (N := 46) S hK hG (fun w h => List.mem_cons_of_mem _ (List.mem_append_right _ (h))) b hM.1 rfl 6 (by decide) k0 (fun _ h9 => h9) rfl dX8_passNight_28 ?_
          refine lv_iload_n hx hb dX8_passNight_31 rfl (lv_at hl 1 rfl) ?_
          refine xg_ald S hK hG (b + 6) (show w2[b + 6]? = some (ad (b + 6), .inl (cI, 6, .inl ((em_nik A (I 11) k) 5))) from hM.2.1 5 (by decide)) (i := nI k) (by first | assumption | exact vp_in_nI (by omega) (by decide)) dX8_passNight_32 ?_
          exact jn33_1 _ (by rw [if_pos c14])
        · skip
          refine lv_aload_n hx hb dX8_passNight_17 rfl (lv_at hl 0 rfl) ?_
          refine xg_get (C := RX8) (T := TX8) (N := 46) S hK hG (fun w h => List.mem_cons_of_mem _ (List.mem_append_right _ (h))) b hM.1 rfl 6 (by decide) k0 (fun _ h9 => h9) rfl dX8_passNight_18 ?_
          refine lv_iload_n hx hb dX8_passNight_21 rfl (lv_at hl 1 rfl) ?_
          refine xg_ald S hK hG (b + 6) (show w2[b + 6]? = some (ad (b + 6), .inl (cI, 6, .inl ((em_nik A (I 11) k) 5))) from hM.2.1 5 (by decide)) (i := nI k) (by first | assumption | exact vp_in_nI (by omega) (by decide)) dX8_passNight_22 ?_
          refine lv_ineg hx hb dX8_passNight_23 ?_
          refine lv_goto (tgt := 33) hx hb dX8_passNight_24 (by decide) ?_
          exact jn33_1 _ (by rw [if_neg c14])
  exact lp2 7 0 (by omega) (by omega) 0 (by skip; rfl) A (by skip; rfl) ws _ _ hG hM xv_S.rf ls (lv_sub hl [1, 0] rfl)
set_option maxHeartbeats 4000000 in
set_option maxRecDepth 100000 in
theorem mX8_whyNot (l : Launch) (D : va_G) (cI cZ : ClassId) (bs : Nat) (ad : Nat → Nat) (ws : va_W) (b : Nat) (A : Nat → Nat → Int32) (I : Nat → Int32) (L : Int64) (hM : xv_M cI cZ ad ws b A I L) (p : Int32) (p2 : Int32) (y : Int32) : Met l yX8_whyNot wsX8_whyNot ({ frames := 3, cells := 0, slots := 0, locals := 66 } : Room) (va_Pc [.ref (ad b), .int p, .int p2, .int y] (fun U => xg_W D cI cZ bs ws U)) (xg_Ri (fun r : Int32 => r = em_why A I p p2 y)) 0 0 xg_F := by
  refine xg_met cX8_whyNot 4 (some .int) RX8 (by decide) rfl rfl (Nat.le_of_ble_eq_true rfl) ?_
  intro pg en s m below meth c ls S hr hlk hnm hB hl
  have hK := hB.1
  have hG := xg_start hB
  obtain ⟨hx, hb, hml, hown, hts⟩ := id S
  have hl : lv_has ls 4 [(0, .ref (ad b)), (1, .int p), (2, .int p2), (3, .int y)] := hl
  obtain ⟨Q, hQ⟩ : ∃ Q, Q = MQ below (xg_Ri (fun r : Int32 => r = em_why A I p p2 y)) ([.ref (ad b), .int p, .int p2, .int y] : List Value).toArray s 0 0 xg_F := ⟨_, rfl⟩
  rw [← hQ]
  have k0 := hts (.fieldLink RX8 28 "DareBridgeModel" "nights" "[I") (List.mem_of_getElem? (i := 1) rfl)
  have k1 := hts (.fieldLink RX8 22 "DareBridgeModel" "high" "[I") (List.mem_of_getElem? (i := 2) rfl)
  have k2 := hts (.fieldLink RX8 80 "DareBridgeModel" "step" "I") (List.mem_of_getElem? (i := 3) rfl)
  refine lv_aload_n hx hb dX8_whyNot_0 rfl (lv_at hl 0 rfl) ?_
  refine lv_iload_n hx hb dX8_whyNot_1 rfl (lv_at hl 1 rfl) ?_
  refine xg_ri (va_runV (As := [.int p]) (rest := []) S (mX8_isThere l D cI cZ bs ad ws b A I L hM p) (cwV 1 hts gX8_whyNot_X8_isThere rfl rfl rfl (by decide +kernel) ⟨Nat.le_of_ble_eq_true rfl, Nat.le_of_ble_eq_true rfl⟩) (xg_preV hK hG b hM.1 rfl rfl) rfl rfl hl.1 rfl (lv_room (Nat.le_of_ble_eq_true rfl)) dX8_whyNot_2 ⟨Nat.zero_le _, Nat.zero_le _⟩) (fun r1 hr1 => ?_)
  replace hr1 := hr1.symm; subst hr1
  refine xb_ifeq (tgt := 21) S dX8_whyNot_5 (by decide) (fun c5 => ?_) (fun c5 => ?_)
  · skip
    refine lv_iconst (v := 1) hx hb dX8_whyNot_21 (by decide) ?_
    rw [hQ]
    exact xg_eri S hr hlk (by skip; simp [em_why, c5]) dX8_whyNot_22
  · skip
    refine lv_aload_n hx hb dX8_whyNot_8 rfl (lv_at hl 0 rfl) ?_
    refine lv_iload_n hx hb dX8_whyNot_9 rfl (lv_at hl 2 rfl) ?_
    refine xg_ri (va_runV (As := [.int p2]) (rest := []) S (mX8_isThere l D cI cZ bs ad ws b A I L hM p2) (cwV 1 hts gX8_whyNot_X8_isThere rfl rfl rfl (by decide +kernel) ⟨Nat.le_of_ble_eq_true rfl, Nat.le_of_ble_eq_true rfl⟩) (xg_preV hK hG b hM.1 rfl rfl) rfl rfl hl.1 rfl (lv_room (Nat.le_of_ble_eq_true rfl)) dX8_whyNot_10 ⟨Nat.zero_le _, Nat.zero_le _⟩) (fun r2 hr2 => ?_)
    replace hr2 := hr2.symm; subst hr2
    refine xb_ifeq (tgt := 21) S dX8_whyNot_13 (by decide) (fun c13 => ?_) (fun c13 => ?_)
    · skip
      refine lv_iconst (v := 1) hx hb dX8_whyNot_21 (by decide) ?_
      rw [hQ]
      exact xg_eri S hr hlk (by skip; simp [em_why, c5, c13]) dX8_whyNot_22
    · skip
      have hp := em_isT_in c5
      have hp2 := em_isT_in c13
      refine lv_iload_n hx hb dX8_whyNot_16 rfl (lv_at hl 1 rfl) ?_
      refine lv_iload_n hx hb dX8_whyNot_17 rfl (lv_at hl 2 rfl) ?_
      refine lv_icmp_ne (tgt := 23) hx hb dX8_whyNot_18 (by decide) (fun c18 => ?_) (fun c18 => ?_)
      · skip
        refine lv_aload_n hx hb dX8_whyNot_23 rfl (lv_at hl 0 rfl) ?_
        refine xg_get (C := RX8) (T := TX8) (N := 46) S hK hG (fun w h => List.mem_cons_of_mem _ (List.mem_append_right _ (h))) b hM.1 rfl 7 (by decide) k0 (fun _ h9 => h9) rfl dX8_whyNot_24 ?_
        refine lv_iload_n hx hb dX8_whyNot_27 rfl (lv_at hl 1 rfl) ?_
        refine xg_ald S hK hG (b + 7) (show ws[b + 7]? = some (ad (b + 7), .inl (cI, 6, .inl (A 6))) from hM.2.1 6 (by decide)) (i := p) (by first | assumption | exact vp_in_nI (by omega) (by decide)) dX8_whyNot_28 ?_
        refine lv_if_gt (tgt := 41) hx hb dX8_whyNot_29 (by decide) (fun c29 => ?_) (fun c29 => ?_)
        · skip
          refine lv_iconst (v := 2) hx hb dX8_whyNot_41 (by decide) ?_
          rw [hQ]
          exact xg_eri S hr hlk (by skip; simp [em_why, c5, c13, c18, c29]) dX8_whyNot_42
        · skip
          refine lv_aload_n hx hb dX8_whyNot_32 rfl (lv_at hl 0 rfl) ?_
          refine xg_get (C := RX8) (T := TX8) (N := 46) S hK hG (fun w h => List.mem_cons_of_mem _ (List.mem_append_right _ (h))) b hM.1 rfl 7 (by decide) k0 (fun _ h9 => h9) rfl dX8_whyNot_33 ?_
          refine lv_iload_n hx hb dX8_whyNot_36 rfl (lv_at hl 2 rfl) ?_
          refine xg_ald S hK hG (b + 7) (show ws[b + 7]? = some (ad (b + 7), .inl (cI, 6, .inl (A 6))) from hM.2.1 6 (by decide)) (i := p2) (by first | assumption | exact vp_in_nI (by omega) (by decide)) dX8_whyNot_37 ?_
          refine lv_if_le (tgt := 43) hx hb dX8_whyNot_38 (by decide) (fun c38 => ?_) (fun c38 => ?_)
          · skip
            refine lv_iload_n hx hb dX8_whyNot_43 rfl (lv_at hl 3 rfl) ?_
            refine lv_aload_n hx hb dX8_whyNot_44 rfl (lv_at hl 0 rfl) ?_
            refine xg_get (C := RX8) (T := TX8) (N := 46) S hK hG (fun w h => List.mem_cons_of_mem _ (List.mem_append_right _ (h))) b hM.1 rfl 5 (by decide) k1 (fun _ h9 => h9) rfl dX8_whyNot_45 ?_
            refine lv_iload_n hx hb dX8_whyNot_48 rfl (lv_at hl 1 rfl) ?_
            refine xg_ald S hK hG (b + 5) (show ws[b + 5]? = some (ad (b + 5), .inl (cI, 6, .inl (A 4))) from hM.2.1 4 (by decide)) (i := p) (by first | assumption | exact vp_in_nI (by omega) (by decide)) dX8_whyNot_49 ?_
            refine lv_aload_n hx hb dX8_whyNot_50 rfl (lv_at hl 0 rfl) ?_
            refine xg_get (C := RX8) (T := TX8) (N := 46) S hK hG (fun w h => List.mem_cons_of_mem _ (List.mem_append_right _ (h))) b hM.1 rfl 8 (by decide) k2 (fun _ h9 => h9) rfl dX8_whyNot_51 ?_
            refine lv_iadd hx hb dX8_whyNot_54 ?_
            refine lv_icmp_le (tgt := 62) hx hb dX8_whyNot_55 (by decide) (fun c55 => ?_) (fun c55 => ?_)
            · skip
              refine lv_iload_n hx hb dX8_whyNot_62 rfl (lv_at hl 3 rfl) ?_
              refine lv_aload_n hx hb dX8_whyNot_63 rfl (lv_at hl 0 rfl) ?_
              refine xg_get (C := RX8) (T := TX8) (N := 46) S hK hG (fun w h => List.mem_cons_of_mem _ (List.mem_append_right _ (h))) b hM.1 rfl 5 (by decide) k1 (fun _ h9 => h9) rfl dX8_whyNot_64 ?_
              refine lv_iload_n hx hb dX8_whyNot_67 rfl (lv_at hl 2 rfl) ?_
              refine xg_ald S hK hG (b + 5) (show ws[b + 5]? = some (ad (b + 5), .inl (cI, 6, .inl (A 4))) from hM.2.1 4 (by decide)) (i := p2) (by first | assumption | exact vp_in_nI (by omega) (by decide)) dX8_whyNot_68 ?_
              refine lv_icmp_gt (tgt := 76) hx hb dX8_whyNot_69 (by decide) (fun c69 => ?_) (fun c69 => ?_)
              · skip
                refine lv_iconst (v := 0) hx hb dX8_whyNot_76 (by decide) ?_
                rw [hQ]
                exact xg_eri S hr hlk (by skip; simp [em_why, c5, c13, c18, c29, c38, c55, c69]) dX8_whyNot_77
              · skip
                refine lv_iconst (v := 4) hx hb dX8_whyNot_72 (by decide) ?_
                refine lv_goto (tgt := 77) hx hb dX8_whyNot_73 (by decide) ?_
                rw [hQ]
                exact xg_eri S hr hlk (by skip; simp [em_why, c5, c13, c18, c29, c38, c55, c69]) dX8_whyNot_77
            · skip
              refine lv_iconst (v := 3) hx hb dX8_whyNot_58 (by decide) ?_
              refine lv_goto (tgt := 77) hx hb dX8_whyNot_59 (by decide) ?_
              rw [hQ]
              exact xg_eri S hr hlk (by skip; simp [em_why, c5, c13, c18, c29, c38, c55]) dX8_whyNot_77
          · skip
            refine lv_iconst (v := 2) hx hb dX8_whyNot_41 (by decide) ?_
            rw [hQ]
            exact xg_eri S hr hlk (by skip; simp [em_why, c5, c13, c18, c29, c38]) dX8_whyNot_42
      · skip
        refine lv_iconst (v := 1) hx hb dX8_whyNot_21 (by decide) ?_
        rw [hQ]
        exact xg_eri S hr hlk (by skip; simp [em_why, c5, c13, c18]) dX8_whyNot_22
