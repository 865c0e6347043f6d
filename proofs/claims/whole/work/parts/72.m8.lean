set_option maxHeartbeats 4000000 in
set_option maxRecDepth 100000 in
theorem mX8_play (l : Launch) (D : va_G) (cI cZ : ClassId) (bs : Nat) (ad : Nat → Nat) (ws : va_W) (b : Nat) (A : Nat → Nat → Int32) (I : Nat → Int32) (L : Int64) (hM : xv_M cI cZ ad ws b A I L) (i1 : Int32) (p : Int32) (p2 : Int32) (y : Int32) (t5 : Int32) (t6 : Int32) (hi1 : vp_in i1 32) (hp : vp_in p 6) (hp2 : vp_in p2 6) : Met l yX8_play wsX8_play ({ frames := 3, cells := 0, slots := 0, locals := 68 } : Room) (va_Pc [.ref (ad b), .int i1, .int p, .int p2, .int y, .int t5, .int t6] (fun U => xg_W D cI cZ bs ws U)) (va_Qv (fun w : va_W => xv_M cI cZ ad w b (em_plA A I i1.toNatClampNeg p p2 y t5 t6) I L ∧ xv_S ws w b 24) (fun w t => xg_W D cI cZ bs w t) (xg_A bs)) 0 0 (xg_A bs) := by
  refine xg_met cX8_play 13 none RX8 (by decide) rfl rfl (Nat.le_of_ble_eq_true rfl) ?_
  intro pg en s m below meth c ls S hr hlk hnm hB hl
  have hK := hB.1
  have hG := xg_start hB
  obtain ⟨hx, hb, hml, hown, hts⟩ := id S
  have hl : lv_has ls 13 [(0, .ref (ad b)), (1, .int i1), (2, .int p), (3, .int p2), (4, .int y), (5, .int t5), (6, .int t6)] := hl
  obtain ⟨Q, hQ⟩ : ∃ Q, Q = MQ below (va_Qv (fun w : va_W => xv_M cI cZ ad w b (em_plA A I i1.toNatClampNeg p p2 y t5 t6) I L ∧ xv_S ws w b 24) (fun w t => xg_W D cI cZ bs w t) (xg_A bs)) ([.ref (ad b), .int i1, .int p, .int p2, .int y, .int t5, .int t6] : List Value).toArray s 0 0 (xg_A bs) := ⟨_, rfl⟩
  rw [← hQ]
  have k0 := hts (.fieldLink RX8 16 "DareBridgeModel" "pride" "[I") (List.mem_of_getElem? (i := 1) rfl)
  have k1 := hts (.fieldLink RX8 64 "DareBridgeModel" "act" "[I") (List.mem_of_getElem? (i := 2) rfl)
  have k2 := hts (.fieldLink RX8 67 "DareBridgeModel" "toDared" "[I") (List.mem_of_getElem? (i := 3) rfl)
  have k3 := hts (.fieldLink RX8 70 "DareBridgeModel" "toOther" "[I") (List.mem_of_getElem? (i := 4) rfl)
  refine lv_aload_n hx hb dX8_play_0 rfl (lv_at hl 0 rfl) ?_
  refine lv_iload_n hx hb dX8_play_1 rfl (lv_at hl 2 rfl) ?_
  refine lv_iload hx hb dX8_play_2 (lv_at hl 4 rfl) ?_
  refine xg_ri (va_runV (As := [.int p, .int y]) (rest := []) S (mX8_worthDone l D cI cZ bs ad ws b A I L hM p y (by first | assumption | omega)) (cwV 2 hts gX8_play_X8_worthDone rfl rfl rfl (by decide +kernel) ⟨Nat.le_of_ble_eq_true rfl, Nat.le_of_ble_eq_true rfl⟩) (xg_preV hK hG b hM.1 rfl rfl) rfl rfl hl.1 rfl (lv_room (Nat.le_of_ble_eq_true rfl)) dX8_play_4 ⟨Nat.zero_le _, Nat.zero_le _⟩) (fun r1 hr1 => ?_)
  replace hr1 := hr1.symm; subst hr1
  refine lv_iload hx hb dX8_play_7 (lv_at hl 5 rfl) ?_
  refine lv_iadd hx hb dX8_play_9 ?_
  refine lv_topi (fun x2 ex2 => ?_)
  replace ex2 := ex2.symm
  refine lv_istore (lv' := [(7, .int x2), (0, .ref (ad b)), (1, .int i1), (2, .int p), (3, .int p2), (4, .int y), (5, .int t5), (6, .int t6)]) hx hb dX8_play_10 hl (by decide) rfl (fun ls hl => ?_)
  refine lv_aload_n hx hb dX8_play_12 rfl (lv_at hl 1 rfl) ?_
  refine lv_iload_n hx hb dX8_play_13 rfl (lv_at hl 3 rfl) ?_
  refine lv_iload hx hb dX8_play_14 (lv_at hl 5 rfl) ?_
  refine xg_ri (va_runV (As := [.int p, .int y]) (rest := []) S (mX8_worthRefused l D cI cZ bs ad ws b A I L hM p y (by first | assumption | omega)) (cwV 2 hts gX8_play_X8_worthRefused rfl rfl rfl (by decide +kernel) ⟨Nat.le_of_ble_eq_true rfl, Nat.le_of_ble_eq_true rfl⟩) (xg_preV hK hG b hM.1 rfl rfl) rfl rfl hl.1 rfl (lv_room (Nat.le_of_ble_eq_true rfl)) dX8_play_16 ⟨Nat.zero_le _, Nat.zero_le _⟩) (fun r3 hr3 => ?_)
  replace hr3 := hr3.symm; subst hr3
  refine lv_topi (fun x4 ex4 => ?_)
  replace ex4 := ex4.symm
  refine lv_istore (lv' := [(8, .int x4), (7, .int x2), (0, .ref (ad b)), (1, .int i1), (2, .int p), (3, .int p2), (4, .int y), (5, .int t5), (6, .int t6)]) hx hb dX8_play_19 hl (by decide) rfl (fun ls hl => ?_)
  refine lv_aload_n hx hb dX8_play_21 rfl (lv_at hl 2 rfl) ?_
  refine lv_iload_n hx hb dX8_play_22 rfl (lv_at hl 5 rfl) ?_
  refine lv_iload hx hb dX8_play_23 (lv_at hl 6 rfl) ?_
  refine xg_ri (va_runV (As := [.int p2, .int y]) (rest := []) S (mX8_worthDone l D cI cZ bs ad ws b A I L hM p2 y (by first | assumption | omega)) (cwV 2 hts gX8_play_X8_worthDone rfl rfl rfl (by decide +kernel) ⟨Nat.le_of_ble_eq_true rfl, Nat.le_of_ble_eq_true rfl⟩) (xg_preV hK hG b hM.1 rfl rfl) rfl rfl hl.1 rfl (lv_room (Nat.le_of_ble_eq_true rfl)) dX8_play_25 ⟨Nat.zero_le _, Nat.zero_le _⟩) (fun r5 hr5 => ?_)
  replace hr5 := hr5.symm; subst hr5
  refine lv_iload hx hb dX8_play_28 (lv_at hl 8 rfl) ?_
  refine lv_iadd hx hb dX8_play_30 ?_
  refine lv_topi (fun x6 ex6 => ?_)
  replace ex6 := ex6.symm
  refine lv_istore (lv' := [(9, .int x6), (8, .int x4), (7, .int x2), (0, .ref (ad b)), (1, .int i1), (2, .int p), (3, .int p2), (4, .int y), (5, .int t5), (6, .int t6)]) hx hb dX8_play_31 hl (by decide) rfl (fun ls hl => ?_)
  refine lv_bipush (v := (-10)) hx hb dX8_play_33 (by decide) ?_
  refine lv_aload_n hx hb dX8_play_35 rfl (lv_at hl 3 rfl) ?_
  refine xg_get (C := RX8) (T := TX8) (N := 46) S hK hG (fun w h => List.mem_cons_of_mem _ (List.mem_append_right _ (h))) b hM.1 rfl 3 (by decide) k0 (fun _ h9 => h9) rfl dX8_play_36 ?_
  refine lv_iload_n hx hb dX8_play_39 rfl (lv_at hl 6 rfl) ?_
  refine xg_ald S hK hG (b + 3) (show ws[b + 3]? = some (ad (b + 3), .inl (cI, 6, .inl (A 2))) from hM.2.1 2 (by decide)) (i := p2) (by first | assumption | exact vp_in_nI (by omega) (by decide)) dX8_play_40 ?_
  refine lv_imul hx hb dX8_play_41 ?_
  refine lv_iload hx hb dX8_play_42 (lv_at hl 7 rfl) ?_
  refine lv_imul hx hb dX8_play_44 ?_
  refine lv_topi (fun x7 ex7 => ?_)
  replace ex7 := ex7.symm
  refine lv_istore (lv' := [(10, .int x7), (9, .int x6), (8, .int x4), (7, .int x2), (0, .ref (ad b)), (1, .int i1), (2, .int p), (3, .int p2), (4, .int y), (5, .int t5), (6, .int t6)]) hx hb dX8_play_45 hl (by decide) rfl (fun ls hl => ?_)
  refine lv_iload hx hb dX8_play_47 (lv_at hl 1 rfl) ?_
  refine lv_iload hx hb dX8_play_49 (lv_at hl 0 rfl) ?_
  have jn59_8 : ∀ v8 : Int32, v8 = (if x6 < x7 then 0 else 1) → W pg l en ({ frames := 3, cells := 0, slots := 0, locals := 68 } : Room) s m ([.ref (ad b), .int i1, .int p, .int p2, .int y, .int t5, .int t6] : List Value).toArray below meth c s.heap [] 0 0 Q (F0 m 59 ls [.int v8]) := by
    intro v8 ev8
    replace ev8 := ev8.symm
    refine lv_istore (lv' := [(11, .int v8), (10, .int x7), (9, .int x6), (8, .int x4), (7, .int x2), (0, .ref (ad b)), (1, .int i1), (2, .int p), (3, .int p2), (4, .int y), (5, .int t5), (6, .int t6)]) hx hb dX8_play_59 hl (by decide) rfl (fun ls hl => ?_)
    refine lv_iload hx hb dX8_play_61 (lv_at hl 0 rfl) ?_
    have jn82_9 : ∀ v9 : Int32, v9 = (if v8 = 0 then (5 * ((A 2) p.toNatClampNeg)) * y else x2) → W pg l en ({ frames := 3, cells := 0, slots := 0, locals := 68 } : Room) s m ([.ref (ad b), .int i1, .int p, .int p2, .int y, .int t5, .int t6] : List Value).toArray below meth c s.heap [] 0 0 Q (F0 m 82 ls [.int v9]) := by
      intro v9 ev9
      replace ev9 := ev9.symm
      refine lv_istore (lv' := [(12, .int v9), (11, .int v8), (10, .int x7), (9, .int x6), (8, .int x4), (7, .int x2), (0, .ref (ad b)), (1, .int i1), (2, .int p), (3, .int p2), (4, .int y), (5, .int t5), (6, .int t6)]) hx hb dX8_play_82 hl (by decide) rfl (fun ls hl => ?_)
      refine lv_aload_n hx hb dX8_play_84 rfl (lv_at hl 6 rfl) ?_
      refine xg_get (C := RX8) (T := TX8) (N := 46) S hK hG (fun w h => List.mem_cons_of_mem _ (List.mem_append_right _ (h))) b hM.1 rfl 39 (by decide) k1 (fun _ h9 => h9) rfl dX8_play_85 ?_
      refine lv_iload_n hx hb dX8_play_88 rfl (lv_at hl 7 rfl) ?_
      refine lv_iload hx hb dX8_play_89 (lv_at hl 5 rfl) ?_
      refine lv_iload hx hb dX8_play_91 (lv_at hl 4 rfl) ?_
      have jn119_10 : ∀ v10 : Int32, v10 = (if x2 < x4 then if x4 < v9 then 2 else 1 else if x2 < v9 then if x4 < v9 then 2 else 1 else 0) → W pg l en ({ frames := 3, cells := 0, slots := 0, locals := 68 } : Room) s m ([.ref (ad b), .int i1, .int p, .int p2, .int y, .int t5, .int t6] : List Value).toArray below meth c s.heap [] 0 0 Q (F0 m 119 ls [.int v10, .int i1, .ref (ad (b + 19))]) := by
        intro v10 ev10
        replace ev10 := ev10.symm
        refine xg_ast2 S hK hG (b + 19) (show ws[b + 19]? = some (ad (b + 19), .inl (cI, 32, .inl (A 18))) from hM.2.1 18 (by decide)) (i := i1) (x := v10) (by first | assumption | exact vp_in_nI (by omega) (by decide)) dX8_play_119 (fun w11 H locs hw11 hG => ?_)
        have hs12 : xv_S ws w11 (b + 19) 1 := by rw [hw11]; exact xv_S.set (by omega) (by omega)
        obtain ⟨A13, eA13⟩ : ∃ zz : Nat → Nat → Int32, (va_up A 18 (upd (A 18) i1.toNatClampNeg v10)) = zz := ⟨_, rfl⟩
        have hM : xv_M cI cZ ad w11 b A13 I L := by rw [hw11, ← eA13]; exact hM.row 18 (by decide)
        have hSw11 : xv_S ws w11 b 24 := hs12.mono (by omega) (by omega)
        refine lv_aload_n hx hb dX8_play_120 rfl (lv_at hl 6 rfl) ?_
        refine xg_get (C := RX8) (T := TX8) (N := 46) S hK hG (fun w h => List.mem_cons_of_mem _ (List.mem_append_right _ (h))) b hM.1 rfl 40 (by decide) k2 (fun _ h9 => h9) rfl dX8_play_121 ?_
        refine lv_iload_n hx hb dX8_play_124 rfl (lv_at hl 7 rfl) ?_
        refine lv_aload_n hx hb dX8_play_125 rfl (lv_at hl 6 rfl) ?_
        refine xg_get (C := RX8) (T := TX8) (N := 46) S hK hG (fun w h => List.mem_cons_of_mem _ (List.mem_append_right _ (h))) b hM.1 rfl 39 (by decide) k1 (fun _ h9 => h9) rfl dX8_play_126 ?_
        refine lv_iload_n hx hb dX8_play_129 rfl (lv_at hl 7 rfl) ?_
        refine xg_ald S hK hG (b + 19) (show w11[b + 19]? = some (ad (b + 19), .inl (cI, 32, .inl (A13 18))) from hM.2.1 18 (by decide)) (i := i1) (by first | assumption | exact vp_in_nI (by omega) (by decide)) dX8_play_130 ?_
        have jn156_14 : ∀ v14 : Int32, v14 = (if ((A13 18) i1.toNatClampNeg) = 0 then x2 else if ((A13 18) i1.toNatClampNeg) = 1 then x4 else v9) → W pg l en ({ frames := 3, cells := 0, slots := 0, locals := 68 } : Room) s m ([.ref (ad b), .int i1, .int p, .int p2, .int y, .int t5, .int t6] : List Value).toArray below meth c H locs 0 0 Q (F0 m 156 ls [.int v14, .int i1, .ref (ad (b + 20))]) := by
          intro v14 ev14
          replace ev14 := ev14.symm
          refine xg_ast2 S hK hG (b + 20) (show w11[b + 20]? = some (ad (b + 20), .inl (cI, 32, .inl (A13 19))) from hM.2.1 19 (by decide)) (i := i1) (x := v14) (by first | assumption | exact vp_in_nI (by omega) (by decide)) dX8_play_156 (fun w15 H locs hw15 hG => ?_)
          have hs16 : xv_S w11 w15 (b + 20) 1 := by rw [hw15]; exact xv_S.set (by omega) (by omega)
          obtain ⟨A17, eA17⟩ : ∃ zz : Nat → Nat → Int32, (va_up A13 19 (upd (A13 19) i1.toNatClampNeg v14)) = zz := ⟨_, rfl⟩
          have hM : xv_M cI cZ ad w15 b A17 I L := by rw [hw15, ← eA17]; exact hM.row 19 (by decide)
          have hSw15 : xv_S ws w15 b 24 := hSw11.trans (hs16.mono (by omega) (by omega))
          refine lv_aload_n hx hb dX8_play_157 rfl (lv_at hl 6 rfl) ?_
          refine xg_get (C := RX8) (T := TX8) (N := 46) S hK hG (fun w h => List.mem_cons_of_mem _ (List.mem_append_right _ (h))) b hM.1 rfl 41 (by decide) k3 (fun _ h9 => h9) rfl dX8_play_158 ?_
          refine lv_iload_n hx hb dX8_play_161 rfl (lv_at hl 7 rfl) ?_
          refine lv_aload_n hx hb dX8_play_162 rfl (lv_at hl 6 rfl) ?_
          refine xg_get (C := RX8) (T := TX8) (N := 46) S hK hG (fun w h => List.mem_cons_of_mem _ (List.mem_append_right _ (h))) b hM.1 rfl 39 (by decide) k1 (fun _ h9 => h9) rfl dX8_play_163 ?_
          refine lv_iload_n hx hb dX8_play_166 rfl (lv_at hl 7 rfl) ?_
          refine xg_ald S hK hG (b + 19) (show w15[b + 19]? = some (ad (b + 19), .inl (cI, 32, .inl (A17 18))) from hM.2.1 18 (by decide)) (i := i1) (by first | assumption | exact vp_in_nI (by omega) (by decide)) dX8_play_167 ?_
          have jn202_18 : ∀ v18 : Int32, v18 = (if ((A17 18) i1.toNatClampNeg) = 0 then t6 else if ((A17 18) i1.toNatClampNeg) = 1 then 0 else if v8 = 0 then x7 else x6) → W pg l en ({ frames := 3, cells := 0, slots := 0, locals := 68 } : Room) s m ([.ref (ad b), .int i1, .int p, .int p2, .int y, .int t5, .int t6] : List Value).toArray below meth c H locs 0 0 Q (F0 m 202 ls [.int v18, .int i1, .ref (ad (b + 21))]) := by
            intro v18 ev18
            replace ev18 := ev18.symm
            refine xg_ast2 S hK hG (b + 21) (show w15[b + 21]? = some (ad (b + 21), .inl (cI, 32, .inl (A17 20))) from hM.2.1 20 (by decide)) (i := i1) (x := v18) (by first | assumption | exact vp_in_nI (by omega) (by decide)) dX8_play_202 (fun w19 H locs hw19 hG => ?_)
            have hs20 : xv_S w15 w19 (b + 21) 1 := by rw [hw19]; exact xv_S.set (by omega) (by omega)
            obtain ⟨A21, eA21⟩ : ∃ zz : Nat → Nat → Int32, (va_up A17 20 (upd (A17 20) i1.toNatClampNeg v18)) = zz := ⟨_, rfl⟩
            have hM : xv_M cI cZ ad w19 b A21 I L := by rw [hw19, ← eA21]; exact hM.row 20 (by decide)
            have hSw19 : xv_S ws w19 b 24 := hSw15.trans (hs20.mono (by omega) (by omega))
            rw [hQ]
            exact xg_emv S hr hlk hK hG ⟨(by rw [show (em_plA A I i1.toNatClampNeg p p2 y t5 t6) = A21 from (by subst ex2 ex4 ex6 ex7 ev8 ev9 ev10 eA13 ev14 eA17 ev18 eA21; unfold em_plA em_pl1 em_pl2 em_pl0 em_plB em_plG em_plD em_plR em_plQ; simp only [va_up_self, va_up_ne, upd, if_true, ne_eq, Nat.reduceEqDiff, not_false_eq_true]; try rfl)]; exact hM), hSw19⟩ dX8_play_203
          refine lv_if_ne (tgt := 176) hx hb dX8_play_168 (by decide) (fun c168 => ?_) (fun c168 => ?_)
          · skip
            refine lv_aload_n hx hb dX8_play_176 rfl (lv_at hl 6 rfl) ?_
            refine xg_get (C := RX8) (T := TX8) (N := 46) S hK hG (fun w h => List.mem_cons_of_mem _ (List.mem_append_right _ (h))) b hM.1 rfl 39 (by decide) k1 (fun _ h9 => h9) rfl dX8_play_177 ?_
            refine lv_iload_n hx hb dX8_play_180 rfl (lv_at hl 7 rfl) ?_
            refine xg_ald S hK hG (b + 19) (show w15[b + 19]? = some (ad (b + 19), .inl (cI, 32, .inl (A17 18))) from hM.2.1 18 (by decide)) (i := i1) (by first | assumption | exact vp_in_nI (by omega) (by decide)) dX8_play_181 ?_
            refine lv_iconst (v := 1) hx hb dX8_play_182 (by decide) ?_
            refine lv_icmp_ne (tgt := 190) hx hb dX8_play_183 (by decide) (fun c183 => ?_) (fun c183 => ?_)
            · skip
              refine lv_iload hx hb dX8_play_190 (lv_at hl 1 rfl) ?_
              refine lv_if_eq (tgt := 200) hx hb dX8_play_192 (by decide) (fun c192 => ?_) (fun c192 => ?_)
              · skip
                refine lv_iload hx hb dX8_play_200 (lv_at hl 2 rfl) ?_
                exact jn202_18 _ (by rw [if_neg c168]; rw [if_neg c183]; rw [if_pos c192])
              · skip
                refine lv_iload hx hb dX8_play_195 (lv_at hl 3 rfl) ?_
                refine lv_goto (tgt := 202) hx hb dX8_play_197 (by decide) ?_
                exact jn202_18 _ (by rw [if_neg c168]; rw [if_neg c183]; rw [if_neg c192])
            · skip
              refine lv_iconst (v := 0) hx hb dX8_play_186 (by decide) ?_
              refine lv_goto (tgt := 202) hx hb dX8_play_187 (by decide) ?_
              exact jn202_18 _ (by rw [if_neg c168]; rw [if_pos c183])
          · skip
            refine lv_iload hx hb dX8_play_171 (lv_at hl 12 rfl) ?_
            refine lv_goto (tgt := 202) hx hb dX8_play_173 (by decide) ?_
            exact jn202_18 _ (by rw [if_pos c168])
        refine lv_if_ne (tgt := 139) hx hb dX8_play_131 (by decide) (fun c131 => ?_) (fun c131 => ?_)
        · skip
          refine lv_aload_n hx hb dX8_play_139 rfl (lv_at hl 6 rfl) ?_
          refine xg_get (C := RX8) (T := TX8) (N := 46) S hK hG (fun w h => List.mem_cons_of_mem _ (List.mem_append_right _ (h))) b hM.1 rfl 39 (by decide) k1 (fun _ h9 => h9) rfl dX8_play_140 ?_
          refine lv_iload_n hx hb dX8_play_143 rfl (lv_at hl 7 rfl) ?_
          refine xg_ald S hK hG (b + 19) (show w11[b + 19]? = some (ad (b + 19), .inl (cI, 32, .inl (A13 18))) from hM.2.1 18 (by decide)) (i := i1) (by first | assumption | exact vp_in_nI (by omega) (by decide)) dX8_play_144 ?_
          refine lv_iconst (v := 1) hx hb dX8_play_145 (by decide) ?_
          refine lv_icmp_ne (tgt := 154) hx hb dX8_play_146 (by decide) (fun c146 => ?_) (fun c146 => ?_)
          · skip
            refine lv_iload hx hb dX8_play_154 (lv_at hl 0 rfl) ?_
            exact jn156_14 _ (by rw [if_neg c131]; rw [if_neg c146])
          · skip
            refine lv_iload hx hb dX8_play_149 (lv_at hl 4 rfl) ?_
            refine lv_goto (tgt := 156) hx hb dX8_play_151 (by decide) ?_
            exact jn156_14 _ (by rw [if_neg c131]; rw [if_pos c146])
        · skip
          refine lv_iload hx hb dX8_play_134 (lv_at hl 5 rfl) ?_
          refine lv_goto (tgt := 156) hx hb dX8_play_136 (by decide) ?_
          exact jn156_14 _ (by rw [if_pos c131])
      refine lv_icmp_lt (tgt := 107) hx hb dX8_play_93 (by decide) (fun c93 => ?_) (fun c93 => ?_)
      · skip
        refine lv_iload hx hb dX8_play_107 (lv_at hl 4 rfl) ?_
        refine lv_iload hx hb dX8_play_109 (lv_at hl 0 rfl) ?_
        refine lv_icmp_lt (tgt := 118) hx hb dX8_play_111 (by decide) (fun c111 => ?_) (fun c111 => ?_)
        · skip
          refine lv_iconst (v := 2) hx hb dX8_play_118 (by decide) ?_
          exact jn119_10 _ (by rw [if_pos c93]; rw [if_pos c111])
        · skip
          refine lv_iconst (v := 1) hx hb dX8_play_114 (by decide) ?_
          refine lv_goto (tgt := 119) hx hb dX8_play_115 (by decide) ?_
          exact jn119_10 _ (by rw [if_pos c93]; rw [if_neg c111])
      · skip
        refine lv_iload hx hb dX8_play_96 (lv_at hl 5 rfl) ?_
        refine lv_iload hx hb dX8_play_98 (lv_at hl 0 rfl) ?_
        refine lv_icmp_lt (tgt := 107) hx hb dX8_play_100 (by decide) (fun c100 => ?_) (fun c100 => ?_)
        · skip
          refine lv_iload hx hb dX8_play_107 (lv_at hl 4 rfl) ?_
          refine lv_iload hx hb dX8_play_109 (lv_at hl 0 rfl) ?_
          refine lv_icmp_lt (tgt := 118) hx hb dX8_play_111 (by decide) (fun c111 => ?_) (fun c111 => ?_)
          · skip
            refine lv_iconst (v := 2) hx hb dX8_play_118 (by decide) ?_
            exact jn119_10 _ (by rw [if_neg c93]; rw [if_pos c100]; rw [if_pos c111])
          · skip
            refine lv_iconst (v := 1) hx hb dX8_play_114 (by decide) ?_
            refine lv_goto (tgt := 119) hx hb dX8_play_115 (by decide) ?_
            exact jn119_10 _ (by rw [if_neg c93]; rw [if_pos c100]; rw [if_neg c111])
        · skip
          refine lv_iconst (v := 0) hx hb dX8_play_103 (by decide) ?_
          refine lv_goto (tgt := 119) hx hb dX8_play_104 (by decide) ?_
          exact jn119_10 _ (by rw [if_neg c93]; rw [if_neg c100])
    refine lv_if_eq (tgt := 71) hx hb dX8_play_63 (by decide) (fun c63 => ?_) (fun c63 => ?_)
    · skip
      refine lv_iconst (v := 5) hx hb dX8_play_71 (by decide) ?_
      refine lv_aload_n hx hb dX8_play_72 rfl (lv_at hl 5 rfl) ?_
      refine xg_get (C := RX8) (T := TX8) (N := 46) S hK hG (fun w h => List.mem_cons_of_mem _ (List.mem_append_right _ (h))) b hM.1 rfl 3 (by decide) k0 (fun _ h9 => h9) rfl dX8_play_73 ?_
      refine lv_iload_n hx hb dX8_play_76 rfl (lv_at hl 7 rfl) ?_
      refine xg_ald S hK hG (b + 3) (show ws[b + 3]? = some (ad (b + 3), .inl (cI, 6, .inl (A 2))) from hM.2.1 2 (by decide)) (i := p) (by first | assumption | exact vp_in_nI (by omega) (by decide)) dX8_play_77 ?_
      refine lv_imul hx hb dX8_play_78 ?_
      refine lv_iload hx hb dX8_play_79 (lv_at hl 9 rfl) ?_
      refine lv_imul hx hb dX8_play_81 ?_
      exact jn82_9 _ (by rw [if_pos c63])
    · skip
      refine lv_iload hx hb dX8_play_66 (lv_at hl 4 rfl) ?_
      refine lv_goto (tgt := 82) hx hb dX8_play_68 (by decide) ?_
      exact jn82_9 _ (by rw [if_neg c63])
  refine lv_icmp_lt (tgt := 58) hx hb dX8_play_51 (by decide) (fun c51 => ?_) (fun c51 => ?_)
  · skip
    refine lv_iconst (v := 0) hx hb dX8_play_58 (by decide) ?_
    exact jn59_8 _ (by rw [if_pos c51])
  · skip
    refine lv_iconst (v := 1) hx hb dX8_play_54 (by decide) ?_
    refine lv_goto (tgt := 59) hx hb dX8_play_55 (by decide) ?_
    exact jn59_8 _ (by rw [if_neg c51])
set_option maxHeartbeats 4000000 in
set_option maxRecDepth 100000 in
theorem mX8_findGame (l : Launch) (D : va_G) (cI cZ : ClassId) (bs : Nat) (ad : Nat → Nat) (ws : va_W) (b : Nat) (A : Nat → Nat → Int32) (I : Nat → Int32) (L : Int64) (hM : xv_M cI cZ ad ws b A I L) (p : Int32) (p2 : Int32) (z : Int32) (hp : vp_in p 6) (hp2 : vp_in p2 6) (st lm : Nat)  (hz : z = nI lm) (hlm : lm ≤ 15) (hst : I 8 = nI st) (h4 : 1 ≤ st) (h5 : st ≤ 9) : Met l yX8_findGame wsX8_findGame ({ frames := 4, cells := 0, slots := 0, locals := 100 } : Room) (va_Pc [.ref (ad b), .int p, .int p2, .int z] (fun U => xg_W D cI cZ bs ws U)) (va_Qv (fun w : va_W => xv_M cI cZ ad w b (em_fgr I p p2 lm st lm A) I L ∧ xv_S ws w b 24) (fun w t => xg_W D cI cZ bs w t) (xg_A bs)) 0 0 (xg_A bs) := by
  refine xg_met cX8_findGame 12 none RX8 (by decide) rfl rfl (Nat.le_of_ble_eq_true rfl) ?_
  intro pg en s m below meth c ls S hr hlk hnm hB hl
  have hK := hB.1
  have hG := xg_start hB
  obtain ⟨hx, hb, hml, hown, hts⟩ := id S
  have hl : lv_has ls 12 [(0, .ref (ad b)), (1, .int p), (2, .int p2), (3, .int z)] := hl
  obtain ⟨Q, hQ⟩ : ∃ Q, Q = MQ below (va_Qv (fun w : va_W => xv_M cI cZ ad w b (em_fgr I p p2 lm st lm A) I L ∧ xv_S ws w b 24) (fun w t => xg_W D cI cZ bs w t) (xg_A bs)) ([.ref (ad b), .int p, .int p2, .int z] : List Value).toArray s 0 0 (xg_A bs) := ⟨_, rfl⟩
  rw [← hQ]
  have k0 := hts (.fieldLink RX8 80 "DareBridgeModel" "step" "I") (List.mem_of_getElem? (i := 1) rfl)
  have k1 := hts (.fieldLink RX8 70 "DareBridgeModel" "toOther" "[I") (List.mem_of_getElem? (i := 2) rfl)
  have k2 := hts (.fieldLink RX8 67 "DareBridgeModel" "toDared" "[I") (List.mem_of_getElem? (i := 3) rfl)
  refine lv_iload_n hx hb dX8_findGame_0 rfl (lv_at hl 3 rfl) ?_
  refine lv_istore (lv' := [(4, .int z), (0, .ref (ad b)), (1, .int p), (2, .int p2), (3, .int z)]) hx hb dX8_findGame_1 hl (by decide) rfl (fun ls hl => ?_)
  -- the loop at 3
  have lp3 : ∀ (fu : Nat) (k : Nat) (A1 : Nat → Nat → Int32), (k ≤ lm) → (k < fu) → (em_fgr I p p2 lm st lm A = em_fgr I p p2 lm st k A1) → ∀ y3_4 : Int32, y3_4 = nI k → ∀ (w3 : va_W) (H : Heap) (locs : List Loc), xg_H D bs w3 s.heap H locs → (xv_M cI cZ ad w3 b A1 I L) → xv_S ws w3 b 24 → ∀ (ls : Array Slot), lv_has ls 12 [(0, .ref (ad b)), (1, .int p), (2, .int p2), (3, .int z), (4, .int y3_4)] → W pg l en ({ frames := 4, cells := 0, slots := 0, locals := 100 } : Room) s m ([.ref (ad b), .int p, .int p2, .int z] : List Value).toArray below meth c H locs 0 0 Q (F0 m 3 ls []) := by
    intro fu
    induction fu with
    | zero =>
      intro k A1 hk hf hr2
      exact absurd hf (by omega)
    | succ fu ih3 =>
      intro k A1 hk hf hr2 y3_4 ey3_4
      intro w3 H locs hG hM hSw3
      intro ls hl
      replace ey3_4 := ey3_4.symm; subst ey3_4
      refine lv_iload hx hb dX8_findGame_3 (lv_at hl 4 rfl) ?_
      refine lv_if_le (tgt := 144) hx hb dX8_findGame_5 (by decide) (fun c5 => ?_) (fun c5 => ?_)
      · skip
        have hk9 : k = 0 := by have := (nI_leI (a := k) (b := 0) (by omega) (by decide)).mp c5; omega
        have hfin : em_fgr I p p2 lm st lm A = A1 := by rw [hr2, hk9]; rfl
        rw [hQ]
        exact xg_emv S hr hlk hK hG ⟨(by rw [hfin]; exact hM), hSw3⟩ dX8_findGame_144
      · skip
        have hk9 : 0 < k := by rcases Nat.eq_zero_or_pos k with q | q; exact absurd (by rw [q]; decide) c5; exact q
        refine lv_iconst (v := 0) hx hb dX8_findGame_8 (by decide) ?_
        refine lv_istore (lv' := [(5, .int 0), (0, .ref (ad b)), (1, .int p), (2, .int p2), (3, .int z), (4, .int (nI k))]) hx hb dX8_findGame_9 hl (by decide) rfl (fun ls hl => ?_)
        refine lv_iload hx hb dX8_findGame_11 (lv_at hl 0 rfl) ?_
        refine lv_iconst (v := 2) hx hb dX8_findGame_13 (by decide) ?_
        refine lv_icmp_ge (tgt := 138) hx hb dX8_findGame_14 (by decide) (fun c14 => ?_) (fun c14 => ?_)
        · exact absurd c14 (by decide)
        refine lv_iload hx hb dX8_findGame_17 (lv_at hl 0 rfl) ?_
        refine lv_if_ne (tgt := 26) hx hb dX8_findGame_19 (by decide) (fun c19 => ?_) (fun c19 => ?_)
        · exact absurd c19 (by decide)
        refine lv_iload_n hx hb dX8_findGame_22 rfl (lv_at hl 2 rfl) ?_
        refine lv_goto (tgt := 27) hx hb dX8_findGame_23 (by decide) ?_
        refine lv_istore (lv' := [(6, .int p), (5, .int 0), (0, .ref (ad b)), (1, .int p), (2, .int p2), (3, .int z), (4, .int (nI k))]) hx hb dX8_findGame_27 hl (by decide) rfl (fun ls hl => ?_)
        refine lv_iload hx hb dX8_findGame_29 (lv_at hl 1 rfl) ?_
        refine lv_if_ne (tgt := 38) hx hb dX8_findGame_31 (by decide) (fun c31 => ?_) (fun c31 => ?_)
        · exact absurd c31 (by decide)
        refine lv_iload_n hx hb dX8_findGame_34 rfl (lv_at hl 4 rfl) ?_
        refine lv_goto (tgt := 39) hx hb dX8_findGame_35 (by decide) ?_
        refine lv_istore (lv' := [(7, .int p2), (6, .int p), (5, .int 0), (0, .ref (ad b)), (1, .int p), (2, .int p2), (3, .int z), (4, .int (nI k))]) hx hb dX8_findGame_39 hl (by decide) rfl (fun ls hl => ?_)
        refine lv_iload hx hb dX8_findGame_41 (lv_at hl 7 rfl) ?_
        refine lv_aload_n hx hb dX8_findGame_43 rfl (lv_at hl 3 rfl) ?_
        refine xg_get (C := RX8) (T := TX8) (N := 46) S hK hG (fun w h => List.mem_cons_of_mem _ (List.mem_append_right _ (h))) b hM.1 rfl 8 (by decide) k0 (fun _ h9 => h9) rfl dX8_findGame_44 ?_
        refine lv_iadd hx hb dX8_findGame_47 ?_
        refine lv_iload_n hx hb dX8_findGame_48 rfl (lv_at hl 6 rfl) ?_
        refine lv_icmp_gt (tgt := 56) hx hb dX8_findGame_49 (by decide) (fun c49 => ?_) (fun c49 => ?_)
        · skip
          have ha9 : lm < k + st := (nI_ltI (by omega) (by omega)).mp (by rw [← nI_add, ← hst, ← hz]; exact c49)
          refine lv_iconst (v := 0) hx hb dX8_findGame_56 (by decide) ?_
          refine lv_istore (lv' := [(8, .int 0), (7, .int p2), (6, .int p), (5, .int 0), (0, .ref (ad b)), (1, .int p), (2, .int p2), (3, .int z), (4, .int (nI k))]) hx hb dX8_findGame_57 hl (by decide) rfl (fun ls hl => ?_)
          refine lv_iconst (v := 2) hx hb dX8_findGame_59 (by decide) ?_
          refine lv_iload hx hb dX8_findGame_60 (lv_at hl 8 rfl) ?_
          refine lv_aload_n hx hb dX8_findGame_62 rfl (lv_at hl 4 rfl) ?_
          refine xg_get (C := RX8) (T := TX8) (N := 46) S hK hG (fun w h => List.mem_cons_of_mem _ (List.mem_append_right _ (h))) b hM.1 rfl 8 (by decide) k0 (fun _ h9 => h9) rfl dX8_findGame_63 ?_
          refine lv_iadd hx hb dX8_findGame_66 ?_
          refine lv_imul hx hb dX8_findGame_67 ?_
          refine lv_iconst (v := 1) hx hb dX8_findGame_68 (by decide) ?_
          refine lv_iadd hx hb dX8_findGame_69 ?_
          refine lv_iload hx hb dX8_findGame_70 (lv_at hl 3 rfl) ?_
          refine lv_isub hx hb dX8_findGame_72 ?_
          refine lv_topi (fun x1 ex1 => ?_)
          replace ex1 := ex1.symm
          refine lv_istore (lv' := [(9, .int x1), (8, .int 0), (7, .int p2), (6, .int p), (5, .int 0), (0, .ref (ad b)), (1, .int p), (2, .int p2), (3, .int z), (4, .int (nI k))]) hx hb dX8_findGame_73 hl (by decide) rfl (fun ls hl => ?_)
          refine lv_iload hx hb dX8_findGame_75 (lv_at hl 1 rfl) ?_
          refine lv_if_eq (tgt := 90) hx hb dX8_findGame_77 (by decide) (fun c77 => ?_) (fun c77 => ?_)
          rotate_left
          · exact absurd c77 (by decide)
          refine lv_iconst (v := 0) hx hb dX8_findGame_90 (by decide) ?_
          refine lv_istore (lv' := [(10, .int 0), (9, .int x1), (8, .int 0), (7, .int p2), (6, .int p), (5, .int 0), (0, .ref (ad b)), (1, .int p), (2, .int p2), (3, .int z), (4, .int (nI k))]) hx hb dX8_findGame_91 hl (by decide) rfl (fun ls hl => ?_)
          refine lv_iload hx hb dX8_findGame_93 (lv_at hl 2 rfl) ?_
          refine lv_if_eq (tgt := 108) hx hb dX8_findGame_95 (by decide) (fun c95 => ?_) (fun c95 => ?_)
          rotate_left
          · exact absurd c95 (by decide)
          refine lv_iconst (v := 0) hx hb dX8_findGame_108 (by decide) ?_
          refine lv_istore (lv' := [(11, .int 0), (10, .int 0), (9, .int x1), (8, .int 0), (7, .int p2), (6, .int p), (5, .int 0), (0, .ref (ad b)), (1, .int p), (2, .int p2), (3, .int z), (4, .int (nI k))]) hx hb dX8_findGame_109 hl (by decide) rfl (fun ls hl => ?_)
          refine lv_aload_n hx hb dX8_findGame_111 rfl (lv_at hl 7 rfl) ?_
          refine lv_iconst (v := 2) hx hb dX8_findGame_112 (by decide) ?_
          refine lv_iload hx hb dX8_findGame_113 (lv_at hl 11 rfl) ?_
          refine lv_imul hx hb dX8_findGame_115 ?_
          refine lv_iload hx hb dX8_findGame_116 (lv_at hl 6 rfl) ?_
          refine lv_iadd hx hb dX8_findGame_118 ?_
          refine lv_iload hx hb dX8_findGame_119 (lv_at hl 5 rfl) ?_
          refine lv_iload hx hb dX8_findGame_121 (lv_at hl 4 rfl) ?_
          refine lv_iload hx hb dX8_findGame_123 (lv_at hl 11 rfl) ?_
          refine lv_iload hx hb dX8_findGame_125 (lv_at hl 1 rfl) ?_
          refine lv_iload hx hb dX8_findGame_127 (lv_at hl 0 rfl) ?_
          refine xg_mv (va_runV (As := [.int ((2 * (nI k)) + 0), .int p, .int p2, .int (nI k), .int 0, .int 0]) (rest := []) S (mX8_play l D cI cZ bs ad w3 b A1 I L hM ((2 * (nI k)) + 0) p p2 (nI k) 0 0 (by first | (rw [em_j0]; exact vp_in_nI (by omega) (by decide)) | (rw [em_j1]; exact vp_in_nI (by omega) (by decide))) (by first | assumption | omega) (by first | assumption | omega)) (cwV 6 hts gX8_findGame_X8_play rfl rfl rfl (by decide +kernel) ⟨Nat.le_of_ble_eq_true rfl, Nat.le_of_ble_eq_true rfl⟩) (xg_preV hK hG b hM.1 rfl rfl) rfl rfl hl.1 rfl (lv_room (Nat.le_of_ble_eq_true rfl)) dX8_findGame_129 ⟨Nat.zero_le _, Nat.zero_le _⟩) hG (fun w3 H locs hr2 hG => ?_)
          obtain ⟨hvw3_0, hsw3⟩ := hr2
          have hM : xv_M cI cZ ad w3 b (em_plA A1 I ((2 * (nI k)) + 0).toNatClampNeg p p2 (nI k) 0 0) I L := hvw3_0
          obtain ⟨A4, eA4⟩ : ∃ zz : Nat → Nat → Int32, (em_plA A1 I ((2 * (nI k)) + 0).toNatClampNeg p p2 (nI k) 0 0) = zz := ⟨_, rfl⟩
          rw [eA4] at hM
          have hSw3 : xv_S ws w3 b 24 := hSw3.trans (hsw3.mono (by omega) (by omega))
          refine lv_iinc (v := 1) (lv' := [(5, .int 1), (11, .int 0), (10, .int 0), (9, .int x1), (8, .int 0), (7, .int p2), (6, .int p), (0, .ref (ad b)), (1, .int p), (2, .int p2), (3, .int z), (4, .int (nI k))]) hx hb dX8_findGame_132 hl (k := 6) rfl rfl (by decide) rfl (fun ls hl => ?_)
          refine lv_goto (tgt := 11) hx hb dX8_findGame_135 (by decide) ?_
          refine lv_iload hx hb dX8_findGame_11 (lv_at hl 0 rfl) ?_
          refine lv_iconst (v := 2) hx hb dX8_findGame_13 (by decide) ?_
          refine lv_icmp_ge (tgt := 138) hx hb dX8_findGame_14 (by decide) (fun c14 => ?_) (fun c14 => ?_)
          · exact absurd c14 (by decide)
          refine lv_iload hx hb dX8_findGame_17 (lv_at hl 0 rfl) ?_
          refine lv_if_ne (tgt := 26) hx hb dX8_findGame_19 (by decide) (fun c19 => ?_) (fun c19 => ?_)
          rotate_left
          · exact absurd c19 (by decide)
          refine lv_iload_n hx hb dX8_findGame_26 rfl (lv_at hl 9 rfl) ?_
          refine lv_istore (lv' := [(6, .int p2), (5, .int 1), (11, .int 0), (10, .int 0), (9, .int x1), (8, .int 0), (7, .int p2), (0, .ref (ad b)), (1, .int p), (2, .int p2), (3, .int z), (4, .int (nI k))]) hx hb dX8_findGame_27 hl (by decide) rfl (fun ls hl => ?_)
          refine lv_iload hx hb dX8_findGame_29 (lv_at hl 1 rfl) ?_
          refine lv_if_ne (tgt := 38) hx hb dX8_findGame_31 (by decide) (fun c31 => ?_) (fun c31 => ?_)
          rotate_left
          · exact absurd c31 (by decide)
          refine lv_iload_n hx hb dX8_findGame_38 rfl (lv_at hl 8 rfl) ?_
          refine lv_istore (lv' := [(7, .int p), (6, .int p2), (5, .int 1), (11, .int 0), (10, .int 0), (9, .int x1), (8, .int 0), (0, .ref (ad b)), (1, .int p), (2, .int p2), (3, .int z), (4, .int (nI k))]) hx hb dX8_findGame_39 hl (by decide) rfl (fun ls hl => ?_)
          refine lv_iload hx hb dX8_findGame_41 (lv_at hl 11 rfl) ?_
          refine lv_aload_n hx hb dX8_findGame_43 rfl (lv_at hl 7 rfl) ?_
          refine xg_get (C := RX8) (T := TX8) (N := 46) S hK hG (fun w h => List.mem_cons_of_mem _ (List.mem_append_right _ (h))) b hM.1 rfl 8 (by decide) k0 (fun _ h9 => h9) rfl dX8_findGame_44 ?_
          refine lv_iadd hx hb dX8_findGame_47 ?_
          refine lv_iload_n hx hb dX8_findGame_48 rfl (lv_at hl 10 rfl) ?_
          refine lv_icmp_gt (tgt := 56) hx hb dX8_findGame_49 (by decide) (fun c49 => ?_) (fun c49 => ?_)
          · skip
            have ha9 : lm < k + st := (nI_ltI (by omega) (by omega)).mp (by rw [← nI_add, ← hst, ← hz]; exact c49)
            refine lv_iconst (v := 0) hx hb dX8_findGame_56 (by decide) ?_
            refine lv_istore (lv' := [(8, .int 0), (7, .int p), (6, .int p2), (5, .int 1), (11, .int 0), (10, .int 0), (9, .int x1), (0, .ref (ad b)), (1, .int p), (2, .int p2), (3, .int z), (4, .int (nI k))]) hx hb dX8_findGame_57 hl (by decide) rfl (fun ls hl => ?_)
            refine lv_iconst (v := 2) hx hb dX8_findGame_59 (by decide) ?_
            refine lv_iload hx hb dX8_findGame_60 (lv_at hl 11 rfl) ?_
            refine lv_aload_n hx hb dX8_findGame_62 rfl (lv_at hl 7 rfl) ?_
            refine xg_get (C := RX8) (T := TX8) (N := 46) S hK hG (fun w h => List.mem_cons_of_mem _ (List.mem_append_right _ (h))) b hM.1 rfl 8 (by decide) k0 (fun _ h9 => h9) rfl dX8_findGame_63 ?_
            refine lv_iadd hx hb dX8_findGame_66 ?_
            refine lv_imul hx hb dX8_findGame_67 ?_
            refine lv_iconst (v := 1) hx hb dX8_findGame_68 (by decide) ?_
            refine lv_iadd hx hb dX8_findGame_69 ?_
            refine lv_iload hx hb dX8_findGame_70 (lv_at hl 3 rfl) ?_
            refine lv_isub hx hb dX8_findGame_72 ?_
            refine lv_topi (fun x6 ex6 => ?_)
            replace ex6 := ex6.symm
            refine lv_istore (lv' := [(9, .int x6), (8, .int 0), (7, .int p), (6, .int p2), (5, .int 1), (11, .int 0), (10, .int 0), (0, .ref (ad b)), (1, .int p), (2, .int p2), (3, .int z), (4, .int (nI k))]) hx hb dX8_findGame_73 hl (by decide) rfl (fun ls hl => ?_)
            refine lv_iload hx hb dX8_findGame_75 (lv_at hl 1 rfl) ?_
            refine lv_if_eq (tgt := 90) hx hb dX8_findGame_77 (by decide) (fun c77 => ?_) (fun c77 => ?_)
            rotate_left
            · exact absurd c77 (by decide)
            refine lv_iconst (v := 0) hx hb dX8_findGame_90 (by decide) ?_
            refine lv_istore (lv' := [(10, .int 0), (9, .int x6), (8, .int 0), (7, .int p), (6, .int p2), (5, .int 1), (11, .int 0), (0, .ref (ad b)), (1, .int p), (2, .int p2), (3, .int z), (4, .int (nI k))]) hx hb dX8_findGame_91 hl (by decide) rfl (fun ls hl => ?_)
            refine lv_iload hx hb dX8_findGame_93 (lv_at hl 2 rfl) ?_
            refine lv_if_eq (tgt := 108) hx hb dX8_findGame_95 (by decide) (fun c95 => ?_) (fun c95 => ?_)
            rotate_left
            · exact absurd c95 (by decide)
            refine lv_iconst (v := 0) hx hb dX8_findGame_108 (by decide) ?_
            refine lv_istore (lv' := [(11, .int 0), (10, .int 0), (9, .int x6), (8, .int 0), (7, .int p), (6, .int p2), (5, .int 1), (0, .ref (ad b)), (1, .int p), (2, .int p2), (3, .int z), (4, .int (nI k))]) hx hb dX8_findGame_109 hl (by decide) rfl (fun ls hl => ?_)
            refine lv_aload_n hx hb dX8_findGame_111 rfl (lv_at hl 7 rfl) ?_
            refine lv_iconst (v := 2) hx hb dX8_findGame_112 (by decide) ?_
            refine lv_iload hx hb dX8_findGame_113 (lv_at hl 11 rfl) ?_
            refine lv_imul hx hb dX8_findGame_115 ?_
            refine lv_iload hx hb dX8_findGame_116 (lv_at hl 6 rfl) ?_
            refine lv_iadd hx hb dX8_findGame_118 ?_
            refine lv_iload hx hb dX8_findGame_119 (lv_at hl 5 rfl) ?_
            refine lv_iload hx hb dX8_findGame_121 (lv_at hl 4 rfl) ?_
            refine lv_iload hx hb dX8_findGame_123 (lv_at hl 11 rfl) ?_
            refine lv_iload hx hb dX8_findGame_125 (lv_at hl 1 rfl) ?_
            refine lv_iload hx hb dX8_findGame_127 (lv_at hl 0 rfl) ?_
            refine xg_mv (va_runV (As := [.int ((2 * (nI k)) + 1), .int p2, .int p, .int (nI k), .int 0, .int 0]) (rest := []) S (mX8_play l D cI cZ bs ad w3 b A4 I L hM ((2 * (nI k)) + 1) p2 p (nI k) 0 0 (by first | (rw [em_j0]; exact vp_in_nI (by omega) (by decide)) | (rw [em_j1]; exact vp_in_nI (by omega) (by decide))) (by first | assumption | omega) (by first | assumption | omega)) (cwV 6 hts gX8_findGame_X8_play rfl rfl rfl (by decide +kernel) ⟨Nat.le_of_ble_eq_true rfl, Nat.le_of_ble_eq_true rfl⟩) (xg_preV hK hG b hM.1 rfl rfl) rfl rfl hl.1 rfl (lv_room (Nat.le_of_ble_eq_true rfl)) dX8_findGame_129 ⟨Nat.zero_le _, Nat.zero_le _⟩) hG (fun w8 H locs hr7 hG => ?_)
            obtain ⟨hvw8_0, hsw8⟩ := hr7
            have hM : xv_M cI cZ ad w8 b (em_plA A4 I ((2 * (nI k)) + 1).toNatClampNeg p2 p (nI k) 0 0) I L := hvw8_0
            obtain ⟨A9, eA9⟩ : ∃ zz : Nat → Nat → Int32, (em_plA A4 I ((2 * (nI k)) + 1).toNatClampNeg p2 p (nI k) 0 0) = zz := ⟨_, rfl⟩
            rw [eA9] at hM
            have hSw8 : xv_S ws w8 b 24 := hSw3.trans (hsw8.mono (by omega) (by omega))
            refine lv_iinc (v := 2) (lv' := [(5, .int 2), (11, .int 0), (10, .int 0), (9, .int x6), (8, .int 0), (7, .int p), (6, .int p2), (0, .ref (ad b)), (1, .int p), (2, .int p2), (3, .int z), (4, .int (nI k))]) hx hb dX8_findGame_132 hl (k := 6) rfl rfl (by decide) rfl (fun ls hl => ?_)
            refine lv_goto (tgt := 11) hx hb dX8_findGame_135 (by decide) ?_
            refine lv_iload hx hb dX8_findGame_11 (lv_at hl 0 rfl) ?_
            refine lv_iconst (v := 2) hx hb dX8_findGame_13 (by decide) ?_
            refine lv_icmp_ge (tgt := 138) hx hb dX8_findGame_14 (by decide) (fun c14 => ?_) (fun c14 => ?_)
            rotate_left
            · exact absurd c14 (by decide)
            obtain ⟨x11, ex11⟩ : ∃ zz : Int32, ((nI k) + (-1)) = zz := ⟨_, rfl⟩
            refine lv_iinc (v := x11) (lv' := [(4, .int x11), (5, .int 2), (11, .int 0), (10, .int 0), (9, .int x6), (8, .int 0), (7, .int p), (6, .int p2), (0, .ref (ad b)), (1, .int p), (2, .int p2), (3, .int z)]) hx hb dX8_findGame_138 hl (k := 11) rfl (by rw [← ex11]; rfl) (by decide) rfl (fun ls hl => ?_)
            refine lv_goto (tgt := 3) hx hb dX8_findGame_141 (by decide) ?_
            exact ih3 (k - 1) A9 (by omega) (by omega) (by subst ex1 eA4 ex6 eA9 ex11; first | omega | (rw [hr2, em_fgr_S hk9]; simp only [em_fg1, em_fgv, ha9, if_true, if_false, if_pos rfl, em_jc0 (show k ≤ 15 by omega), em_jc1 (show k ≤ 15 by omega), em_ic0 hst ha9 hlm, em_ic1 hst ha9 hlm, Nat.one_ne_zero]) | (rw [hr2, em_fgr_S hk9]; simp only [em_fg1, em_fgv, ha9, if_true, if_false, if_pos rfl, em_jc0 (show k ≤ 15 by omega), em_jc1 (show k ≤ 15 by omega), Nat.one_ne_zero])) x11 (by subst ex1 eA4 ex6 eA9 ex11; exact xb_dec hk9) w8 _ _ hG hM hSw8 ls (lv_sub hl [8, 9, 10, 11, 0] rfl)
          · skip
            have ha9 : ¬ lm < k + st := fun h9 => c49 (by rw [hz, hst, nI_add]; exact (nI_ltI (by omega) (by omega)).mpr h9)
            refine lv_iconst (v := 1) hx hb dX8_findGame_52 (by decide) ?_
            refine lv_goto (tgt := 57) hx hb dX8_findGame_53 (by decide) ?_
            refine lv_istore (lv' := [(8, .int 1), (7, .int p), (6, .int p2), (5, .int 1), (11, .int 0), (10, .int 0), (9, .int x1), (0, .ref (ad b)), (1, .int p), (2, .int p2), (3, .int z), (4, .int (nI k))]) hx hb dX8_findGame_57 hl (by decide) rfl (fun ls hl => ?_)
            refine lv_iconst (v := 2) hx hb dX8_findGame_59 (by decide) ?_
            refine lv_iload hx hb dX8_findGame_60 (lv_at hl 11 rfl) ?_
            refine lv_aload_n hx hb dX8_findGame_62 rfl (lv_at hl 7 rfl) ?_
            refine xg_get (C := RX8) (T := TX8) (N := 46) S hK hG (fun w h => List.mem_cons_of_mem _ (List.mem_append_right _ (h))) b hM.1 rfl 8 (by decide) k0 (fun _ h9 => h9) rfl dX8_findGame_63 ?_
            refine lv_iadd hx hb dX8_findGame_66 ?_
            refine lv_imul hx hb dX8_findGame_67 ?_
            refine lv_iconst (v := 1) hx hb dX8_findGame_68 (by decide) ?_
            refine lv_iadd hx hb dX8_findGame_69 ?_
            refine lv_iload hx hb dX8_findGame_70 (lv_at hl 3 rfl) ?_
            refine lv_isub hx hb dX8_findGame_72 ?_
            refine lv_topi (fun x12 ex12 => ?_)
            replace ex12 := ex12.symm
            refine lv_istore (lv' := [(9, .int x12), (8, .int 1), (7, .int p), (6, .int p2), (5, .int 1), (11, .int 0), (10, .int 0), (0, .ref (ad b)), (1, .int p), (2, .int p2), (3, .int z), (4, .int (nI k))]) hx hb dX8_findGame_73 hl (by decide) rfl (fun ls hl => ?_)
            refine lv_iload hx hb dX8_findGame_75 (lv_at hl 1 rfl) ?_
            refine lv_if_eq (tgt := 90) hx hb dX8_findGame_77 (by decide) (fun c77 => ?_) (fun c77 => ?_)
            · exact absurd c77 (by decide)
            refine lv_aload_n hx hb dX8_findGame_80 rfl (lv_at hl 7 rfl) ?_
            refine xg_get (C := RX8) (T := TX8) (N := 46) S hK hG (fun w h => List.mem_cons_of_mem _ (List.mem_append_right _ (h))) b hM.1 rfl 41 (by decide) k1 (fun _ h9 => h9) rfl dX8_findGame_81 ?_
            refine lv_iload hx hb dX8_findGame_84 (lv_at hl 0 rfl) ?_
            refine xg_ald S hK hG (b + 21) (show w3[b + 21]? = some (ad (b + 21), .inl (cI, 32, .inl (A4 20))) from hM.2.1 20 (by decide)) (i := x12) (by subst ex1 eA4 ex12; first | (rw [em_i0 hst]; exact vp_in_nI (by omega) (by decide)) | (rw [em_i1 hst]; exact vp_in_nI (by omega) (by decide))) dX8_findGame_86 ?_
            refine lv_goto (tgt := 91) hx hb dX8_findGame_87 (by decide) ?_
            refine lv_topi (fun x13 ex13 => ?_)
            replace ex13 := ex13.symm
            refine lv_istore (lv' := [(10, .int x13), (9, .int x12), (8, .int 1), (7, .int p), (6, .int p2), (5, .int 1), (11, .int 0), (0, .ref (ad b)), (1, .int p), (2, .int p2), (3, .int z), (4, .int (nI k))]) hx hb dX8_findGame_91 hl (by decide) rfl (fun ls hl => ?_)
            refine lv_iload hx hb dX8_findGame_93 (lv_at hl 2 rfl) ?_
            refine lv_if_eq (tgt := 108) hx hb dX8_findGame_95 (by decide) (fun c95 => ?_) (fun c95 => ?_)
            · exact absurd c95 (by decide)
            refine lv_aload_n hx hb dX8_findGame_98 rfl (lv_at hl 7 rfl) ?_
            refine xg_get (C := RX8) (T := TX8) (N := 46) S hK hG (fun w h => List.mem_cons_of_mem _ (List.mem_append_right _ (h))) b hM.1 rfl 40 (by decide) k2 (fun _ h9 => h9) rfl dX8_findGame_99 ?_
            refine lv_iload hx hb dX8_findGame_102 (lv_at hl 1 rfl) ?_
            refine xg_ald S hK hG (b + 20) (show w3[b + 20]? = some (ad (b + 20), .inl (cI, 32, .inl (A4 19))) from hM.2.1 19 (by decide)) (i := x12) (by subst ex1 eA4 ex12 ex13; first | (rw [em_i0 hst]; exact vp_in_nI (by omega) (by decide)) | (rw [em_i1 hst]; exact vp_in_nI (by omega) (by decide))) dX8_findGame_104 ?_
            refine lv_goto (tgt := 109) hx hb dX8_findGame_105 (by decide) ?_
            refine lv_topi (fun x14 ex14 => ?_)
            replace ex14 := ex14.symm
            refine lv_istore (lv' := [(11, .int x14), (10, .int x13), (9, .int x12), (8, .int 1), (7, .int p), (6, .int p2), (5, .int 1), (0, .ref (ad b)), (1, .int p), (2, .int p2), (3, .int z), (4, .int (nI k))]) hx hb dX8_findGame_109 hl (by decide) rfl (fun ls hl => ?_)
            refine lv_aload_n hx hb dX8_findGame_111 rfl (lv_at hl 7 rfl) ?_
            refine lv_iconst (v := 2) hx hb dX8_findGame_112 (by decide) ?_
            refine lv_iload hx hb dX8_findGame_113 (lv_at hl 11 rfl) ?_
            refine lv_imul hx hb dX8_findGame_115 ?_
            refine lv_iload hx hb dX8_findGame_116 (lv_at hl 6 rfl) ?_
            refine lv_iadd hx hb dX8_findGame_118 ?_
            refine lv_iload hx hb dX8_findGame_119 (lv_at hl 5 rfl) ?_
            refine lv_iload hx hb dX8_findGame_121 (lv_at hl 4 rfl) ?_
            refine lv_iload hx hb dX8_findGame_123 (lv_at hl 11 rfl) ?_
            refine lv_iload hx hb dX8_findGame_125 (lv_at hl 1 rfl) ?_
            refine lv_iload hx hb dX8_findGame_127 (lv_at hl 0 rfl) ?_
            refine xg_mv (va_runV (As := [.int ((2 * (nI k)) + 1), .int p2, .int p, .int (nI k), .int x13, .int x14]) (rest := []) S (mX8_play l D cI cZ bs ad w3 b A4 I L hM ((2 * (nI k)) + 1) p2 p (nI k) x13 x14 (by first | (rw [em_j0]; exact vp_in_nI (by omega) (by decide)) | (rw [em_j1]; exact vp_in_nI (by omega) (by decide))) (by first | assumption | omega) (by first | assumption | omega)) (cwV 6 hts gX8_findGame_X8_play rfl rfl rfl (by decide +kernel) ⟨Nat.le_of_ble_eq_true rfl, Nat.le_of_ble_eq_true rfl⟩) (xg_preV hK hG b hM.1 rfl rfl) rfl rfl hl.1 rfl (lv_room (Nat.le_of_ble_eq_true rfl)) dX8_findGame_129 ⟨Nat.zero_le _, Nat.zero_le _⟩) hG (fun w16 H locs hr15 hG => ?_)
            obtain ⟨hvw16_0, hsw16⟩ := hr15
            have hM : xv_M cI cZ ad w16 b (em_plA A4 I ((2 * (nI k)) + 1).toNatClampNeg p2 p (nI k) x13 x14) I L := hvw16_0
            obtain ⟨A17, eA17⟩ : ∃ zz : Nat → Nat → Int32, (em_plA A4 I ((2 * (nI k)) + 1).toNatClampNeg p2 p (nI k) x13 x14) = zz := ⟨_, rfl⟩
            rw [eA17] at hM
            have hSw16 : xv_S ws w16 b 24 := hSw3.trans (hsw16.mono (by omega) (by omega))
            refine lv_iinc (v := 2) (lv' := [(5, .int 2), (11, .int x14), (10, .int x13), (9, .int x12), (8, .int 1), (7, .int p), (6, .int p2), (0, .ref (ad b)), (1, .int p), (2, .int p2), (3, .int z), (4, .int (nI k))]) hx hb dX8_findGame_132 hl (k := 6) rfl rfl (by decide) rfl (fun ls hl => ?_)
            refine lv_goto (tgt := 11) hx hb dX8_findGame_135 (by decide) ?_
            refine lv_iload hx hb dX8_findGame_11 (lv_at hl 0 rfl) ?_
            refine lv_iconst (v := 2) hx hb dX8_findGame_13 (by decide) ?_
            refine lv_icmp_ge (tgt := 138) hx hb dX8_findGame_14 (by decide) (fun c14 => ?_) (fun c14 => ?_)
            rotate_left
            · exact absurd c14 (by decide)
            obtain ⟨x19, ex19⟩ : ∃ zz : Int32, ((nI k) + (-1)) = zz := ⟨_, rfl⟩
            refine lv_iinc (v := x19) (lv' := [(4, .int x19), (5, .int 2), (11, .int x14), (10, .int x13), (9, .int x12), (8, .int 1), (7, .int p), (6, .int p2), (0, .ref (ad b)), (1, .int p), (2, .int p2), (3, .int z)]) hx hb dX8_findGame_138 hl (k := 11) rfl (by rw [← ex19]; rfl) (by decide) rfl (fun ls hl => ?_)
            refine lv_goto (tgt := 3) hx hb dX8_findGame_141 (by decide) ?_
            exact ih3 (k - 1) A17 (by omega) (by omega) (by subst ex1 eA4 ex12 ex13 ex14 eA17 ex19; first | omega | (rw [hr2, em_fgr_S hk9]; simp only [em_fg1, em_fgv, ha9, if_true, if_false, if_pos rfl, em_jc0 (show k ≤ 15 by omega), em_jc1 (show k ≤ 15 by omega), em_ic0 hst ha9 hlm, em_ic1 hst ha9 hlm, Nat.one_ne_zero]) | (rw [hr2, em_fgr_S hk9]; simp only [em_fg1, em_fgv, ha9, if_true, if_false, if_pos rfl, em_jc0 (show k ≤ 15 by omega), em_jc1 (show k ≤ 15 by omega), Nat.one_ne_zero])) x19 (by subst ex1 eA4 ex12 ex13 ex14 eA17 ex19; exact xb_dec hk9) w16 _ _ hG hM hSw16 ls (lv_sub hl [8, 9, 10, 11, 0] rfl)
        · skip
          have ha9 : ¬ lm < k + st := fun h9 => c49 (by rw [hz, hst, nI_add]; exact (nI_ltI (by omega) (by omega)).mpr h9)
          refine lv_iconst (v := 1) hx hb dX8_findGame_52 (by decide) ?_
          refine lv_goto (tgt := 57) hx hb dX8_findGame_53 (by decide) ?_
          refine lv_istore (lv' := [(8, .int 1), (7, .int p2), (6, .int p), (5, .int 0), (0, .ref (ad b)), (1, .int p), (2, .int p2), (3, .int z), (4, .int (nI k))]) hx hb dX8_findGame_57 hl (by decide) rfl (fun ls hl => ?_)
          refine lv_iconst (v := 2) hx hb dX8_findGame_59 (by decide) ?_
          refine lv_iload hx hb dX8_findGame_60 (lv_at hl 8 rfl) ?_
          refine lv_aload_n hx hb dX8_findGame_62 rfl (lv_at hl 4 rfl) ?_
          refine xg_get (C := RX8) (T := TX8) (N := 46) S hK hG (fun w h => List.mem_cons_of_mem _ (List.mem_append_right _ (h))) b hM.1 rfl 8 (by decide) k0 (fun _ h9 => h9) rfl dX8_findGame_63 ?_
          refine lv_iadd hx hb dX8_findGame_66 ?_
          refine lv_imul hx hb dX8_findGame_67 ?_
          refine lv_iconst (v := 1) hx hb dX8_findGame_68 (by decide) ?_
          refine lv_iadd hx hb dX8_findGame_69 ?_
          refine lv_iload hx hb dX8_findGame_70 (lv_at hl 3 rfl) ?_
          refine lv_isub hx hb dX8_findGame_72 ?_
          refine lv_topi (fun x20 ex20 => ?_)
          replace ex20 := ex20.symm
          refine lv_istore (lv' := [(9, .int x20), (8, .int 1), (7, .int p2), (6, .int p), (5, .int 0), (0, .ref (ad b)), (1, .int p), (2, .int p2), (3, .int z), (4, .int (nI k))]) hx hb dX8_findGame_73 hl (by decide) rfl (fun ls hl => ?_)
          refine lv_iload hx hb dX8_findGame_75 (lv_at hl 1 rfl) ?_
          refine lv_if_eq (tgt := 90) hx hb dX8_findGame_77 (by decide) (fun c77 => ?_) (fun c77 => ?_)
          · exact absurd c77 (by decide)
          refine lv_aload_n hx hb dX8_findGame_80 rfl (lv_at hl 5 rfl) ?_
          refine xg_get (C := RX8) (T := TX8) (N := 46) S hK hG (fun w h => List.mem_cons_of_mem _ (List.mem_append_right _ (h))) b hM.1 rfl 41 (by decide) k1 (fun _ h9 => h9) rfl dX8_findGame_81 ?_
          refine lv_iload hx hb dX8_findGame_84 (lv_at hl 0 rfl) ?_
          refine xg_ald S hK hG (b + 21) (show w3[b + 21]? = some (ad (b + 21), .inl (cI, 32, .inl (A1 20))) from hM.2.1 20 (by decide)) (i := x20) (by subst ex20; first | (rw [em_i0 hst]; exact vp_in_nI (by omega) (by decide)) | (rw [em_i1 hst]; exact vp_in_nI (by omega) (by decide))) dX8_findGame_86 ?_
          refine lv_goto (tgt := 91) hx hb dX8_findGame_87 (by decide) ?_
          refine lv_topi (fun x21 ex21 => ?_)
          replace ex21 := ex21.symm
          refine lv_istore (lv' := [(10, .int x21), (9, .int x20), (8, .int 1), (7, .int p2), (6, .int p), (5, .int 0), (0, .ref (ad b)), (1, .int p), (2, .int p2), (3, .int z), (4, .int (nI k))]) hx hb dX8_findGame_91 hl (by decide) rfl (fun ls hl => ?_)
          refine lv_iload hx hb dX8_findGame_93 (lv_at hl 2 rfl) ?_
          refine lv_if_eq (tgt := 108) hx hb dX8_findGame_95 (by decide) (fun c95 => ?_) (fun c95 => ?_)
          · exact absurd c95 (by decide)
          refine lv_aload_n hx hb dX8_findGame_98 rfl (lv_at hl 6 rfl) ?_
          refine xg_get (C := RX8) (T := TX8) (N := 46) S hK hG (fun w h => List.mem_cons_of_mem _ (List.mem_append_right _ (h))) b hM.1 rfl 40 (by decide) k2 (fun _ h9 => h9) rfl dX8_findGame_99 ?_
          refine lv_iload hx hb dX8_findGame_102 (lv_at hl 1 rfl) ?_
          refine xg_ald S hK hG (b + 20) (show w3[b + 20]? = some (ad (b + 20), .inl (cI, 32, .inl (A1 19))) from hM.2.1 19 (by decide)) (i := x20) (by subst ex20 ex21; first | (rw [em_i0 hst]; exact vp_in_nI (by omega) (by decide)) | (rw [em_i1 hst]; exact vp_in_nI (by omega) (by decide))) dX8_findGame_104 ?_
          refine lv_goto (tgt := 109) hx hb dX8_findGame_105 (by decide) ?_
          refine lv_topi (fun x22 ex22 => ?_)
          replace ex22 := ex22.symm
          refine lv_istore (lv' := [(11, .int x22), (10, .int x21), (9, .int x20), (8, .int 1), (7, .int p2), (6, .int p), (5, .int 0), (0, .ref (ad b)), (1, .int p), (2, .int p2), (3, .int z), (4, .int (nI k))]) hx hb dX8_findGame_109 hl (by decide) rfl (fun ls hl => ?_)
          refine lv_aload_n hx hb dX8_findGame_111 rfl (lv_at hl 7 rfl) ?_
          refine lv_iconst (v := 2) hx hb dX8_findGame_112 (by decide) ?_
          refine lv_iload hx hb dX8_findGame_113 (lv_at hl 11 rfl) ?_
          refine lv_imul hx hb dX8_findGame_115 ?_
          refine lv_iload hx hb dX8_findGame_116 (lv_at hl 6 rfl) ?_
          refine lv_iadd hx hb dX8_findGame_118 ?_
          refine lv_iload hx hb dX8_findGame_119 (lv_at hl 5 rfl) ?_
          refine lv_iload hx hb dX8_findGame_121 (lv_at hl 4 rfl) ?_
          refine lv_iload hx hb dX8_findGame_123 (lv_at hl 11 rfl) ?_
          refine lv_iload hx hb dX8_findGame_125 (lv_at hl 1 rfl) ?_
          refine lv_iload hx hb dX8_findGame_127 (lv_at hl 0 rfl) ?_
          refine xg_mv (va_runV (As := [.int ((2 * (nI k)) + 0), .int p, .int p2, .int (nI k), .int x21, .int x22]) (rest := []) S (mX8_play l D cI cZ bs ad w3 b A1 I L hM ((2 * (nI k)) + 0) p p2 (nI k) x21 x22 (by first | (rw [em_j0]; exact vp_in_nI (by omega) (by decide)) | (rw [em_j1]; exact vp_in_nI (by omega) (by decide))) (by first | assumption | omega) (by first | assumption | omega)) (cwV 6 hts gX8_findGame_X8_play rfl rfl rfl (by decide +kernel) ⟨Nat.le_of_ble_eq_true rfl, Nat.le_of_ble_eq_true rfl⟩) (xg_preV hK hG b hM.1 rfl rfl) rfl rfl hl.1 rfl (lv_room (Nat.le_of_ble_eq_true rfl)) dX8_findGame_129 ⟨Nat.zero_le _, Nat.zero_le _⟩) hG (fun w24 H locs hr23 hG => ?_)
          obtain ⟨hvw24_0, hsw24⟩ := hr23
          have hM : xv_M cI cZ ad w24 b (em_plA A1 I ((2 * (nI k)) + 0).toNatClampNeg p p2 (nI k) x21 x22) I L := hvw24_0
          obtain ⟨A25, eA25⟩ : ∃ zz : Nat → Nat → Int32, (em_plA A1 I ((2 * (nI k)) + 0).toNatClampNeg p p2 (nI k) x21 x22) = zz := ⟨_, rfl⟩
          rw [eA25] at hM
          have hSw24 : xv_S ws w24 b 24 := hSw3.trans (hsw24.mono (by omega) (by omega))
          refine lv_iinc (v := 1) (lv' := [(5, .int 1), (11, .int x22), (10, .int x21), (9, .int x20), (8, .int 1), (7, .int p2), (6, .int p), (0, .ref (ad b)), (1, .int p), (2, .int p2), (3, .int z), (4, .int (nI k))]) hx hb dX8_findGame_132 hl (k := 6) rfl rfl (by decide) rfl (fun ls hl => ?_)
          refine lv_goto (tgt := 11) hx hb dX8_findGame_135 (by decide) ?_
          refine lv_iload hx hb dX8_findGame_11 (lv_at hl 0 rfl) ?_
          refine lv_iconst (v := 2) hx hb dX8_findGame_13 (by decide) ?_
          refine lv_icmp_ge (tgt := 138) hx hb dX8_findGame_14 (by decide) (fun c14 => ?_) (fun c14 => ?_)
          · exact absurd c14 (by decide)
          refine lv_iload hx hb dX8_findGame_17 (lv_at hl 0 rfl) ?_
          refine lv_if_ne (tgt := 26) hx hb dX8_findGame_19 (by decide) (fun c19 => ?_) (fun c19 => ?_)
          rotate_left
          · exact absurd c19 (by decide)
          refine lv_iload_n hx hb dX8_findGame_26 rfl (lv_at hl 9 rfl) ?_
          refine lv_istore (lv' := [(6, .int p2), (5, .int 1), (11, .int x22), (10, .int x21), (9, .int x20), (8, .int 1), (7, .int p2), (0, .ref (ad b)), (1, .int p), (2, .int p2), (3, .int z), (4, .int (nI k))]) hx hb dX8_findGame_27 hl (by decide) rfl (fun ls hl => ?_)
          refine lv_iload hx hb dX8_findGame_29 (lv_at hl 1 rfl) ?_
          refine lv_if_ne (tgt := 38) hx hb dX8_findGame_31 (by decide) (fun c31 => ?_) (fun c31 => ?_)
          rotate_left
          · exact absurd c31 (by decide)
          refine lv_iload_n hx hb dX8_findGame_38 rfl (lv_at hl 8 rfl) ?_
          refine lv_istore (lv' := [(7, .int p), (6, .int p2), (5, .int 1), (11, .int x22), (10, .int x21), (9, .int x20), (8, .int 1), (0, .ref (ad b)), (1, .int p), (2, .int p2), (3, .int z), (4, .int (nI k))]) hx hb dX8_findGame_39 hl (by decide) rfl (fun ls hl => ?_)
          refine lv_iload hx hb dX8_findGame_41 (lv_at hl 11 rfl) ?_
          refine lv_aload_n hx hb dX8_findGame_43 rfl (lv_at hl 7 rfl) ?_
          refine xg_get (C := RX8) (T := TX8) (N := 46) S hK hG (fun w h => List.mem_cons_of_mem _ (List.mem_append_right _ (h))) b hM.1 rfl 8 (by decide) k0 (fun _ h9 => h9) rfl dX8_findGame_44 ?_
          refine lv_iadd hx hb dX8_findGame_47 ?_
          refine lv_iload_n hx hb dX8_findGame_48 rfl (lv_at hl 10 rfl) ?_
          refine lv_icmp_gt (tgt := 56) hx hb dX8_findGame_49 (by decide) (fun c49 => ?_) (fun c49 => ?_)
          · skip
            have ha9 : lm < k + st := (nI_ltI (by omega) (by omega)).mp (by rw [← nI_add, ← hst, ← hz]; exact c49)
            refine lv_iconst (v := 0) hx hb dX8_findGame_56 (by decide) ?_
            refine lv_istore (lv' := [(8, .int 0), (7, .int p), (6, .int p2), (5, .int 1), (11, .int x22), (10, .int x21), (9, .int x20), (0, .ref (ad b)), (1, .int p), (2, .int p2), (3, .int z), (4, .int (nI k))]) hx hb dX8_findGame_57 hl (by decide) rfl (fun ls hl => ?_)
            refine lv_iconst (v := 2) hx hb dX8_findGame_59 (by decide) ?_
            refine lv_iload hx hb dX8_findGame_60 (lv_at hl 11 rfl) ?_
            refine lv_aload_n hx hb dX8_findGame_62 rfl (lv_at hl 7 rfl) ?_
            refine xg_get (C := RX8) (T := TX8) (N := 46) S hK hG (fun w h => List.mem_cons_of_mem _ (List.mem_append_right _ (h))) b hM.1 rfl 8 (by decide) k0 (fun _ h9 => h9) rfl dX8_findGame_63 ?_
            refine lv_iadd hx hb dX8_findGame_66 ?_
            refine lv_imul hx hb dX8_findGame_67 ?_
            refine lv_iconst (v := 1) hx hb dX8_findGame_68 (by decide) ?_
            refine lv_iadd hx hb dX8_findGame_69 ?_
            refine lv_iload hx hb dX8_findGame_70 (lv_at hl 3 rfl) ?_
            refine lv_isub hx hb dX8_findGame_72 ?_
            refine lv_topi (fun x27 ex27 => ?_)
            replace ex27 := ex27.symm
            refine lv_istore (lv' := [(9, .int x27), (8, .int 0), (7, .int p), (6, .int p2), (5, .int 1), (11, .int x22), (10, .int x21), (0, .ref (ad b)), (1, .int p), (2, .int p2), (3, .int z), (4, .int (nI k))]) hx hb dX8_findGame_73 hl (by decide) rfl (fun ls hl => ?_)
            refine lv_iload hx hb dX8_findGame_75 (lv_at hl 1 rfl) ?_
            refine lv_if_eq (tgt := 90) hx hb dX8_findGame_77 (by decide) (fun c77 => ?_) (fun c77 => ?_)
            rotate_left
            · exact absurd c77 (by decide)
            refine lv_iconst (v := 0) hx hb dX8_findGame_90 (by decide) ?_
            refine lv_istore (lv' := [(10, .int 0), (9, .int x27), (8, .int 0), (7, .int p), (6, .int p2), (5, .int 1), (11, .int x22), (0, .ref (ad b)), (1, .int p), (2, .int p2), (3, .int z), (4, .int (nI k))]) hx hb dX8_findGame_91 hl (by decide) rfl (fun ls hl => ?_)
            refine lv_iload hx hb dX8_findGame_93 (lv_at hl 2 rfl) ?_
            refine lv_if_eq (tgt := 108) hx hb dX8_findGame_95 (by decide) (fun c95 => ?_) (fun c95 => ?_)
            rotate_left
            · exact absurd c95 (by decide)
            refine lv_iconst (v := 0) hx hb dX8_findGame_108 (by decide) ?_
            refine lv_istore (lv' := [(11, .int 0), (10, .int 0), (9, .int x27), (8, .int 0), (7, .int p), (6, .int p2), (5, .int 1), (0, .ref (ad b)), (1, .int p), (2, .int p2), (3, .int z), (4, .int (nI k))]) hx hb dX8_findGame_109 hl (by decide) rfl (fun ls hl => ?_)
            refine lv_aload_n hx hb dX8_findGame_111 rfl (lv_at hl 7 rfl) ?_
            refine lv_iconst (v := 2) hx hb dX8_findGame_112 (by decide) ?_
            refine lv_iload hx hb dX8_findGame_113 (lv_at hl 11 rfl) ?_
            refine lv_imul hx hb dX8_findGame_115 ?_
            refine lv_iload hx hb dX8_findGame_116 (lv_at hl 6 rfl) ?_
            refine lv_iadd hx hb dX8_findGame_118 ?_
            refine lv_iload hx hb dX8_findGame_119 (lv_at hl 5 rfl) ?_
            refine lv_iload hx hb dX8_findGame_121 (lv_at hl 4 rfl) ?_
            refine lv_iload hx hb dX8_findGame_123 (lv_at hl 11 rfl) ?_
            refine lv_iload hx hb dX8_findGame_125 (lv_at hl 1 rfl) ?_
            refine lv_iload hx hb dX8_findGame_127 (lv_at hl 0 rfl) ?_
            refine xg_mv (va_runV (As := [.int ((2 * (nI k)) + 1), .int p2, .int p, .int (nI k), .int 0, .int 0]) (rest := []) S (mX8_play l D cI cZ bs ad w24 b A25 I L hM ((2 * (nI k)) + 1) p2 p (nI k) 0 0 (by first | (rw [em_j0]; exact vp_in_nI (by omega) (by decide)) | (rw [em_j1]; exact vp_in_nI (by omega) (by decide))) (by first | assumption | omega) (by first | assumption | omega)) (cwV 6 hts gX8_findGame_X8_play rfl rfl rfl (by decide +kernel) ⟨Nat.le_of_ble_eq_true rfl, Nat.le_of_ble_eq_true rfl⟩) (xg_preV hK hG b hM.1 rfl rfl) rfl rfl hl.1 rfl (lv_room (Nat.le_of_ble_eq_true rfl)) dX8_findGame_129 ⟨Nat.zero_le _, Nat.zero_le _⟩) hG (fun w29 H locs hr28 hG => ?_)
            obtain ⟨hvw29_0, hsw29⟩ := hr28
            have hM : xv_M cI cZ ad w29 b (em_plA A25 I ((2 * (nI k)) + 1).toNatClampNeg p2 p (nI k) 0 0) I L := hvw29_0
            obtain ⟨A30, eA30⟩ : ∃ zz : Nat → Nat → Int32, (em_plA A25 I ((2 * (nI k)) + 1).toNatClampNeg p2 p (nI k) 0 0) = zz := ⟨_, rfl⟩
            rw [eA30] at hM
            have hSw29 : xv_S ws w29 b 24 := hSw24.trans (hsw29.mono (by omega) (by omega))
            refine lv_iinc (v := 2) (lv' := [(5, .int 2), (11, .int 0), (10, .int 0), (9, .int x27), (8, .int 0), (7, .int p), (6, .int p2), (0, .ref (ad b)), (1, .int p), (2, .int p2), (3, .int z), (4, .int (nI k))]) hx hb dX8_findGame_132 hl (k := 6) rfl rfl (by decide) rfl (fun ls hl => ?_)
            refine lv_goto (tgt := 11) hx hb dX8_findGame_135 (by decide) ?_
            refine lv_iload hx hb dX8_findGame_11 (lv_at hl 0 rfl) ?_
            refine lv_iconst (v := 2) hx hb dX8_findGame_13 (by decide) ?_
            refine lv_icmp_ge (tgt := 138) hx hb dX8_findGame_14 (by decide) (fun c14 => ?_) (fun c14 => ?_)
            rotate_left
            · exact absurd c14 (by decide)
            obtain ⟨x32, ex32⟩ : ∃ zz : Int32, ((nI k) + (-1)) = zz := ⟨_, rfl⟩
            refine lv_iinc (v := x32) (lv' := [(4, .int x32), (5, .int 2), (11, .int 0), (10, .int 0), (9, .int x27), (8, .int 0), (7, .int p), (6, .int p2), (0, .ref (ad b)), (1, .int p), (2, .int p2), (3, .int z)]) hx hb dX8_findGame_138 hl (k := 11) rfl (by rw [← ex32]; rfl) (by decide) rfl (fun ls hl => ?_)
            refine lv_goto (tgt := 3) hx hb dX8_findGame_141 (by decide) ?_
            exact ih3 (k - 1) A30 (by omega) (by omega) (by subst ex20 ex21 ex22 eA25 ex27 eA30 ex32; first | omega | (rw [hr2, em_fgr_S hk9]; simp only [em_fg1, em_fgv, ha9, if_true, if_false, if_pos rfl, em_jc0 (show k ≤ 15 by omega), em_jc1 (show k ≤ 15 by omega), em_ic0 hst ha9 hlm, em_ic1 hst ha9 hlm, Nat.one_ne_zero]) | (rw [hr2, em_fgr_S hk9]; simp only [em_fg1, em_fgv, ha9, if_true, if_false, if_pos rfl, em_jc0 (show k ≤ 15 by omega), em_jc1 (show k ≤ 15 by omega), Nat.one_ne_zero])) x32 (by subst ex20 ex21 ex22 eA25 ex27 eA30 ex32; exact xb_dec hk9) w29 _ _ hG hM hSw29 ls (lv_sub hl [8, 9, 10, 11, 0] rfl)
          · skip
            have ha9 : ¬ lm < k + st := fun h9 => c49 (by rw [hz, hst, nI_add]; exact (nI_ltI (by omega) (by omega)).mpr h9)
            refine lv_iconst (v := 1) hx hb dX8_findGame_52 (by decide) ?_
            refine lv_goto (tgt := 57) hx hb dX8_findGame_53 (by decide) ?_
            refine lv_istore (lv' := [(8, .int 1), (7, .int p), (6, .int p2), (5, .int 1), (11, .int x22), (10, .int x21), (9, .int x20), (0, .ref (ad b)), (1, .int p), (2, .int p2), (3, .int z), (4, .int (nI k))]) hx hb dX8_findGame_57 hl (by decide) rfl (fun ls hl => ?_)
            refine lv_iconst (v := 2) hx hb dX8_findGame_59 (by decide) ?_
            refine lv_iload hx hb dX8_findGame_60 (lv_at hl 11 rfl) ?_
            refine lv_aload_n hx hb dX8_findGame_62 rfl (lv_at hl 7 rfl) ?_
            refine xg_get (C := RX8) (T := TX8) (N := 46) S hK hG (fun w h => List.mem_cons_of_mem _ (List.mem_append_right _ (h))) b hM.1 rfl 8 (by decide) k0 (fun _ h9 => h9) rfl dX8_findGame_63 ?_
            refine lv_iadd hx hb dX8_findGame_66 ?_
            refine lv_imul hx hb dX8_findGame_67 ?_
            refine lv_iconst (v := 1) hx hb dX8_findGame_68 (by decide) ?_
            refine lv_iadd hx hb dX8_findGame_69 ?_
            refine lv_iload hx hb dX8_findGame_70 (lv_at hl 3 rfl) ?_
            refine lv_isub hx hb dX8_findGame_72 ?_
            refine lv_topi (fun x33 ex33 => ?_)
            replace ex33 := ex33.symm
            refine lv_istore (lv' := [(9, .int x33), (8, .int 1), (7, .int p), (6, .int p2), (5, .int 1), (11, .int x22), (10, .int x21), (0, .ref (ad b)), (1, .int p), (2, .int p2), (3, .int z), (4, .int (nI k))]) hx hb dX8_findGame_73 hl (by decide) rfl (fun ls hl => ?_)
            refine lv_iload hx hb dX8_findGame_75 (lv_at hl 1 rfl) ?_
            refine lv_if_eq (tgt := 90) hx hb dX8_findGame_77 (by decide) (fun c77 => ?_) (fun c77 => ?_)
            · exact absurd c77 (by decide)
            refine lv_aload_n hx hb dX8_findGame_80 rfl (lv_at hl 7 rfl) ?_
            refine xg_get (C := RX8) (T := TX8) (N := 46) S hK hG (fun w h => List.mem_cons_of_mem _ (List.mem_append_right _ (h))) b hM.1 rfl 41 (by decide) k1 (fun _ h9 => h9) rfl dX8_findGame_81 ?_
            refine lv_iload hx hb dX8_findGame_84 (lv_at hl 0 rfl) ?_
            refine xg_ald S hK hG (b + 21) (show w24[b + 21]? = some (ad (b + 21), .inl (cI, 32, .inl (A25 20))) from hM.2.1 20 (by decide)) (i := x33) (by subst ex20 ex21 ex22 eA25 ex33; first | (rw [em_i0 hst]; exact vp_in_nI (by omega) (by decide)) | (rw [em_i1 hst]; exact vp_in_nI (by omega) (by decide))) dX8_findGame_86 ?_
            refine lv_goto (tgt := 91) hx hb dX8_findGame_87 (by decide) ?_
            refine lv_topi (fun x34 ex34 => ?_)
            replace ex34 := ex34.symm
            refine lv_istore (lv' := [(10, .int x34), (9, .int x33), (8, .int 1), (7, .int p), (6, .int p2), (5, .int 1), (11, .int x22), (0, .ref (ad b)), (1, .int p), (2, .int p2), (3, .int z), (4, .int (nI k))]) hx hb dX8_findGame_91 hl (by decide) rfl (fun ls hl => ?_)
            refine lv_iload hx hb dX8_findGame_93 (lv_at hl 2 rfl) ?_
            refine lv_if_eq (tgt := 108) hx hb dX8_findGame_95 (by decide) (fun c95 => ?_) (fun c95 => ?_)
            · exact absurd c95 (by decide)
            refine lv_aload_n hx hb dX8_findGame_98 rfl (lv_at hl 7 rfl) ?_
            refine xg_get (C := RX8) (T := TX8) (N := 46) S hK hG (fun w h => List.mem_cons_of_mem _ (List.mem_append_right _ (h))) b hM.1 rfl 40 (by decide) k2 (fun _ h9 => h9) rfl dX8_findGame_99 ?_
            refine lv_iload hx hb dX8_findGame_102 (lv_at hl 1 rfl) ?_
            refine xg_ald S hK hG (b + 20) (show w24[b + 20]? = some (ad (b + 20), .inl (cI, 32, .inl (A25 19))) from hM.2.1 19 (by decide)) (i := x33) (by subst ex20 ex21 ex22 eA25 ex33 ex34; first | (rw [em_i0 hst]; exact vp_in_nI (by omega) (by decide)) | (rw [em_i1 hst]; exact vp_in_nI (by omega) (by decide))) dX8_findGame_104 ?_
            refine lv_goto (tgt := 109) hx hb dX8_findGame_105 (by decide) ?_
            refine lv_topi (fun x35 ex35 => ?_)
            replace ex35 := ex35.symm
            refine lv_istore (lv' := [(11, .int x35), (10, .int x34), (9, .int x33), (8, .int 1), (7, .int p), (6, .int p2), (5, .int 1), (0, .ref (ad b)), (1, .int p), (2, .int p2), (3, .int z), (4, .int (nI k))]) hx hb dX8_findGame_109 hl (by decide) rfl (fun ls hl => ?_)
            refine lv_aload_n hx hb dX8_findGame_111 rfl (lv_at hl 7 rfl) ?_
            refine lv_iconst (v := 2) hx hb dX8_findGame_112 (by decide) ?_
            refine lv_iload hx hb dX8_findGame_113 (lv_at hl 11 rfl) ?_
            refine lv_imul hx hb dX8_findGame_115 ?_
            refine lv_iload hx hb dX8_findGame_116 (lv_at hl 6 rfl) ?_
            refine lv_iadd hx hb dX8_findGame_118 ?_
            refine lv_iload hx hb dX8_findGame_119 (lv_at hl 5 rfl) ?_
            refine lv_iload hx hb dX8_findGame_121 (lv_at hl 4 rfl) ?_
            refine lv_iload hx hb dX8_findGame_123 (lv_at hl 11 rfl) ?_
            refine lv_iload hx hb dX8_findGame_125 (lv_at hl 1 rfl) ?_
            refine lv_iload hx hb dX8_findGame_127 (lv_at hl 0 rfl) ?_
            refine xg_mv (va_runV (As := [.int ((2 * (nI k)) + 1), .int p2, .int p, .int (nI k), .int x34, .int x35]) (rest := []) S (mX8_play l D cI cZ bs ad w24 b A25 I L hM ((2 * (nI k)) + 1) p2 p (nI k) x34 x35 (by first | (rw [em_j0]; exact vp_in_nI (by omega) (by decide)) | (rw [em_j1]; exact vp_in_nI (by omega) (by decide))) (by first | assumption | omega) (by first | assumption | omega)) (cwV 6 hts gX8_findGame_X8_play rfl rfl rfl (by decide +kernel) ⟨Nat.le_of_ble_eq_true rfl, Nat.le_of_ble_eq_true rfl⟩) (xg_preV hK hG b hM.1 rfl rfl) rfl rfl hl.1 rfl (lv_room (Nat.le_of_ble_eq_true rfl)) dX8_findGame_129 ⟨Nat.zero_le _, Nat.zero_le _⟩) hG (fun w37 H locs hr36 hG => ?_)
            obtain ⟨hvw37_0, hsw37⟩ := hr36
            have hM : xv_M cI cZ ad w37 b (em_plA A25 I ((2 * (nI k)) + 1).toNatClampNeg p2 p (nI k) x34 x35) I L := hvw37_0
            obtain ⟨A38, eA38⟩ : ∃ zz : Nat → Nat → Int32, (em_plA A25 I ((2 * (nI k)) + 1).toNatClampNeg p2 p (nI k) x34 x35) = zz := ⟨_, rfl⟩
            rw [eA38] at hM
            have hSw37 : xv_S ws w37 b 24 := hSw24.trans (hsw37.mono (by omega) (by omega))
            refine lv_iinc (v := 2) (lv' := [(5, .int 2), (11, .int x35), (10, .int x34), (9, .int x33), (8, .int 1), (7, .int p), (6, .int p2), (0, .ref (ad b)), (1, .int p), (2, .int p2), (3, .int z), (4, .int (nI k))]) hx hb dX8_findGame_132 hl (k := 6) rfl rfl (by decide) rfl (fun ls hl => ?_)
            refine lv_goto (tgt := 11) hx hb dX8_findGame_135 (by decide) ?_
            refine lv_iload hx hb dX8_findGame_11 (lv_at hl 0 rfl) ?_
            refine lv_iconst (v := 2) hx hb dX8_findGame_13 (by decide) ?_
            refine lv_icmp_ge (tgt := 138) hx hb dX8_findGame_14 (by decide) (fun c14 => ?_) (fun c14 => ?_)
            rotate_left
            · exact absurd c14 (by decide)
            obtain ⟨x40, ex40⟩ : ∃ zz : Int32, ((nI k) + (-1)) = zz := ⟨_, rfl⟩
            refine lv_iinc (v := x40) (lv' := [(4, .int x40), (5, .int 2), (11, .int x35), (10, .int x34), (9, .int x33), (8, .int 1), (7, .int p), (6, .int p2), (0, .ref (ad b)), (1, .int p), (2, .int p2), (3, .int z)]) hx hb dX8_findGame_138 hl (k := 11) rfl (by rw [← ex40]; rfl) (by decide) rfl (fun ls hl => ?_)
            refine lv_goto (tgt := 3) hx hb dX8_findGame_141 (by decide) ?_
            exact ih3 (k - 1) A38 (by omega) (by omega) (by subst ex20 ex21 ex22 eA25 ex33 ex34 ex35 eA38 ex40; first | omega | (rw [hr2, em_fgr_S hk9]; simp only [em_fg1, em_fgv, ha9, if_true, if_false, if_pos rfl, em_jc0 (show k ≤ 15 by omega), em_jc1 (show k ≤ 15 by omega), em_ic0 hst ha9 hlm, em_ic1 hst ha9 hlm, Nat.one_ne_zero]) | (rw [hr2, em_fgr_S hk9]; simp only [em_fg1, em_fgv, ha9, if_true, if_false, if_pos rfl, em_jc0 (show k ≤ 15 by omega), em_jc1 (show k ≤ 15 by omega), Nat.one_ne_zero])) x40 (by subst ex20 ex21 ex22 eA25 ex33 ex34 ex35 eA38 ex40; exact xb_dec hk9) w37 _ _ hG hM hSw37 ls (lv_sub hl [8, 9, 10, 11, 0] rfl)
  exact lp3 (lm + 1) lm A (by omega) (by omega) rfl z hz ws _ _ hG hM xv_S.rf ls (lv_sub hl [1, 2, 3, 4, 0] rfl)
set_option maxHeartbeats 4000000 in
set_option maxRecDepth 100000 in
theorem mX8_game (l : Launch) (D : va_G) (cI cZ : ClassId) (bs : Nat) (ad : Nat → Nat) (ws : va_W) (b : Nat) (A : Nat → Nat → Int32) (I : Nat → Int32) (L : Int64) (hM : xv_M cI cZ ad ws b A I L) (p : Int32) (p2 : Int32) (y : Int32) (z : Int32) (w9 : Int32) (st : Nat) (hst : I 8 = nI st) (h4 : 1 ≤ st) (h5 : st ≤ 9) : Met l yX8_game wsX8_game ({ frames := 5, cells := 0, slots := 0, locals := 131 } : Room) (va_Pc [.ref (ad b), .int p, .int p2, .int y, .int z, .int w9] (fun U => xg_W D cI cZ bs ws U)) (va_Qi (fun (r : Int32) (w : va_W) => r = em_gam A I p p2 y z w9 st ∧ xv_M cI cZ ad w b (em_gaA A I p p2 y z w9 st) I L ∧ xv_S ws w b 24) (fun w t => xg_W D cI cZ bs w t) (xg_A bs)) 0 0 (xg_A bs) := by
  refine xg_met cX8_game 7 (some .int) RX8 (by decide) rfl rfl (Nat.le_of_ble_eq_true rfl) ?_
  intro pg en s m below meth c ls S hr hlk hnm hB hl
  have hK := hB.1
  have hG := xg_start hB
  obtain ⟨hx, hb, hml, hown, hts⟩ := id S
  have hl : lv_has ls 7 [(0, .ref (ad b)), (1, .int p), (2, .int p2), (3, .int y), (4, .int z), (5, .int w9)] := hl
  obtain ⟨Q, hQ⟩ : ∃ Q, Q = MQ below (va_Qi (fun (r : Int32) (w : va_W) => r = em_gam A I p p2 y z w9 st ∧ xv_M cI cZ ad w b (em_gaA A I p p2 y z w9 st) I L ∧ xv_S ws w b 24) (fun w t => xg_W D cI cZ bs w t) (xg_A bs)) ([.ref (ad b), .int p, .int p2, .int y, .int z, .int w9] : List Value).toArray s 0 0 (xg_A bs) := ⟨_, rfl⟩
  rw [← hQ]
  have k0 := hts (.constantLong RX8 231 (2)) (List.mem_of_getElem? (i := 1) rfl)
  have k1 := hts (.constant RX8 268 (1000000)) (List.mem_of_getElem? (i := 3) rfl)
  have k2 := hts (.fieldLink RX8 70 "DareBridgeModel" "toOther" "[I") (List.mem_of_getElem? (i := 5) rfl)
  have k3 := hts (.fieldLink RX8 67 "DareBridgeModel" "toDared" "[I") (List.mem_of_getElem? (i := 4) rfl)
  have k4 := hts (.fieldLink RX8 64 "DareBridgeModel" "act" "[I") (List.mem_of_getElem? (i := 2) rfl)
  refine lv_aload_n hx hb dX8_game_0 rfl (lv_at hl 0 rfl) ?_
  refine lv_iload_n hx hb dX8_game_1 rfl (lv_at hl 1 rfl) ?_
  refine lv_iload_n hx hb dX8_game_2 rfl (lv_at hl 2 rfl) ?_
  refine xg_ri (va_runV (As := [.int p, .int p2]) (rest := []) S (mX8_areTwo l D cI cZ bs ad ws b A I L hM p p2) (cwV 2 hts gX8_game_X8_areTwo rfl rfl rfl (by decide +kernel) ⟨Nat.le_of_ble_eq_true rfl, Nat.le_of_ble_eq_true rfl⟩) (xg_preV hK hG b hM.1 rfl rfl) rfl rfl hl.1 rfl (lv_room (Nat.le_of_ble_eq_true rfl)) dX8_game_3 ⟨Nat.zero_le _, Nat.zero_le _⟩) (fun r1 hr1 => ?_)
  replace hr1 := hr1.symm; subst hr1
  refine xb_ifne (tgt := 11) S dX8_game_6 (by decide) (fun c6 => ?_) (fun c6 => ?_)
  · skip
    obtain ⟨hq6, hq7, hq8⟩ := em_two_N c6
    refine lv_iload_n hx hb dX8_game_11 rfl (lv_at hl 3 rfl) ?_
    refine lv_iload hx hb dX8_game_12 (lv_at hl 4 rfl) ?_
    refine xg_ri (va_runS (As := [.int y, .int z]) (rest := []) S (mX8_isClimb l D cI cZ bs ad ws y z) (va_cwS 2 hts gX8_game_X8_isClimb rfl rfl rfl (by decide +kernel) ⟨Nat.le_of_ble_eq_true rfl, Nat.le_of_ble_eq_true rfl⟩) (xg_preS hK hG) rfl rfl hl.1 rfl (lv_room (Nat.le_of_ble_eq_true rfl)) dX8_game_14 ⟨Nat.zero_le _, Nat.zero_le _⟩) (fun r2 hr2 => ?_)
    replace hr2 := hr2.symm; subst hr2
    refine xb_ifeq (tgt := 33) S dX8_game_17 (by decide) (fun c17 => ?_) (fun c17 => ?_)
    · skip
      refine lv_bipush (v := (-2)) hx hb dX8_game_33 (by decide) ?_
      rw [hQ]
      exact xg_emi S hr hlk hK hG ⟨(by skip; first | (simp only [em_gam, c6, c17, if_true, if_false, Bool.false_eq_true]; done) | (unfold em_gam; rw [if_pos c6, if_pos c17, if_pos c30]; simp only [c6, c17, hy8, if_true, if_false])), (by rw [show (em_gaA A I p p2 y z w9 st) = A from (by skip; first | (unfold em_gaA; rw [if_neg (by simp [em_gaV, c6, c17])]; done) | (unfold em_gaA; rw [if_pos (by simp [em_gaV, c6, c17, c30])]))]; exact hM), xv_S.rf⟩ dX8_game_35
    · skip
      obtain ⟨hq1, hq2, hq3, hq4, hq5⟩ := em_isC_N c17
      refine lv_iload hx hb dX8_game_20 (lv_at hl 5 rfl) ?_
      refine lv_i2l (v := w9.toInt64) hx hb dX8_game_22 rfl ?_
      refine lv_lconst (v := 0) hx hb dX8_game_23 (by decide) ?_
      refine lv_ldc2 (v := 2) hx hb hown k0 dX8_game_24 ?_
      refine xg_ri (va_runS (As := [.long w9.toInt64, .long 0, .long 2]) (rest := []) S (mX8_in l D cI cZ bs ad ws w9.toInt64 0 2) (va_cwS 3 hts gX8_game_X8_in rfl rfl rfl (by decide +kernel) ⟨Nat.le_of_ble_eq_true rfl, Nat.le_of_ble_eq_true rfl⟩) (xg_preS hK hG) rfl rfl hl.1 rfl (lv_room (Nat.le_of_ble_eq_true rfl)) dX8_game_27 ⟨Nat.zero_le _, Nat.zero_le _⟩) (fun r3 hr3 => ?_)
      replace hr3 := hr3.symm; subst hr3
      rw [xw_inL_lit w9 0 2 0 2 (by decide) (by decide)]
      refine xb_ifne (tgt := 36) S dX8_game_30 (by decide) (fun c30 => ?_) (fun c30 => ?_)
      · skip
        have hy9 : 2 * y + 1 = nI (2 * y.toNatClampNeg + 1) := by have := em_j1 y.toNatClampNeg; rw [← hq1] at this; exact this
        have hy8 : (2 * y + 1).toNatClampNeg = 2 * y.toNatClampNeg + 1 := by rw [hy9, xb_cl (by omega)]
        refine lv_aload_n hx hb dX8_game_36 rfl (lv_at hl 0 rfl) ?_
        refine lv_iload_n hx hb dX8_game_37 rfl (lv_at hl 1 rfl) ?_
        refine lv_iload_n hx hb dX8_game_38 rfl (lv_at hl 2 rfl) ?_
        refine lv_iload hx hb dX8_game_39 (lv_at hl 4 rfl) ?_
        refine xg_mv (va_runV (As := [.int p, .int p2, .int z]) (rest := []) S (mX8_findGame l D cI cZ bs ad ws b A I L hM p p2 z hq6 hq7 st z.toNatClampNeg hq2 hq5 hst h4 h5) (cwV 3 hts gX8_game_X8_findGame rfl rfl rfl (by decide +kernel) ⟨Nat.le_of_ble_eq_true rfl, Nat.le_of_ble_eq_true rfl⟩) (xg_preV hK hG b hM.1 rfl rfl) rfl rfl hl.1 rfl (lv_room (Nat.le_of_ble_eq_true rfl)) dX8_game_41 ⟨Nat.zero_le _, Nat.zero_le _⟩) hG (fun w5 H locs hr4 hG => ?_)
        obtain ⟨hvw5_0, hsw5⟩ := hr4
        have hM : xv_M cI cZ ad w5 b (em_fgr I p p2 z.toNatClampNeg st z.toNatClampNeg A) I L := hvw5_0
        obtain ⟨A6, eA6⟩ : ∃ zz : Nat → Nat → Int32, (em_fgr I p p2 z.toNatClampNeg st z.toNatClampNeg A) = zz := ⟨_, rfl⟩
        rw [eA6] at hM
        have hSw5 : xv_S ws w5 b 24 := hsw5.mono (by omega) (by omega)
        refine lv_iconst (v := 2) hx hb dX8_game_44 (by decide) ?_
        refine lv_iload_n hx hb dX8_game_45 rfl (lv_at hl 3 rfl) ?_
        refine lv_imul hx hb dX8_game_46 ?_
        refine lv_iconst (v := 1) hx hb dX8_game_47 (by decide) ?_
        refine lv_iadd hx hb dX8_game_48 ?_
        refine lv_topi (fun x7 ex7 => ?_)
        replace ex7 := ex7.symm
        refine lv_istore (lv' := [(6, .int x7), (0, .ref (ad b)), (1, .int p), (2, .int p2), (3, .int y), (4, .int z), (5, .int w9)]) hx hb dX8_game_49 hl (by decide) rfl (fun ls hl => ?_)
        refine lv_iload hx hb dX8_game_51 (lv_at hl 6 rfl) ?_
        refine lv_if_ne (tgt := 66) hx hb dX8_game_53 (by decide) (fun c53 => ?_) (fun c53 => ?_)
        · skip
          refine lv_ldcw (v := 1000000) hx hb hown k1 dX8_game_66 ?_
          refine lv_iload hx hb dX8_game_69 (lv_at hl 6 rfl) ?_
          refine lv_iconst (v := 1) hx hb dX8_game_71 (by decide) ?_
          have jn92_8 : ∀ v8 : Int32, v8 = (if w9 = 1 then (A6 19) x7.toNatClampNeg else (A6 20) x7.toNatClampNeg) → W pg l en ({ frames := 5, cells := 0, slots := 0, locals := 131 } : Room) s m ([.ref (ad b), .int p, .int p2, .int y, .int z, .int w9] : List Value).toArray below meth c H locs 0 0 Q (F0 m 92 ls [.int v8, .int 1000000]) := by
            intro v8 ev8
            replace ev8 := ev8.symm
            refine lv_iadd hx hb dX8_game_92 ?_
            rw [hQ]
            exact xg_emi S hr hlk hK hG ⟨(by subst eA6 ex7 ev8; first | (simp only [em_gam, c6, c17, c30, c53, if_true, if_false, Bool.false_eq_true]; done) | (unfold em_gam; rw [if_pos c6, if_pos c17, if_pos c30]; simp only [c6, c17, c30, c53, hy8, if_true, if_false])), (by rw [show (em_gaA A I p p2 y z w9 st) = A6 from (by subst eA6 ex7 ev8; first | (unfold em_gaA; rw [if_neg (by simp [em_gaV, c6, c17, c30, c53])]; done) | (unfold em_gaA; rw [if_pos (by simp [em_gaV, c6, c17, c30])]))]; exact hM), hSw5⟩ dX8_game_93
          refine lv_icmp_ne (tgt := 85) hx hb dX8_game_72 (by decide) (fun c72 => ?_) (fun c72 => ?_)
          · skip
            refine lv_aload_n hx hb dX8_game_85 rfl (lv_at hl 1 rfl) ?_
            refine xg_get (C := RX8) (T := TX8) (N := 46) S hK hG (fun w h => List.mem_cons_of_mem _ (List.mem_append_right _ (h))) b hM.1 rfl 41 (by decide) k2 (fun _ h9 => h9) rfl dX8_game_86 ?_
            refine lv_iload hx hb dX8_game_89 (lv_at hl 0 rfl) ?_
            refine xg_ald S hK hG (b + 21) (show w5[b + 21]? = some (ad (b + 21), .inl (cI, 32, .inl (A6 20))) from hM.2.1 20 (by decide)) (i := x7) (by subst eA6 ex7; rw [hy9]; exact vp_in_nI (by omega) (by decide)) dX8_game_91 ?_
            exact jn92_8 _ (by rw [if_neg c72])
          · skip
            refine lv_aload_n hx hb dX8_game_75 rfl (lv_at hl 1 rfl) ?_
            refine xg_get (C := RX8) (T := TX8) (N := 46) S hK hG (fun w h => List.mem_cons_of_mem _ (List.mem_append_right _ (h))) b hM.1 rfl 40 (by decide) k3 (fun _ h9 => h9) rfl dX8_game_76 ?_
            refine lv_iload hx hb dX8_game_79 (lv_at hl 0 rfl) ?_
            refine xg_ald S hK hG (b + 20) (show w5[b + 20]? = some (ad (b + 20), .inl (cI, 32, .inl (A6 19))) from hM.2.1 19 (by decide)) (i := x7) (by subst eA6 ex7; rw [hy9]; exact vp_in_nI (by omega) (by decide)) dX8_game_81 ?_
            refine lv_goto (tgt := 92) hx hb dX8_game_82 (by decide) ?_
            exact jn92_8 _ (by rw [if_pos c72])
        · skip
          refine lv_aload_n hx hb dX8_game_56 rfl (lv_at hl 1 rfl) ?_
          refine xg_get (C := RX8) (T := TX8) (N := 46) S hK hG (fun w h => List.mem_cons_of_mem _ (List.mem_append_right _ (h))) b hM.1 rfl 39 (by decide) k4 (fun _ h9 => h9) rfl dX8_game_57 ?_
          refine lv_iload hx hb dX8_game_60 (lv_at hl 0 rfl) ?_
          refine xg_ald S hK hG (b + 19) (show w5[b + 19]? = some (ad (b + 19), .inl (cI, 32, .inl (A6 18))) from hM.2.1 18 (by decide)) (i := x7) (by subst eA6 ex7; rw [hy9]; exact vp_in_nI (by omega) (by decide)) dX8_game_62 ?_
          refine lv_goto (tgt := 93) hx hb dX8_game_63 (by decide) ?_
          rw [hQ]
          exact xg_emi S hr hlk hK hG ⟨(by subst eA6 ex7; first | (simp only [em_gam, c6, c17, c30, c53, if_true, if_false, Bool.false_eq_true]; done) | (unfold em_gam; rw [if_pos c6, if_pos c17, if_pos c30]; simp only [c6, c17, c30, c53, hy8, if_true, if_false])), (by rw [show (em_gaA A I p p2 y z w9 st) = A6 from (by subst eA6 ex7; first | (unfold em_gaA; rw [if_neg (by simp [em_gaV, c6, c17, c30, c53])]; done) | (unfold em_gaA; rw [if_pos (by simp [em_gaV, c6, c17, c30])]))]; exact hM), hSw5⟩ dX8_game_93
      · skip
        refine lv_bipush (v := (-2)) hx hb dX8_game_33 (by decide) ?_
        rw [hQ]
        exact xg_emi S hr hlk hK hG ⟨(by skip; first | (simp only [em_gam, c6, c17, c30, if_true, if_false, Bool.false_eq_true]; done) | (unfold em_gam; rw [if_pos c6, if_pos c17, if_pos c30]; simp only [c6, c17, c30, hy8, if_true, if_false])), (by rw [show (em_gaA A I p p2 y z w9 st) = A from (by skip; first | (unfold em_gaA; rw [if_neg (by simp [em_gaV, c6, c17, c30])]; done) | (unfold em_gaA; rw [if_pos (by simp [em_gaV, c6, c17, c30])]))]; exact hM), xv_S.rf⟩ dX8_game_35
  · skip
    refine lv_iconst (v := (-1)) hx hb dX8_game_9 (by decide) ?_
    rw [hQ]
    exact xg_emi S hr hlk hK hG ⟨(by skip; first | (simp only [em_gam, c6, if_true, if_false, Bool.false_eq_true]; done) | (unfold em_gam; rw [if_pos c6, if_pos c17, if_pos c30]; simp only [c6, hy8, if_true, if_false])), (by rw [show (em_gaA A I p p2 y z w9 st) = A from (by skip; first | (unfold em_gaA; rw [if_neg (by simp [em_gaV, c6])]; done) | (unfold em_gaA; rw [if_pos (by simp [em_gaV, c6, c17, c30])]))]; exact hM), xv_S.rf⟩ dX8_game_10
