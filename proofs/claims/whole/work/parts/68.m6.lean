set_option maxHeartbeats 4000000 in
set_option maxRecDepth 100000 in
theorem mX8_climbUp (l : Launch) (D : va_G) (cI cZ : ClassId) (bs : Nat) (ad : Nat → Nat) (ws : va_W) (b : Nat) (A : Nat → Nat → Int32) (I : Nat → Int32) (L : Int64) (hM : xv_M cI cZ ad ws b A I L) (p : Int32) (p2 : Int32) (y : Int32) (z : Int32) (hp : vp_in p 6) (hp2 : vp_in p2 6) (hh lm st : Nat)   (hy : y = nI hh) (hz : z = nI lm) (hst : I 8 = nI st) (h1 : 1 ≤ hh) (h2 : hh ≤ 15) (h3 : lm ≤ 15) (h4 : 1 ≤ st) (h5 : st ≤ 9) : Met l yX8_climbUp wsX8_climbUp ({ frames := 4, cells := 0, slots := 0, locals := 91 } : Room) (va_Pc [.ref (ad b), .int p, .int p2, .int y, .int z] (fun U => xg_W D cI cZ bs ws U)) (va_Qv (fun w : va_W => xv_M cI cZ ad w b A (em_cI I (em_clu A I p p2 hh lm st)) ((em_clu A I p p2 hh lm st).2.2.2) ∧ xv_S ws w b 24) (fun w t => xg_W D cI cZ bs w t) (xg_A bs)) 0 0 (xg_A bs) := by
  refine xg_met cX8_climbUp 7 none RX8 (by decide) rfl rfl (Nat.le_of_ble_eq_true rfl) ?_
  intro pg en s m below meth c ls S hr hlk hnm hB hl
  have hK := hB.1
  have hG := xg_start hB
  obtain ⟨hx, hb, hml, hown, hts⟩ := id S
  have hl : lv_has ls 7 [(0, .ref (ad b)), (1, .int p), (2, .int p2), (3, .int y), (4, .int z)] := hl
  obtain ⟨Q, hQ⟩ : ∃ Q, Q = MQ below (va_Qv (fun w : va_W => xv_M cI cZ ad w b A (em_cI I (em_clu A I p p2 hh lm st)) ((em_clu A I p p2 hh lm st).2.2.2) ∧ xv_S ws w b 24) (fun w t => xg_W D cI cZ bs w t) (xg_A bs)) ([.ref (ad b), .int p, .int p2, .int y, .int z] : List Value).toArray s 0 0 (xg_A bs) := ⟨_, rfl⟩
  rw [← hQ]
  have k0 := hts (.fieldLink RX8 278 "DareBridgeModel" "climbed" "I") (List.mem_of_getElem? (i := 1) rfl)
  have k1 := hts (.fieldLink RX8 281 "DareBridgeModel" "lastHeight" "I") (List.mem_of_getElem? (i := 2) rfl)
  have k2 := hts (.fieldLink RX8 284 "DareBridgeModel" "refuses" "I") (List.mem_of_getElem? (i := 3) rfl)
  have k3 := hts (.fieldLink RX8 287 "DareBridgeModel" "safeWays" "J") (List.mem_of_getElem? (i := 4) rfl)
  have k4 := hts (.fieldLink RX8 80 "DareBridgeModel" "step" "I") (List.mem_of_getElem? (i := 5) rfl)
  refine lv_aload_n hx hb dX8_climbUp_0 rfl (lv_at hl 0 rfl) ?_
  refine lv_iconst (v := 0) hx hb dX8_climbUp_1 (by decide) ?_
  refine xg_put2 (C := RX8) (T := TX8) (N := 46) (v := .int 0) (ty := .int) S hK hG (fun w h => List.mem_cons_of_mem _ (List.mem_append_right _ (h))) tyX8 tyX8_ok nmX8 b hM.1 rfl 35 (by decide) k0 (fun _ h9 => h9) rfl (by decide +kernel) rfl rfl (Nat.le_of_ble_eq_true rfl) dX8_climbUp_2 (fun w1 H locs hw1 hG => ?_)
  have hs2 : xv_S ws w1 b 1 := by rw [hw1]; exact xv_S.set (by omega) (by omega)
  obtain ⟨I3, eI3⟩ : ∃ zz : Nat → Int32, (va_up I 35 0) = zz := ⟨_, rfl⟩
  have hM : xv_M cI cZ ad w1 b A I3 L := by rw [hw1, ← eI3]; exact hM.fld (va_up I 35 0) L rfl
  have hSw1 : xv_S ws w1 b 24 := hs2.mono (by omega) (by omega)
  refine lv_aload_n hx hb dX8_climbUp_5 rfl (lv_at hl 0 rfl) ?_
  refine lv_iload_n hx hb dX8_climbUp_6 rfl (lv_at hl 3 rfl) ?_
  refine xg_put2 (C := RX8) (T := TX8) (N := 46) (v := .int y) (ty := .int) S hK hG (fun w h => List.mem_cons_of_mem _ (List.mem_append_right _ (h))) tyX8 tyX8_ok nmX8 b hM.1 rfl 36 (by decide) k1 (fun _ h9 => h9) rfl (by decide +kernel) rfl rfl (Nat.le_of_ble_eq_true rfl) dX8_climbUp_7 (fun w4 H locs hw4 hG => ?_)
  have hs5 : xv_S w1 w4 b 1 := by rw [hw4]; exact xv_S.set (by omega) (by omega)
  obtain ⟨I6, eI6⟩ : ∃ zz : Nat → Int32, (va_up I3 36 y) = zz := ⟨_, rfl⟩
  have hM : xv_M cI cZ ad w4 b A I6 L := by rw [hw4, ← eI6]; exact hM.fld (va_up I3 36 y) L rfl
  have hSw4 : xv_S ws w4 b 24 := hSw1.trans (hs5.mono (by omega) (by omega))
  refine lv_aload_n hx hb dX8_climbUp_10 rfl (lv_at hl 0 rfl) ?_
  refine lv_bipush (v := (-6)) hx hb dX8_climbUp_11 (by decide) ?_
  refine xg_put2 (C := RX8) (T := TX8) (N := 46) (v := .int (-6)) (ty := .int) S hK hG (fun w h => List.mem_cons_of_mem _ (List.mem_append_right _ (h))) tyX8 tyX8_ok nmX8 b hM.1 rfl 37 (by decide) k2 (fun _ h9 => h9) rfl (by decide +kernel) rfl rfl (Nat.le_of_ble_eq_true rfl) dX8_climbUp_13 (fun w7 H locs hw7 hG => ?_)
  have hs8 : xv_S w4 w7 b 1 := by rw [hw7]; exact xv_S.set (by omega) (by omega)
  obtain ⟨I9, eI9⟩ : ∃ zz : Nat → Int32, (va_up I6 37 (-6)) = zz := ⟨_, rfl⟩
  have hM : xv_M cI cZ ad w7 b A I9 L := by rw [hw7, ← eI9]; exact hM.fld (va_up I6 37 (-6)) L rfl
  have hSw7 : xv_S ws w7 b 24 := hSw4.trans (hs8.mono (by omega) (by omega))
  refine lv_aload_n hx hb dX8_climbUp_16 rfl (lv_at hl 0 rfl) ?_
  refine lv_lconst (v := 1) hx hb dX8_climbUp_17 (by decide) ?_
  refine xg_put2 (C := RX8) (T := TX8) (N := 46) (v := .long 1) (ty := .long) S hK hG (fun w h => List.mem_cons_of_mem _ (List.mem_append_right _ (h))) tyX8 tyX8_ok nmX8 b hM.1 rfl 38 (by decide) k3 (fun _ h9 => h9) rfl (by decide +kernel) rfl rfl (Nat.le_of_ble_eq_true rfl) dX8_climbUp_18 (fun w10 H locs hw10 hG => ?_)
  have hs11 : xv_S w7 w10 b 1 := by rw [hw10]; exact xv_S.set (by omega) (by omega)
  have hM : xv_M cI cZ ad w10 b A I9 1 := by rw [hw10]; exact hM.fld I9 (1) rfl
  have hSw10 : xv_S ws w10 b 24 := hSw7.trans (hs11.mono (by omega) (by omega))
  refine lv_iload_n hx hb dX8_climbUp_21 rfl (lv_at hl 2 rfl) ?_
  refine lv_istore (lv' := [(5, .int p2), (0, .ref (ad b)), (1, .int p), (2, .int p2), (3, .int y), (4, .int z)]) hx hb dX8_climbUp_22 hl (by decide) rfl (fun ls hl => ?_)
  refine lv_iload_n hx hb dX8_climbUp_24 rfl (lv_at hl 4 rfl) ?_
  refine lv_istore (lv' := [(6, .int y), (5, .int p2), (0, .ref (ad b)), (1, .int p), (2, .int p2), (3, .int y), (4, .int z)]) hx hb dX8_climbUp_25 hl (by decide) rfl (fun ls hl => ?_)
  -- the loop at 27
  have lp27 : ∀ (fu : Nat) (k : Nat) (h : Nat) (d : Int32) (dn : Int32) (la : Int32) (re : Int32) (u1 : Int64), (k ≤ 15) → (k + 1 ≤ h) → (h ≤ 24) → (16 ≤ k + fu) → (vp_in d 6) → (em_clu A I p p2 hh lm st = em_cuk A I p p2 lm st (16 - k) h d dn la re u1) → ∀ y27_6 : Int32, y27_6 = nI h → ∀ z27_hM_I : Nat → Int32, z27_hM_I = em_cI I (dn, la, re, u1) → ∀ (w27 : va_W) (H : Heap) (locs : List Loc), xg_H D bs w27 s.heap H locs → (xv_M cI cZ ad w27 b A z27_hM_I u1) → xv_S ws w27 b 24 → ∀ (ls : Array Slot), lv_has ls 7 [(0, .ref (ad b)), (1, .int p), (2, .int p2), (3, .int y), (4, .int z), (5, .int d), (6, .int y27_6)] → W pg l en ({ frames := 4, cells := 0, slots := 0, locals := 91 } : Room) s m ([.ref (ad b), .int p, .int p2, .int y, .int z] : List Value).toArray below meth c H locs 0 0 Q (F0 m 27 ls []) := by
    intro fu
    induction fu with
    | zero =>
      intro k h d dn la re u1 hk hkh hh24 hf hd hr2
      exact absurd hf (by omega)
    | succ fu ih =>
      intro k h d dn la re u1 hk hkh hh24 hf hd hr2 y27_6 ey27_6 z27_hM_I ez27_hM_I
      intro w27 H locs hG hM hSw27
      intro ls hl
      replace ey27_6 := ey27_6.symm; subst ey27_6
      replace ez27_hM_I := ez27_hM_I.symm; subst ez27_hM_I
      refine lv_iload hx hb dX8_climbUp_27 (lv_at hl 6 rfl) ?_
      refine lv_iload hx hb dX8_climbUp_29 (lv_at hl 4 rfl) ?_
      refine lv_icmp_gt (tgt := 123) hx hb dX8_climbUp_31 (by decide) (fun c31 => ?_) (fun c31 => ?_)
      · skip
        have hk9 : lm < h := xb_gt (by omega) (by omega) (by rw [← hz]; exact c31)
        have hfin : em_clu A I p p2 hh lm st = (dn, la, re, u1) := by subst eI3 eI6 eI9; rw [hr2, em_cuk_S (by omega)]; first | rw [if_pos hk9] | rw [if_neg (by omega), if_pos (show 0 ≤ re from c38)]
        rw [hQ]
        exact xg_emv S hr hlk hK hG ⟨(by rw [hfin]; exact hM), hSw27⟩ dX8_climbUp_123
      · skip
        have hk9 : h ≤ lm := xb_ngt (by omega) (by omega) (by rw [← hz]; exact c31)
        refine lv_aload_n hx hb dX8_climbUp_34 rfl (lv_at hl 0 rfl) ?_
        refine xg_get (C := RX8) (T := TX8) (N := 46) S hK hG (fun w h => List.mem_cons_of_mem _ (List.mem_append_right _ (h))) b hM.1 rfl 37 (by decide) k2 (fun _ h9 => h9) rfl dX8_climbUp_35 ?_
        refine lv_if_ge (tgt := 123) hx hb dX8_climbUp_38 (by decide) (fun c38 => ?_) (fun c38 => ?_)
        · skip
          have hfin : em_clu A I p p2 hh lm st = (dn, la, re, u1) := by subst eI3 eI6 eI9; rw [hr2, em_cuk_S (by omega)]; first | rw [if_pos hk9] | rw [if_neg (by omega), if_pos (show 0 ≤ re from c38)]
          rw [hQ]
          exact xg_emv S hr hlk hK hG ⟨(by rw [hfin]; exact hM), hSw27⟩ dX8_climbUp_123
        · skip
          refine lv_aload_n hx hb dX8_climbUp_41 rfl (lv_at hl 0 rfl) ?_
          refine lv_iload hx hb dX8_climbUp_42 (lv_at hl 6 rfl) ?_
          refine xg_put2 (C := RX8) (T := TX8) (N := 46) (v := .int (nI h)) (ty := .int) S hK hG (fun w h => List.mem_cons_of_mem _ (List.mem_append_right _ (h))) tyX8 tyX8_ok nmX8 b hM.1 rfl 36 (by decide) k1 (fun _ h9 => h9) rfl (by decide +kernel) rfl rfl (Nat.le_of_ble_eq_true rfl) dX8_climbUp_44 (fun w12 H locs hw12 hG => ?_)
          have hs13 : xv_S w27 w12 b 1 := by rw [hw12]; exact xv_S.set (by omega) (by omega)
          obtain ⟨I14, eI14⟩ : ∃ zz : Nat → Int32, (va_up (em_cI I (dn, la, re, u1)) 36 (nI h)) = zz := ⟨_, rfl⟩
          have hM : xv_M cI cZ ad w12 b A I14 u1 := by rw [hw12, ← eI14]; exact hM.fld (va_up (em_cI I (dn, la, re, u1)) 36 (nI h)) u1 rfl
          have hSw12 : xv_S ws w12 b 24 := hSw27.trans (hs13.mono (by omega) (by omega))
          refine lv_aload_n hx hb dX8_climbUp_47 rfl (lv_at hl 0 rfl) ?_
          refine lv_iload hx hb dX8_climbUp_48 (lv_at hl 5 rfl) ?_
          refine lv_iload hx hb dX8_climbUp_50 (lv_at hl 6 rfl) ?_
          refine xg_ri (va_runV (As := [.int d, .int (nI h)]) (rest := []) S (mX8_doesIt l D cI cZ bs ad w12 b A I14 u1 hM d (nI h) (by first | assumption | omega)) (cwV 2 hts gX8_climbUp_X8_doesIt rfl rfl rfl (by decide +kernel) ⟨Nat.le_of_ble_eq_true rfl, Nat.le_of_ble_eq_true rfl⟩) (xg_preV hK hG b hM.1 rfl rfl) rfl rfl hl.1 rfl (lv_room (Nat.le_of_ble_eq_true rfl)) dX8_climbUp_52 ⟨Nat.zero_le _, Nat.zero_le _⟩) (fun r15 hr15 => ?_)
          replace hr15 := hr15.symm; subst hr15
          refine xb_ifeq (tgt := 105) S dX8_climbUp_55 (by decide) (fun c55 => ?_) (fun c55 => ?_)
          · skip
            refine lv_aload_n hx hb dX8_climbUp_105 rfl (lv_at hl 0 rfl) ?_
            refine lv_iload hx hb dX8_climbUp_106 (lv_at hl 5 rfl) ?_
            refine xg_put2 (C := RX8) (T := TX8) (N := 46) (v := .int d) (ty := .int) S hK hG (fun w h => List.mem_cons_of_mem _ (List.mem_append_right _ (h))) tyX8 tyX8_ok nmX8 b hM.1 rfl 37 (by decide) k2 (fun _ h9 => h9) rfl (by decide +kernel) rfl rfl (Nat.le_of_ble_eq_true rfl) dX8_climbUp_108 (fun w16 H locs hw16 hG => ?_)
            have hs17 : xv_S w12 w16 b 1 := by rw [hw16]; exact xv_S.set (by omega) (by omega)
            obtain ⟨I18, eI18⟩ : ∃ zz : Nat → Int32, (va_up I14 37 d) = zz := ⟨_, rfl⟩
            have hM : xv_M cI cZ ad w16 b A I18 u1 := by rw [hw16, ← eI18]; exact hM.fld (va_up I14 37 d) u1 rfl
            have hSw16 : xv_S ws w16 b 24 := hSw12.trans (hs17.mono (by omega) (by omega))
            refine lv_iload hx hb dX8_climbUp_111 (lv_at hl 6 rfl) ?_
            refine lv_aload_n hx hb dX8_climbUp_113 rfl (lv_at hl 0 rfl) ?_
            refine xg_get (C := RX8) (T := TX8) (N := 46) S hK hG (fun w h => List.mem_cons_of_mem _ (List.mem_append_right _ (h))) b hM.1 rfl 8 (by decide) k4 (fun _ h9 => h9) rfl dX8_climbUp_114 ?_
            refine lv_iadd hx hb dX8_climbUp_117 ?_
            refine lv_topi (fun x19 ex19 => ?_)
            replace ex19 := ex19.symm
            refine lv_istore (lv' := [(6, .int x19), (0, .ref (ad b)), (1, .int p), (2, .int p2), (3, .int y), (4, .int z), (5, .int d)]) hx hb dX8_climbUp_118 hl (by decide) rfl (fun ls hl => ?_)
            refine lv_goto (tgt := 27) hx hb dX8_climbUp_120 (by decide) ?_
            exact ih (k + 1) (h + st) d dn (nI h) d u1 (by omega) (by omega) (by omega) (by omega) hd (by subst eI3 eI6 eI9 eI14 eI18 ex19; rw [hr2, em_cuk_S (by omega), if_neg (by omega), if_neg (show ¬ 0 ≤ re from c38)]; rw [if_neg (by have := c55; simp [em_cI, em_dit_ne] at this; simp [this])]) x19 (by subst eI3 eI6 eI9 eI14 eI18 ex19; exact (congrArg (fun v => nI h + v) hst).trans (nI_add h st)) I18 (by subst eI3 eI6 eI9 eI14 eI18 ex19; first | exact em_cI_a | exact em_cI_b) w16 _ _ hG hM hSw16 ls (lv_sub hl [1, 2, 3, 4, 5, 6, 0] rfl)
          · skip
            refine lv_aload_n hx hb dX8_climbUp_58 rfl (lv_at hl 0 rfl) ?_
            refine lv_dup hx hb dX8_climbUp_59 rfl ?_
            refine xg_get (C := RX8) (T := TX8) (N := 46) S hK hG (fun w h => List.mem_cons_of_mem _ (List.mem_append_right _ (h))) b hM.1 rfl 35 (by decide) k0 (fun _ h9 => h9) rfl dX8_climbUp_60 ?_
            refine lv_iconst (v := 1) hx hb dX8_climbUp_63 (by decide) ?_
            refine lv_iadd hx hb dX8_climbUp_64 ?_
            refine xg_put2 (C := RX8) (T := TX8) (N := 46) (v := .int ((I14 35) + 1)) (ty := .int) S hK hG (fun w h => List.mem_cons_of_mem _ (List.mem_append_right _ (h))) tyX8 tyX8_ok nmX8 b hM.1 rfl 35 (by decide) k0 (fun _ h9 => h9) rfl (by decide +kernel) rfl rfl (Nat.le_of_ble_eq_true rfl) dX8_climbUp_65 (fun w20 H locs hw20 hG => ?_)
            have hs21 : xv_S w12 w20 b 1 := by rw [hw20]; exact xv_S.set (by omega) (by omega)
            obtain ⟨I22, eI22⟩ : ∃ zz : Nat → Int32, (va_up I14 35 ((I14 35) + 1)) = zz := ⟨_, rfl⟩
            have hM : xv_M cI cZ ad w20 b A I22 u1 := by rw [hw20, ← eI22]; exact hM.fld (va_up I14 35 ((I14 35) + 1)) u1 rfl
            have hSw20 : xv_S ws w20 b 24 := hSw12.trans (hs21.mono (by omega) (by omega))
            refine lv_aload_n hx hb dX8_climbUp_68 rfl (lv_at hl 0 rfl) ?_
            refine lv_dup hx hb dX8_climbUp_69 rfl ?_
            refine xg_get (C := RX8) (T := TX8) (N := 46) S hK hG (fun w h => List.mem_cons_of_mem _ (List.mem_append_right _ (h))) b hM.1 rfl 38 (by decide) k3 (fun _ h9 => h9) rfl dX8_climbUp_70 ?_
            refine lv_bipush (v := 10) hx hb dX8_climbUp_73 (by decide) ?_
            refine lv_aload_n hx hb dX8_climbUp_75 rfl (lv_at hl 0 rfl) ?_
            refine lv_iload hx hb dX8_climbUp_76 (lv_at hl 5 rfl) ?_
            refine lv_iload hx hb dX8_climbUp_78 (lv_at hl 6 rfl) ?_
            refine xg_ri (va_runV (As := [.int d, .int (nI h)]) (rest := [.int 10, .long u1, .ref (ad b)]) S (mX8_oddsOf l D cI cZ bs ad w20 b A I22 u1 hM d (nI h) (by first | assumption | omega)) (cwV 2 hts gX8_climbUp_X8_oddsOf rfl rfl rfl (by decide +kernel) ⟨Nat.le_of_ble_eq_true rfl, Nat.le_of_ble_eq_true rfl⟩) (xg_preV hK hG b hM.1 rfl rfl) rfl rfl hl.1 rfl (lv_room (Nat.le_of_ble_eq_true rfl)) dX8_climbUp_80 ⟨Nat.zero_le _, Nat.zero_le _⟩) (fun r23 hr23 => ?_)
            replace hr23 := hr23.symm; subst hr23
            refine lv_isub hx hb dX8_climbUp_83 ?_
            refine lv_i2l (v := (10 - (em_odd A I22 d (nI h))).toInt64) hx hb dX8_climbUp_84 rfl ?_
            refine lv_lmul hx hb dX8_climbUp_85 ?_
            refine xg_put2 (C := RX8) (T := TX8) (N := 46) (v := .long (u1 * ((10 - (em_odd A I22 d (nI h))).toInt64))) (ty := .long) S hK hG (fun w h => List.mem_cons_of_mem _ (List.mem_append_right _ (h))) tyX8 tyX8_ok nmX8 b hM.1 rfl 38 (by decide) k3 (fun _ h9 => h9) rfl (by decide +kernel) rfl rfl (Nat.le_of_ble_eq_true rfl) dX8_climbUp_86 (fun w24 H locs hw24 hG => ?_)
            have hs25 : xv_S w20 w24 b 1 := by rw [hw24]; exact xv_S.set (by omega) (by omega)
            obtain ⟨L26, eL26⟩ : ∃ zz : Int64, (u1 * ((10 - (em_odd A I22 d (nI h))).toInt64)) = zz := ⟨_, rfl⟩
            have hM : xv_M cI cZ ad w24 b A I22 L26 := by rw [hw24, ← eL26]; exact hM.fld I22 (u1 * ((10 - (em_odd A I22 d (nI h))).toInt64)) rfl
            have hSw24 : xv_S ws w24 b 24 := hSw20.trans (hs25.mono (by omega) (by omega))
            refine lv_iload hx hb dX8_climbUp_89 (lv_at hl 5 rfl) ?_
            refine lv_iload_n hx hb dX8_climbUp_91 rfl (lv_at hl 2 rfl) ?_
            have jn100_27 : ∀ v27 : Int32, v27 = (if d = p2 then p else p2) → W pg l en ({ frames := 4, cells := 0, slots := 0, locals := 91 } : Room) s m ([.ref (ad b), .int p, .int p2, .int y, .int z] : List Value).toArray below meth c H locs 0 0 Q (F0 m 100 ls [.int v27]) := by
              intro v27 ev27
              replace ev27 := ev27.symm
              refine lv_istore (lv' := [(5, .int v27), (0, .ref (ad b)), (1, .int p), (2, .int p2), (3, .int y), (4, .int z), (6, .int (nI h))]) hx hb dX8_climbUp_100 hl (by decide) rfl (fun ls hl => ?_)
              refine lv_goto (tgt := 111) hx hb dX8_climbUp_102 (by decide) ?_
              refine lv_iload hx hb dX8_climbUp_111 (lv_at hl 6 rfl) ?_
              refine lv_aload_n hx hb dX8_climbUp_113 rfl (lv_at hl 1 rfl) ?_
              refine xg_get (C := RX8) (T := TX8) (N := 46) S hK hG (fun w h => List.mem_cons_of_mem _ (List.mem_append_right _ (h))) b hM.1 rfl 8 (by decide) k4 (fun _ h9 => h9) rfl dX8_climbUp_114 ?_
              refine lv_iadd hx hb dX8_climbUp_117 ?_
              refine lv_topi (fun x28 ex28 => ?_)
              replace ex28 := ex28.symm
              refine lv_istore (lv' := [(6, .int x28), (5, .int v27), (0, .ref (ad b)), (1, .int p), (2, .int p2), (3, .int y), (4, .int z)]) hx hb dX8_climbUp_118 hl (by decide) rfl (fun ls hl => ?_)
              refine lv_goto (tgt := 27) hx hb dX8_climbUp_120 (by decide) ?_
              exact ih (k + 1) (h + st) v27 (dn + 1) (nI h) re L26 (by omega) (by omega) (by omega) (by omega) (by subst eI3 eI6 eI9 eI14 eI22 eL26 ev27 ex28; split <;> assumption) (by subst eI3 eI6 eI9 eI14 eI22 eL26 ev27 ex28; rw [hr2, em_cuk_S (by omega), if_neg (by omega), if_neg (show ¬ 0 ≤ re from c38)]; rw [if_pos (by simpa [em_cI, em_dit_ne] using c55)]; simp [em_cI, em_odd_ne]) x28 (by subst eI3 eI6 eI9 eI14 eI22 eL26 ev27 ex28; exact (congrArg (fun v => nI h + v) hst).trans (nI_add h st)) I22 (by subst eI3 eI6 eI9 eI14 eI22 eL26 ev27 ex28; first | exact em_cI_a | exact em_cI_b) w24 _ _ hG hM hSw24 ls (lv_sub hl [2, 3, 4, 5, 6, 1, 0] rfl)
            refine lv_icmp_ne (tgt := 99) hx hb dX8_climbUp_92 (by decide) (fun c92 => ?_) (fun c92 => ?_)
            · skip
              refine lv_iload_n hx hb dX8_climbUp_99 rfl (lv_at hl 2 rfl) ?_
              exact jn100_27 _ (by rw [if_neg c92])
            · skip
              refine lv_iload_n hx hb dX8_climbUp_95 rfl (lv_at hl 1 rfl) ?_
              refine lv_goto (tgt := 100) hx hb dX8_climbUp_96 (by decide) ?_
              exact jn100_27 _ (by rw [if_pos c92])
  exact lp27 16 0 hh p2 0 y (-6) 1 (by omega) (by omega) (by omega) (by omega) hp2 (by subst eI3 eI6 eI9; rw [hy]; rfl) y hy I9 (by subst eI3 eI6 eI9; rfl) w10 _ _ hG hM hSw10 ls (lv_sub hl [2, 3, 4, 5, 6, 1, 0] rfl)
