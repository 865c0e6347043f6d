set_option maxHeartbeats 4000000 in
set_option maxRecDepth 100000 in
theorem mX1_go (l : Launch) (D : va_G) (cI cZ : ClassId) (bs : Nat) (ad : Nat → Nat) (ws : va_W) (b : Nat) (b2 : Nat) (dn0 : Int32) (la0 : Int32) (re0 : Int32) (hO : ws[b]? = some (ad b, .inr (1, [.ref (ad (b + 1)), .int dn0, .int la0, .int re0]))) (u : Int64) (v : Int64) (hCh : ws[b + 1]? = some (ad (b + 1), .inr (0, [.long u, .long v]))) (T : Nat → Nat → Int32) (hT : xv_T cI ad ws b2 T) (f : Int32) (s2 : Int32) (y : Int32) (lim : Int32) (hh lm st : Nat)   (hy : y = nI hh) (hlim : lim = nI lm) (hst : xb_at 7 (T 0) 0 = nI st) (h1 : 1 ≤ hh) (h2 : hh ≤ 15) (h3 : lm ≤ 15) (h4 : 1 ≤ st) (h5 : st ≤ 9) (hbc : b + 2 ≤ b2 ∨ b2 + 13 ≤ b) : Met l yX1_go wsX1_go ({ frames := 4, cells := 0, slots := 0, locals := 94 } : Room) (va_Pc [.ref (ad b), .ref (ad b2), .int f, .int s2, .int y, .int lim] (fun U => xg_W D cI cZ bs ws U)) (va_Qv (fun w : va_W => w[b]? = some (ad b, .inr (1, [.ref (ad (b + 1)), .int ((dc_clm T f s2 hh lm st).1), .int ((dc_clm T f s2 hh lm st).2.1), .int ((dc_clm T f s2 hh lm st).2.2.1)])) ∧ w[b + 1]? = some (ad (b + 1), .inr (0, [.long ((dc_clm T f s2 hh lm st).2.2.2.1), .long ((dc_clm T f s2 hh lm st).2.2.2.2)])) ∧ xv_T cI ad w b2 T ∧ xv_S ws w b 2) (fun w t => xg_W D cI cZ bs w t) (xg_A bs)) 0 0 (xg_A bs) := by
  refine xg_met cX1_go 9 none RX1 (by decide) rfl rfl (Nat.le_of_ble_eq_true rfl) ?_
  intro pg en s m below meth c ls S hr hlk hnm hB hl
  have hK := hB.1
  have hG := xg_start hB
  obtain ⟨hx, hb, hml, hown, hts⟩ := id S
  have hl : lv_has ls 9 [(0, .ref (ad b)), (1, .ref (ad b2)), (2, .int f), (3, .int s2), (4, .int y), (5, .int lim)] := hl
  obtain ⟨Q, hQ⟩ : ∃ Q, Q = MQ below (va_Qv (fun w : va_W => w[b]? = some (ad b, .inr (1, [.ref (ad (b + 1)), .int ((dc_clm T f s2 hh lm st).1), .int ((dc_clm T f s2 hh lm st).2.1), .int ((dc_clm T f s2 hh lm st).2.2.1)])) ∧ w[b + 1]? = some (ad (b + 1), .inr (0, [.long ((dc_clm T f s2 hh lm st).2.2.2.1), .long ((dc_clm T f s2 hh lm st).2.2.2.2)])) ∧ xv_T cI ad w b2 T ∧ xv_S ws w b 2) (fun w t => xg_W D cI cZ bs w t) (xg_A bs)) ([.ref (ad b), .ref (ad b2), .int f, .int s2, .int y, .int lim] : List Value).toArray s 0 0 (xg_A bs) := ⟨_, rfl⟩
  rw [← hQ]
  have k0 := hts (.fieldLink RX1 12 "DareBridge$Climb" "luck" "LDareBridge$Chance;") (List.mem_of_getElem? (i := 1) rfl)
  have k1 := hts (.fieldLink RX1 21 "DareBridge$Climb" "done" "I") (List.mem_of_getElem? (i := 2) rfl)
  have k2 := hts (.fieldLink RX1 25 "DareBridge$Climb" "last" "I") (List.mem_of_getElem? (i := 3) rfl)
  have k3 := hts (.fieldLink RX1 28 "DareBridge$Climb" "refuser" "I") (List.mem_of_getElem? (i := 4) rfl)
  have k4 := hts (.methodLink RX1 37 Lib.Math.max.name) (List.mem_of_getElem? (i := 5) rfl)
  have k5 := hts (.static Lib.Math.max.name) (List.mem_of_getElem? (i := 6) rfl)
  have k6 := hts (.initialized "java/lang/Math") (List.mem_of_getElem? (i := 7) rfl)
  have k7 := hts (.code Lib.Math.max.name Lib.Math.max.code 2 (some .int)) (List.mem_of_getElem? (i := 8) rfl)
  refine lv_aload_n hx hb dX1_go_0 rfl (lv_at hl 0 rfl) ?_
  refine xg_get (C := RX1) (T := TX1) (N := 4) S hK hG (fun w h => List.mem_cons_of_mem _ (List.mem_append_left _ (List.mem_append_left _ (List.mem_append_right _ (h))))) b hO rfl 0 (by decide) k0 (fun _ h9 => h9) rfl dX1_go_1 ?_
  refine xg_mv (va_runV (As := []) (rest := []) S (mX0_begin l D cI cZ bs ad ws (b + 1) u v hCh) (cwV 0 hts gX1_go_X0_begin rfl rfl rfl (by decide +kernel) ⟨Nat.le_of_ble_eq_true rfl, Nat.le_of_ble_eq_true rfl⟩) (xg_preV hK hG (b + 1) hCh rfl rfl) rfl rfl hl.1 rfl (lv_room (Nat.le_of_ble_eq_true rfl)) dX1_go_4 ⟨Nat.zero_le _, Nat.zero_le _⟩) hG (fun w2 H locs hr1 hG => ?_)
  obtain ⟨hvw2_0, hsw2⟩ := hr1
  have hCh : w2[b + 1]? = some (ad (b + 1), .inr (0, [.long 1, .long 1])) := hvw2_0
  have hO : w2[b]? = some (ad b, .inr (1, [.ref (ad (b + 1)), .int dn0, .int la0, .int re0])) := hsw2.at hO (by omega)
  have hT : xv_T cI ad w2 b2 T := hT.of_S hsw2 (by omega)
  have hSw2 : xv_S ws w2 b 2 := hsw2.mono (by omega) (by omega)
  refine lv_aload_n hx hb dX1_go_7 rfl (lv_at hl 0 rfl) ?_
  refine lv_iconst (v := 0) hx hb dX1_go_8 (by decide) ?_
  refine xg_put2 (C := RX1) (T := TX1) (N := 4) (v := .int 0) (ty := .int) S hK hG (fun w h => List.mem_cons_of_mem _ (List.mem_append_left _ (List.mem_append_left _ (List.mem_append_right _ (h))))) tyX1 tyX1_ok nmX1 b hO rfl 1 (by decide) k1 (fun _ h9 => h9) rfl (by decide +kernel) rfl rfl (Nat.le_of_ble_eq_true rfl) dX1_go_9 (fun w3 H locs hw3 hG => ?_)
  have hs4 : xv_S w2 w3 b 1 := by rw [hw3]; exact xv_S.set (by omega) (by omega)
  have hO : w3[b]? = some (ad b, .inr (1, [.ref (ad (b + 1)), .int 0, .int la0, .int re0])) := by rw [hw3]; exact xv_self hO
  have hCh : w3[b + 1]? = some (ad (b + 1), .inr (0, [.long 1, .long 1])) := hs4.at hCh (by omega)
  have hT : xv_T cI ad w3 b2 T := hT.of_S hs4 (by omega)
  have hSw3 : xv_S ws w3 b 2 := hSw2.trans (hs4.mono (by omega) (by omega))
  refine lv_aload_n hx hb dX1_go_12 rfl (lv_at hl 0 rfl) ?_
  refine lv_iload hx hb dX1_go_13 (lv_at hl 4 rfl) ?_
  refine xg_put2 (C := RX1) (T := TX1) (N := 4) (v := .int y) (ty := .int) S hK hG (fun w h => List.mem_cons_of_mem _ (List.mem_append_left _ (List.mem_append_left _ (List.mem_append_right _ (h))))) tyX1 tyX1_ok nmX1 b hO rfl 2 (by decide) k2 (fun _ h9 => h9) rfl (by decide +kernel) rfl rfl (Nat.le_of_ble_eq_true rfl) dX1_go_15 (fun w5 H locs hw5 hG => ?_)
  have hs6 : xv_S w3 w5 b 1 := by rw [hw5]; exact xv_S.set (by omega) (by omega)
  have hO : w5[b]? = some (ad b, .inr (1, [.ref (ad (b + 1)), .int 0, .int y, .int re0])) := by rw [hw5]; exact xv_self hO
  have hCh : w5[b + 1]? = some (ad (b + 1), .inr (0, [.long 1, .long 1])) := hs6.at hCh (by omega)
  have hT : xv_T cI ad w5 b2 T := hT.of_S hs6 (by omega)
  have hSw5 : xv_S ws w5 b 2 := hSw3.trans (hs6.mono (by omega) (by omega))
  refine lv_aload_n hx hb dX1_go_18 rfl (lv_at hl 0 rfl) ?_
  refine lv_bipush (v := (-6)) hx hb dX1_go_19 (by decide) ?_
  refine xg_put2 (C := RX1) (T := TX1) (N := 4) (v := .int (-6)) (ty := .int) S hK hG (fun w h => List.mem_cons_of_mem _ (List.mem_append_left _ (List.mem_append_left _ (List.mem_append_right _ (h))))) tyX1 tyX1_ok nmX1 b hO rfl 3 (by decide) k3 (fun _ h9 => h9) rfl (by decide +kernel) rfl rfl (Nat.le_of_ble_eq_true rfl) dX1_go_21 (fun w7 H locs hw7 hG => ?_)
  have hs8 : xv_S w5 w7 b 1 := by rw [hw7]; exact xv_S.set (by omega) (by omega)
  have hO : w7[b]? = some (ad b, .inr (1, [.ref (ad (b + 1)), .int 0, .int y, .int (-6)])) := by rw [hw7]; exact xv_self hO
  have hCh : w7[b + 1]? = some (ad (b + 1), .inr (0, [.long 1, .long 1])) := hs8.at hCh (by omega)
  have hT : xv_T cI ad w7 b2 T := hT.of_S hs8 (by omega)
  have hSw7 : xv_S ws w7 b 2 := hSw5.trans (hs8.mono (by omega) (by omega))
  refine lv_aload_n hx hb dX1_go_24 rfl (lv_at hl 1 rfl) ?_
  refine lv_ifnonnull (tgt := 29) hx hb dX1_go_25 (by decide) ?_
  refine lv_iconst (v := 1) hx hb dX1_go_29 (by decide) ?_
  refine lv_aload_n hx hb dX1_go_30 rfl (lv_at hl 1 rfl) ?_
  refine lv_iconst (v := 0) hx hb dX1_go_31 (by decide) ?_
  refine xg_ri (va_runV (As := [.int 0]) (rest := [.int 1]) S (mX5_rule l D cI cZ bs ad w7 b2 T hT 0) (cwV 1 hts gX1_go_X5_rule rfl rfl rfl (by decide +kernel) ⟨Nat.le_of_ble_eq_true rfl, Nat.le_of_ble_eq_true rfl⟩) (xg_preV hK hG b2 hT.1 rfl rfl) rfl rfl hl.1 rfl (lv_room (Nat.le_of_ble_eq_true rfl)) dX1_go_32 ⟨Nat.zero_le _, Nat.zero_le _⟩) (fun r9 hr9 => ?_)
  replace hr9 := hr9.symm; subst hr9
  refine va_mmax hx hb (hml.trans hl.1.symm) hown k4 k5 k6 k7 (Nat.le_of_ble_eq_true rfl) (Nat.le_of_ble_eq_true rfl) (Nat.zero_le _) (Nat.zero_le _) dX1_go_35 ?_
  refine lv_topi (fun x10 ex10 => ?_)
  replace ex10 := ex10.symm
  refine lv_istore (lv' := [(6, .int x10), (0, .ref (ad b)), (1, .ref (ad b2)), (2, .int f), (3, .int s2), (4, .int y), (5, .int lim)]) hx hb dX1_go_38 hl (by decide) rfl (fun ls hl => ?_)
  refine lv_iload_n hx hb dX1_go_40 rfl (lv_at hl 4 rfl) ?_
  refine lv_istore (lv' := [(7, .int s2), (6, .int x10), (0, .ref (ad b)), (1, .ref (ad b2)), (2, .int f), (3, .int s2), (4, .int y), (5, .int lim)]) hx hb dX1_go_41 hl (by decide) rfl (fun ls hl => ?_)
  refine lv_iload hx hb dX1_go_43 (lv_at hl 6 rfl) ?_
  refine lv_istore (lv' := [(8, .int y), (7, .int s2), (6, .int x10), (0, .ref (ad b)), (1, .ref (ad b2)), (2, .int f), (3, .int s2), (4, .int y), (5, .int lim)]) hx hb dX1_go_45 hl (by decide) rfl (fun ls hl => ?_)
  -- the loop at 47
  have hmx : x10 = nI st := by subst ex10; rw [hst]; exact xb_mx1 h4 (by omega)
  have lp47 : ∀ (fu : Nat) (k : Nat) (h : Nat) (d : Int32) (dn : Int32) (la : Int32) (u1 : Int64) (v1 : Int64), (k ≤ 15) → (k + 1 ≤ h) → (h ≤ 24) → (16 ≤ k + fu) → (dc_clm T f s2 hh lm st = dc_clk T f s2 lm st (16 - k) h d dn la u1 v1) → ∀ y47_8 : Int32, y47_8 = nI h → ∀ z47_hO_3 : Int32, z47_hO_3 = -6 → ∀ (w47 : va_W) (H : Heap) (locs : List Loc), xg_H D bs w47 s.heap H locs → (w47[b]? = some (ad b, .inr (1, [.ref (ad (b + 1)), .int dn, .int la, .int z47_hO_3]))) → (w47[b + 1]? = some (ad (b + 1), .inr (0, [.long u1, .long v1]))) → (xv_T cI ad w47 b2 T) → xv_S ws w47 b 2 → ∀ (ls : Array Slot), lv_has ls 9 [(0, .ref (ad b)), (1, .ref (ad b2)), (2, .int f), (3, .int s2), (4, .int y), (5, .int lim), (6, .int x10), (7, .int d), (8, .int y47_8)] → W pg l en ({ frames := 4, cells := 0, slots := 0, locals := 94 } : Room) s m ([.ref (ad b), .ref (ad b2), .int f, .int s2, .int y, .int lim] : List Value).toArray below meth c H locs 0 0 Q (F0 m 47 ls []) := by
    intro fu
    induction fu with
    | zero =>
      intro k h d dn la u1 v1 hk hkh hh24 hf hr2
      exact absurd hf (by omega)
    | succ fu ih =>
      intro k h d dn la u1 v1 hk hkh hh24 hf hr2 y47_8 ey47_8 z47_hO_3 ez47_hO_3
      intro w47 H locs hG hO hCh hT hSw47
      intro ls hl
      replace ey47_8 := ey47_8.symm; subst ey47_8
      replace ez47_hO_3 := ez47_hO_3.symm; subst ez47_hO_3
      refine lv_iload hx hb dX1_go_47 (lv_at hl 8 rfl) ?_
      refine lv_iload hx hb dX1_go_49 (lv_at hl 5 rfl) ?_
      refine lv_icmp_gt (tgt := 132) hx hb dX1_go_51 (by decide) (fun c51 => ?_) (fun c51 => ?_)
      · skip
        have hk9 : lm < h := xb_gt (by omega) (by omega) (by rw [← hlim]; exact c51)
        rw [hQ]
        exact xg_emv S hr hlk hK hG ⟨(by rw [show ((dc_clm T f s2 hh lm st).1) = dn from (by subst ex10; first | (rw [hr2, dc_clk_S (by omega), if_pos hk9]) | (rw [hr2, dc_clk_S (by omega), if_neg (by omega), if_neg (by simp [c74])]))]; rw [show ((dc_clm T f s2 hh lm st).2.1) = la from (by subst ex10; first | (rw [hr2, dc_clk_S (by omega), if_pos hk9]) | (rw [hr2, dc_clk_S (by omega), if_neg (by omega), if_neg (by simp [c74])]))]; rw [show ((dc_clm T f s2 hh lm st).2.2.1) = (-6) from (by subst ex10; first | (rw [hr2, dc_clk_S (by omega), if_pos hk9]) | (rw [hr2, dc_clk_S (by omega), if_neg (by omega), if_neg (by simp [c74])]))]; exact hO), (by rw [show ((dc_clm T f s2 hh lm st).2.2.2.1) = u1 from (by subst ex10; first | (rw [hr2, dc_clk_S (by omega), if_pos hk9]) | (rw [hr2, dc_clk_S (by omega), if_neg (by omega), if_neg (by simp [c74])]))]; rw [show ((dc_clm T f s2 hh lm st).2.2.2.2) = v1 from (by subst ex10; first | (rw [hr2, dc_clk_S (by omega), if_pos hk9]) | (rw [hr2, dc_clk_S (by omega), if_neg (by omega), if_neg (by simp [c74])]))]; exact hCh), hT, hSw47⟩ dX1_go_132
      · skip
        have hk9 : h ≤ lm := xb_ngt (by omega) (by omega) (by rw [← hlim]; exact c51)
        refine lv_aload_n hx hb dX1_go_54 rfl (lv_at hl 0 rfl) ?_
        refine lv_iload hx hb dX1_go_55 (lv_at hl 8 rfl) ?_
        refine xg_put2 (C := RX1) (T := TX1) (N := 4) (v := .int (nI h)) (ty := .int) S hK hG (fun w h => List.mem_cons_of_mem _ (List.mem_append_left _ (List.mem_append_left _ (List.mem_append_right _ (h))))) tyX1 tyX1_ok nmX1 b hO rfl 2 (by decide) k2 (fun _ h9 => h9) rfl (by decide +kernel) rfl rfl (Nat.le_of_ble_eq_true rfl) dX1_go_57 (fun w11 H locs hw11 hG => ?_)
        have hs12 : xv_S w47 w11 b 1 := by rw [hw11]; exact xv_S.set (by omega) (by omega)
        have hO : w11[b]? = some (ad b, .inr (1, [.ref (ad (b + 1)), .int dn, .int (nI h), .int (-6)])) := by rw [hw11]; exact xv_self hO
        have hCh : w11[b + 1]? = some (ad (b + 1), .inr (0, [.long u1, .long v1])) := hs12.at hCh (by omega)
        have hT : xv_T cI ad w11 b2 T := hT.of_S hs12 (by omega)
        have hSw11 : xv_S ws w11 b 2 := hSw47.trans (hs12.mono (by omega) (by omega))
        refine lv_aload_n hx hb dX1_go_60 rfl (lv_at hl 1 rfl) ?_
        refine lv_iload hx hb dX1_go_61 (lv_at hl 7 rfl) ?_
        refine lv_iload hx hb dX1_go_63 (lv_at hl 8 rfl) ?_
        refine lv_aload_n hx hb dX1_go_65 rfl (lv_at hl 1 rfl) ?_
        refine lv_iload hx hb dX1_go_66 (lv_at hl 7 rfl) ?_
        refine xg_ri (va_runV (As := [.int d]) (rest := [.int (nI h), .int d, .ref (ad b2)]) S (mX5_prideOf l D cI cZ bs ad w11 b2 T hT d) (cwV 1 hts gX1_go_X5_prideOf rfl rfl rfl (by decide +kernel) ⟨Nat.le_of_ble_eq_true rfl, Nat.le_of_ble_eq_true rfl⟩) (xg_preV hK hG b2 hT.1 rfl rfl) rfl rfl hl.1 rfl (lv_room (Nat.le_of_ble_eq_true rfl)) dX1_go_68 ⟨Nat.zero_le _, Nat.zero_le _⟩) (fun r13 hr13 => ?_)
        replace hr13 := hr13.symm; subst hr13
        refine xg_ri (va_runV (As := [.int d, .int (nI h), .int (dt_prd T d)]) (rest := []) S (mX5_dares l D cI cZ bs ad w11 b2 T hT d (nI h) (dt_prd T d)) (cwV 3 hts gX1_go_X5_dares rfl rfl rfl (by decide +kernel) ⟨Nat.le_of_ble_eq_true rfl, Nat.le_of_ble_eq_true rfl⟩) (xg_preV hK hG b2 hT.1 rfl rfl) rfl rfl hl.1 rfl (lv_room (Nat.le_of_ble_eq_true rfl)) dX1_go_71 ⟨Nat.zero_le _, Nat.zero_le _⟩) (fun r14 hr14 => ?_)
        replace hr14 := hr14.symm; subst hr14
        refine xb_ifne (tgt := 84) S dX1_go_74 (by decide) (fun c74 => ?_) (fun c74 => ?_)
        · skip
          refine lv_aload_n hx hb dX1_go_84 rfl (lv_at hl 0 rfl) ?_
          refine lv_dup hx hb dX1_go_85 rfl ?_
          refine xg_get (C := RX1) (T := TX1) (N := 4) S hK hG (fun w h => List.mem_cons_of_mem _ (List.mem_append_left _ (List.mem_append_left _ (List.mem_append_right _ (h))))) b hO rfl 1 (by decide) k1 (fun _ h9 => h9) rfl dX1_go_86 ?_
          refine lv_iconst (v := 1) hx hb dX1_go_89 (by decide) ?_
          refine lv_iadd hx hb dX1_go_90 ?_
          refine xg_put2 (C := RX1) (T := TX1) (N := 4) (v := .int (dn + 1)) (ty := .int) S hK hG (fun w h => List.mem_cons_of_mem _ (List.mem_append_left _ (List.mem_append_left _ (List.mem_append_right _ (h))))) tyX1 tyX1_ok nmX1 b hO rfl 1 (by decide) k1 (fun _ h9 => h9) rfl (by decide +kernel) rfl rfl (Nat.le_of_ble_eq_true rfl) dX1_go_91 (fun w15 H locs hw15 hG => ?_)
          have hs16 : xv_S w11 w15 b 1 := by rw [hw15]; exact xv_S.set (by omega) (by omega)
          obtain ⟨x17, ex17⟩ : ∃ zz : Int32, dn + 1 = zz := ⟨_, rfl⟩
          have hO : w15[b]? = some (ad b, .inr (1, [.ref (ad (b + 1)), .int x17, .int (nI h), .int (-6)])) := by rw [hw15, ← ex17]; exact xv_self hO
          have hCh : w15[b + 1]? = some (ad (b + 1), .inr (0, [.long u1, .long v1])) := hs16.at hCh (by omega)
          have hT : xv_T cI ad w15 b2 T := hT.of_S hs16 (by omega)
          have hSw15 : xv_S ws w15 b 2 := hSw11.trans (hs16.mono (by omega) (by omega))
          refine lv_aload_n hx hb dX1_go_94 rfl (lv_at hl 0 rfl) ?_
          refine xg_get (C := RX1) (T := TX1) (N := 4) S hK hG (fun w h => List.mem_cons_of_mem _ (List.mem_append_left _ (List.mem_append_left _ (List.mem_append_right _ (h))))) b hO rfl 0 (by decide) k0 (fun _ h9 => h9) rfl dX1_go_95 ?_
          refine lv_aload_n hx hb dX1_go_98 rfl (lv_at hl 1 rfl) ?_
          refine lv_iload hx hb dX1_go_99 (lv_at hl 7 rfl) ?_
          refine lv_iload hx hb dX1_go_101 (lv_at hl 8 rfl) ?_
          refine xg_ri (va_runV (As := [.int d, .int (nI h)]) (rest := [.ref (ad (b + 1))]) S (mX5_oddsOf l D cI cZ bs ad w15 b2 T hT d (nI h)) (cwV 2 hts gX1_go_X5_oddsOf rfl rfl rfl (by decide +kernel) ⟨Nat.le_of_ble_eq_true rfl, Nat.le_of_ble_eq_true rfl⟩) (xg_preV hK hG b2 hT.1 rfl rfl) rfl rfl hl.1 rfl (lv_room (Nat.le_of_ble_eq_true rfl)) dX1_go_103 ⟨Nat.zero_le _, Nat.zero_le _⟩) (fun r18 hr18 => ?_)
          replace hr18 := hr18.symm; subst hr18
          refine xg_mv (va_runV (As := [.int (dt_odd T d (nI h))]) (rest := []) S (mX0_goesWell l D cI cZ bs ad w15 (b + 1) u1 v1 hCh (dt_odd T d (nI h))) (cwV 1 hts gX1_go_X0_goesWell rfl rfl rfl (by decide +kernel) ⟨Nat.le_of_ble_eq_true rfl, Nat.le_of_ble_eq_true rfl⟩) (xg_preV hK hG (b + 1) hCh rfl rfl) rfl rfl hl.1 rfl (lv_room (Nat.le_of_ble_eq_true rfl)) dX1_go_106 ⟨Nat.zero_le _, Nat.zero_le _⟩) hG (fun w20 H locs hr19 hG => ?_)
          obtain ⟨hvw20_0, hsw20⟩ := hr19
          have hCh : w20[b + 1]? = some (ad (b + 1), .inr (0, [.long (u1 * (10 - (dt_odd T d (nI h))).toInt64), .long (v1 * 10)])) := hvw20_0
          obtain ⟨x21, ex21⟩ : ∃ zz : Int64, u1 * (10 - (dt_odd T d (nI h))).toInt64 = zz := ⟨_, rfl⟩
          rw [ex21] at hCh
          obtain ⟨x22, ex22⟩ : ∃ zz : Int64, v1 * 10 = zz := ⟨_, rfl⟩
          rw [ex22] at hCh
          have hO : w20[b]? = some (ad b, .inr (1, [.ref (ad (b + 1)), .int x17, .int (nI h), .int (-6)])) := hsw20.at hO (by omega)
          have hT : xv_T cI ad w20 b2 T := hT.of_S hsw20 (by omega)
          have hSw20 : xv_S ws w20 b 2 := hSw15.trans (hsw20.mono (by omega) (by omega))
          refine lv_iload hx hb dX1_go_109 (lv_at hl 7 rfl) ?_
          refine lv_iload_n hx hb dX1_go_111 rfl (lv_at hl 3 rfl) ?_
          have jn120_23 : ∀ v23 : Int32, v23 = (if d = s2 then f else s2) → W pg l en ({ frames := 4, cells := 0, slots := 0, locals := 94 } : Room) s m ([.ref (ad b), .ref (ad b2), .int f, .int s2, .int y, .int lim] : List Value).toArray below meth c H locs 0 0 Q (F0 m 120 ls [.int v23]) := by
            intro v23 ev23
            replace ev23 := ev23.symm
            refine lv_istore (lv' := [(7, .int v23), (0, .ref (ad b)), (1, .ref (ad b2)), (2, .int f), (3, .int s2), (4, .int y), (5, .int lim), (6, .int x10), (8, .int (nI h))]) hx hb dX1_go_120 hl (by decide) rfl (fun ls hl => ?_)
            refine lv_iload hx hb dX1_go_122 (lv_at hl 8 rfl) ?_
            refine lv_iload hx hb dX1_go_124 (lv_at hl 7 rfl) ?_
            refine lv_iadd hx hb dX1_go_126 ?_
            refine lv_topi (fun x24 ex24 => ?_)
            replace ex24 := ex24.symm
            refine lv_istore (lv' := [(8, .int x24), (7, .int v23), (0, .ref (ad b)), (1, .ref (ad b2)), (2, .int f), (3, .int s2), (4, .int y), (5, .int lim), (6, .int x10)]) hx hb dX1_go_127 hl (by decide) rfl (fun ls hl => ?_)
            refine lv_goto (tgt := 47) hx hb dX1_go_129 (by decide) ?_
            exact ih (k + 1) (h + st) v23 x17 (nI h) x21 x22 (by omega) (by omega) (by omega) (by omega) (by rw [hr2, dc_clk_S (by omega), if_neg (by omega), if_pos c74]; subst ex10 ex17 ex21 ex22 ev23 ex24; rfl) x24 (by subst ex10 ex17 ex21 ex22 ev23 ex24; rw [hmx]; exact nI_add h st) (-6) (by subst ex10 ex17 ex21 ex22 ev23 ex24; rfl) w20 _ _ hG hO hCh hT hSw20 ls (lv_sub hl [2, 3, 4, 5, 6, 7, 8, 1, 0] rfl)
          refine lv_icmp_ne (tgt := 119) hx hb dX1_go_112 (by decide) (fun c112 => ?_) (fun c112 => ?_)
          · skip
            refine lv_iload_n hx hb dX1_go_119 rfl (lv_at hl 3 rfl) ?_
            exact jn120_23 _ (by rw [if_neg c112])
          · skip
            refine lv_iload_n hx hb dX1_go_115 rfl (lv_at hl 2 rfl) ?_
            refine lv_goto (tgt := 120) hx hb dX1_go_116 (by decide) ?_
            exact jn120_23 _ (by rw [if_pos c112])
        · skip
          refine lv_aload_n hx hb dX1_go_77 rfl (lv_at hl 0 rfl) ?_
          refine lv_iload hx hb dX1_go_78 (lv_at hl 7 rfl) ?_
          refine xg_put2 (C := RX1) (T := TX1) (N := 4) (v := .int d) (ty := .int) S hK hG (fun w h => List.mem_cons_of_mem _ (List.mem_append_left _ (List.mem_append_left _ (List.mem_append_right _ (h))))) tyX1 tyX1_ok nmX1 b hO rfl 3 (by decide) k3 (fun _ h9 => h9) rfl (by decide +kernel) rfl rfl (Nat.le_of_ble_eq_true rfl) dX1_go_80 (fun w25 H locs hw25 hG => ?_)
          have hs26 : xv_S w11 w25 b 1 := by rw [hw25]; exact xv_S.set (by omega) (by omega)
          have hO : w25[b]? = some (ad b, .inr (1, [.ref (ad (b + 1)), .int dn, .int (nI h), .int d])) := by rw [hw25]; exact xv_self hO
          have hCh : w25[b + 1]? = some (ad (b + 1), .inr (0, [.long u1, .long v1])) := hs26.at hCh (by omega)
          have hT : xv_T cI ad w25 b2 T := hT.of_S hs26 (by omega)
          have hSw25 : xv_S ws w25 b 2 := hSw11.trans (hs26.mono (by omega) (by omega))
          rw [hQ]
          exact xg_emv S hr hlk hK hG ⟨(by rw [show ((dc_clm T f s2 hh lm st).1) = dn from (by subst ex10; first | (rw [hr2, dc_clk_S (by omega), if_pos hk9]) | (rw [hr2, dc_clk_S (by omega), if_neg (by omega), if_neg (by simp [c74])]))]; rw [show ((dc_clm T f s2 hh lm st).2.1) = (nI h) from (by subst ex10; first | (rw [hr2, dc_clk_S (by omega), if_pos hk9]) | (rw [hr2, dc_clk_S (by omega), if_neg (by omega), if_neg (by simp [c74])]))]; rw [show ((dc_clm T f s2 hh lm st).2.2.1) = d from (by subst ex10; first | (rw [hr2, dc_clk_S (by omega), if_pos hk9]) | (rw [hr2, dc_clk_S (by omega), if_neg (by omega), if_neg (by simp [c74])]))]; exact hO), (by rw [show ((dc_clm T f s2 hh lm st).2.2.2.1) = u1 from (by subst ex10; first | (rw [hr2, dc_clk_S (by omega), if_pos hk9]) | (rw [hr2, dc_clk_S (by omega), if_neg (by omega), if_neg (by simp [c74])]))]; rw [show ((dc_clm T f s2 hh lm st).2.2.2.2) = v1 from (by subst ex10; first | (rw [hr2, dc_clk_S (by omega), if_pos hk9]) | (rw [hr2, dc_clk_S (by omega), if_neg (by omega), if_neg (by simp [c74])]))]; exact hCh), hT, hSw25⟩ dX1_go_83
  exact lp47 16 0 hh s2 0 y 1 1 (by omega) (by omega) (by omega) (by omega) (by rw [hy]; rfl) y hy (-6) (by subst ex10; rfl) w7 _ _ hG hO hCh hT hSw7 ls (lv_sub hl [3, 4, 5, 6, 7, 8, 2, 1, 0] rfl)
set_option maxHeartbeats 4000000 in
set_option maxRecDepth 100000 in
theorem mX2_settleFor (l : Launch) (D : va_G) (cI cZ : ClassId) (bs : Nat) (ad : Nat → Nat) (ws : va_W) (b : Nat) (ch : Int32) (td : Int32) (tr : Int32) (hO : ws[b]? = some (ad b, .inr (2, [.int ch, .int td, .int tr]))) (x : Int32) (y : Int32) (z : Int32) : Met l yX2_settleFor wsX2_settleFor ({ frames := 0, cells := 0, slots := 0, locals := 0 } : Room) (va_Pc [.ref (ad b), .int x, .int y, .int z] (fun U => xg_W D cI cZ bs ws U)) (va_Qv (fun w : va_W => w[b]? = some (ad b, .inr (2, [.int x, .int y, .int z])) ∧ xv_S ws w b 1) (fun w t => xg_W D cI cZ bs w t) (xg_A bs)) 0 0 (xg_A bs) := by
  refine xg_met cX2_settleFor 4 none RX2 (by decide) rfl rfl (Nat.le_of_ble_eq_true rfl) ?_
  intro pg en s m below meth c ls S hr hlk hnm hB hl
  have hK := hB.1
  have hG := xg_start hB
  obtain ⟨hx, hb, hml, hown, hts⟩ := id S
  have hl : lv_has ls 4 [(0, .ref (ad b)), (1, .int x), (2, .int y), (3, .int z)] := hl
  obtain ⟨Q, hQ⟩ : ∃ Q, Q = MQ below (va_Qv (fun w : va_W => w[b]? = some (ad b, .inr (2, [.int x, .int y, .int z])) ∧ xv_S ws w b 1) (fun w t => xg_W D cI cZ bs w t) (xg_A bs)) ([.ref (ad b), .int x, .int y, .int z] : List Value).toArray s 0 0 (xg_A bs) := ⟨_, rfl⟩
  rw [← hQ]
  have k0 := hts (.fieldLink RX2 9 "DareBridge$Game" "choice" "I") (List.mem_of_getElem? (i := 1) rfl)
  have k1 := hts (.fieldLink RX2 15 "DareBridge$Game" "toDared" "I") (List.mem_of_getElem? (i := 2) rfl)
  have k2 := hts (.fieldLink RX2 18 "DareBridge$Game" "toDarer" "I") (List.mem_of_getElem? (i := 3) rfl)
  refine lv_aload_n hx hb dX2_settleFor_0 rfl (lv_at hl 0 rfl) ?_
  refine lv_iload_n hx hb dX2_settleFor_1 rfl (lv_at hl 1 rfl) ?_
  refine xg_put2 (C := RX2) (T := TX2) (N := 3) (v := .int x) (ty := .int) S hK hG (fun w h => List.mem_cons_of_mem _ (List.mem_append_right _ (h))) tyX2 tyX2_ok nmX2 b hO rfl 0 (by decide) k0 (fun _ h9 => h9) rfl (by decide +kernel) rfl rfl (Nat.le_of_ble_eq_true rfl) dX2_settleFor_2 (fun w1 H locs hw1 hG => ?_)
  have hs2 : xv_S ws w1 b 1 := by rw [hw1]; exact xv_S.set (by omega) (by omega)
  have hO : w1[b]? = some (ad b, .inr (2, [.int x, .int td, .int tr])) := by rw [hw1]; exact xv_self hO
  have hSw1 : xv_S ws w1 b 1 := hs2.mono (by omega) (by omega)
  refine lv_aload_n hx hb dX2_settleFor_5 rfl (lv_at hl 0 rfl) ?_
  refine lv_iload_n hx hb dX2_settleFor_6 rfl (lv_at hl 2 rfl) ?_
  refine xg_put2 (C := RX2) (T := TX2) (N := 3) (v := .int y) (ty := .int) S hK hG (fun w h => List.mem_cons_of_mem _ (List.mem_append_right _ (h))) tyX2 tyX2_ok nmX2 b hO rfl 1 (by decide) k1 (fun _ h9 => h9) rfl (by decide +kernel) rfl rfl (Nat.le_of_ble_eq_true rfl) dX2_settleFor_7 (fun w3 H locs hw3 hG => ?_)
  have hs4 : xv_S w1 w3 b 1 := by rw [hw3]; exact xv_S.set (by omega) (by omega)
  have hO : w3[b]? = some (ad b, .inr (2, [.int x, .int y, .int tr])) := by rw [hw3]; exact xv_self hO
  have hSw3 : xv_S ws w3 b 1 := hSw1.trans (hs4.mono (by omega) (by omega))
  refine lv_aload_n hx hb dX2_settleFor_10 rfl (lv_at hl 0 rfl) ?_
  refine lv_iload_n hx hb dX2_settleFor_11 rfl (lv_at hl 3 rfl) ?_
  refine xg_put2 (C := RX2) (T := TX2) (N := 3) (v := .int z) (ty := .int) S hK hG (fun w h => List.mem_cons_of_mem _ (List.mem_append_right _ (h))) tyX2 tyX2_ok nmX2 b hO rfl 2 (by decide) k2 (fun _ h9 => h9) rfl (by decide +kernel) rfl rfl (Nat.le_of_ble_eq_true rfl) dX2_settleFor_12 (fun w5 H locs hw5 hG => ?_)
  have hs6 : xv_S w3 w5 b 1 := by rw [hw5]; exact xv_S.set (by omega) (by omega)
  have hO : w5[b]? = some (ad b, .inr (2, [.int x, .int y, .int z])) := by rw [hw5]; exact xv_self hO
  have hSw5 : xv_S ws w5 b 1 := hSw3.trans (hs6.mono (by omega) (by omega))
  rw [hQ]
  exact xg_emv S hr hlk hK hG ⟨hO, hSw5⟩ dX2_settleFor_15
set_option maxHeartbeats 4000000 in
set_option maxRecDepth 100000 in
theorem mX2_settle (l : Launch) (D : va_G) (cI cZ : ClassId) (bs : Nat) (ad : Nat → Nat) (ws : va_W) (b : Nat) (b2 : Nat) (ch : Int32) (td : Int32) (tr : Int32) (hO : ws[b]? = some (ad b, .inr (2, [.int ch, .int td, .int tr]))) (T : Nat → Nat → Int32) (hT : xv_T cI ad ws b2 T) (p : Int32) (p2 : Int32) (y : Int32) (hbc : b + 1 ≤ b2 ∨ b2 + 13 ≤ b) : Met l yX2_settle wsX2_settle ({ frames := 3, cells := 0, slots := 0, locals := 71 } : Room) (va_Pc [.ref (ad b), .ref (ad b2), .int p, .int p2, .int y] (fun U => xg_W D cI cZ bs ws U)) (va_Qv (fun w : va_W => w[b]? = some (ad b, .inr (2, [.int ((dg_set T p p2 y (ch, td, tr)).1), .int ((dg_set T p p2 y (ch, td, tr)).2.1), .int ((dg_set T p p2 y (ch, td, tr)).2.2)])) ∧ xv_T cI ad w b2 T ∧ xv_S ws w b 1) (fun w t => xg_W D cI cZ bs w t) (xg_A bs)) 0 0 (xg_A bs) := by
  refine xg_met cX2_settle 13 none RX2 (by decide) rfl rfl (Nat.le_of_ble_eq_true rfl) ?_
  intro pg en s m below meth c ls S hr hlk hnm hB hl
  have hK := hB.1
  have hG := xg_start hB
  obtain ⟨hx, hb, hml, hown, hts⟩ := id S
  have hl : lv_has ls 13 [(0, .ref (ad b)), (1, .ref (ad b2)), (2, .int p), (3, .int p2), (4, .int y)] := hl
  obtain ⟨Q, hQ⟩ : ∃ Q, Q = MQ below (va_Qv (fun w : va_W => w[b]? = some (ad b, .inr (2, [.int ((dg_set T p p2 y (ch, td, tr)).1), .int ((dg_set T p p2 y (ch, td, tr)).2.1), .int ((dg_set T p p2 y (ch, td, tr)).2.2)])) ∧ xv_T cI ad w b2 T ∧ xv_S ws w b 1) (fun w t => xg_W D cI cZ bs w t) (xg_A bs)) ([.ref (ad b), .ref (ad b2), .int p, .int p2, .int y] : List Value).toArray s 0 0 (xg_A bs) := ⟨_, rfl⟩
  rw [← hQ]
  have k0 := hts (.fieldLink RX2 18 "DareBridge$Game" "toDarer" "I") (List.mem_of_getElem? (i := 1) rfl)
  have k1 := hts (.fieldLink RX2 15 "DareBridge$Game" "toDared" "I") (List.mem_of_getElem? (i := 2) rfl)
  refine lv_aload_n hx hb dX2_settle_0 rfl (lv_at hl 1 rfl) ?_
  refine lv_ifnonnull (tgt := 5) hx hb dX2_settle_1 (by decide) ?_
  refine lv_aload_n hx hb dX2_settle_5 rfl (lv_at hl 1 rfl) ?_
  refine lv_iload_n hx hb dX2_settle_6 rfl (lv_at hl 3 rfl) ?_
  refine xg_ri (va_runV (As := [.int p2]) (rest := []) S (mX5_prideOf l D cI cZ bs ad ws b2 T hT p2) (cwV 1 hts gX2_settle_X5_prideOf rfl rfl rfl (by decide +kernel) ⟨Nat.le_of_ble_eq_true rfl, Nat.le_of_ble_eq_true rfl⟩) (xg_preV hK hG b2 hT.1 rfl rfl) rfl rfl hl.1 rfl (lv_room (Nat.le_of_ble_eq_true rfl)) dX2_settle_7 ⟨Nat.zero_le _, Nat.zero_le _⟩) (fun r1 hr1 => ?_)
  replace hr1 := hr1.symm; subst hr1
  refine lv_topi (fun x2 ex2 => ?_)
  replace ex2 := ex2.symm
  refine lv_istore (lv' := [(5, .int x2), (0, .ref (ad b)), (1, .ref (ad b2)), (2, .int p), (3, .int p2), (4, .int y)]) hx hb dX2_settle_10 hl (by decide) rfl (fun ls hl => ?_)
  refine lv_aload_n hx hb dX2_settle_12 rfl (lv_at hl 2 rfl) ?_
  refine lv_iload_n hx hb dX2_settle_13 rfl (lv_at hl 4 rfl) ?_
  refine lv_iload hx hb dX2_settle_14 (lv_at hl 5 rfl) ?_
  refine lv_iload hx hb dX2_settle_16 (lv_at hl 0 rfl) ?_
  refine xg_ri (va_runV (As := [.int p2, .int y, .int x2]) (rest := []) S (mX5_worthDone l D cI cZ bs ad ws b2 T hT p2 y x2) (cwV 3 hts gX2_settle_X5_worthDone rfl rfl rfl (by decide +kernel) ⟨Nat.le_of_ble_eq_true rfl, Nat.le_of_ble_eq_true rfl⟩) (xg_preV hK hG b2 hT.1 rfl rfl) rfl rfl hl.1 rfl (lv_room (Nat.le_of_ble_eq_true rfl)) dX2_settle_18 ⟨Nat.zero_le _, Nat.zero_le _⟩) (fun r3 hr3 => ?_)
  replace hr3 := hr3.symm; subst hr3
  refine lv_aload_n hx hb dX2_settle_21 rfl (lv_at hl 1 rfl) ?_
  refine xg_get (C := RX2) (T := TX2) (N := 3) S hK hG (fun w h => List.mem_cons_of_mem _ (List.mem_append_left _ (List.mem_append_right _ (h)))) b hO rfl 2 (by decide) k0 (fun _ h9 => h9) rfl dX2_settle_22 ?_
  refine lv_iadd hx hb dX2_settle_25 ?_
  refine lv_topi (fun x4 ex4 => ?_)
  replace ex4 := ex4.symm
  refine lv_istore (lv' := [(6, .int x4), (5, .int x2), (0, .ref (ad b)), (1, .ref (ad b2)), (2, .int p), (3, .int p2), (4, .int y)]) hx hb dX2_settle_26 hl (by decide) rfl (fun ls hl => ?_)
  refine lv_aload_n hx hb dX2_settle_28 rfl (lv_at hl 2 rfl) ?_
  refine xg_get (C := RX2) (T := TX2) (N := 3) S hK hG (fun w h => List.mem_cons_of_mem _ (List.mem_append_left _ (List.mem_append_right _ (h)))) b hO rfl 1 (by decide) k1 (fun _ h9 => h9) rfl dX2_settle_29 ?_
  refine lv_istore (lv' := [(7, .int td), (6, .int x4), (5, .int x2), (0, .ref (ad b)), (1, .ref (ad b2)), (2, .int p), (3, .int p2), (4, .int y)]) hx hb dX2_settle_32 hl (by decide) rfl (fun ls hl => ?_)
  refine lv_iload hx hb dX2_settle_34 (lv_at hl 7 rfl) ?_
  refine lv_iload hx hb dX2_settle_36 (lv_at hl 2 rfl) ?_
  refine xg_ri (va_runS (As := [.int y, .int x2]) (rest := []) S (mX5_worthRefused l D cI cZ bs ad ws y x2) (va_cwS 2 hts gX2_settle_X5_worthRefused rfl rfl rfl (by decide +kernel) ⟨Nat.le_of_ble_eq_true rfl, Nat.le_of_ble_eq_true rfl⟩) (xg_preS hK hG) rfl rfl hl.1 rfl (lv_room (Nat.le_of_ble_eq_true rfl)) dX2_settle_38 ⟨Nat.zero_le _, Nat.zero_le _⟩) (fun r5 hr5 => ?_)
  replace hr5 := hr5.symm; subst hr5
  refine lv_topi (fun x6 ex6 => ?_)
  replace ex6 := ex6.symm
  refine lv_istore (lv' := [(8, .int x6), (7, .int td), (6, .int x4), (5, .int x2), (0, .ref (ad b)), (1, .ref (ad b2)), (2, .int p), (3, .int p2), (4, .int y)]) hx hb dX2_settle_41 hl (by decide) rfl (fun ls hl => ?_)
  refine lv_aload_n hx hb dX2_settle_43 rfl (lv_at hl 5 rfl) ?_
  refine lv_iload_n hx hb dX2_settle_44 rfl (lv_at hl 6 rfl) ?_
  refine lv_iload hx hb dX2_settle_45 (lv_at hl 8 rfl) ?_
  refine lv_aload_n hx hb dX2_settle_47 rfl (lv_at hl 5 rfl) ?_
  refine lv_iload_n hx hb dX2_settle_48 rfl (lv_at hl 6 rfl) ?_
  refine xg_ri (va_runV (As := [.int p]) (rest := [.int y, .int p, .ref (ad b2)]) S (mX5_prideOf l D cI cZ bs ad ws b2 T hT p) (cwV 1 hts gX2_settle_X5_prideOf rfl rfl rfl (by decide +kernel) ⟨Nat.le_of_ble_eq_true rfl, Nat.le_of_ble_eq_true rfl⟩) (xg_preV hK hG b2 hT.1 rfl rfl) rfl rfl hl.1 rfl (lv_room (Nat.le_of_ble_eq_true rfl)) dX2_settle_49 ⟨Nat.zero_le _, Nat.zero_le _⟩) (fun r7 hr7 => ?_)
  replace hr7 := hr7.symm; subst hr7
  refine xg_ri (va_runV (As := [.int p, .int y, .int (dt_prd T p)]) (rest := []) S (mX5_worthDone l D cI cZ bs ad ws b2 T hT p y (dt_prd T p)) (cwV 3 hts gX2_settle_X5_worthDone rfl rfl rfl (by decide +kernel) ⟨Nat.le_of_ble_eq_true rfl, Nat.le_of_ble_eq_true rfl⟩) (xg_preV hK hG b2 hT.1 rfl rfl) rfl rfl hl.1 rfl (lv_room (Nat.le_of_ble_eq_true rfl)) dX2_settle_52 ⟨Nat.zero_le _, Nat.zero_le _⟩) (fun r8 hr8 => ?_)
  replace hr8 := hr8.symm; subst hr8
  refine lv_aload_n hx hb dX2_settle_55 rfl (lv_at hl 4 rfl) ?_
  refine xg_get (C := RX2) (T := TX2) (N := 3) S hK hG (fun w h => List.mem_cons_of_mem _ (List.mem_append_left _ (List.mem_append_right _ (h)))) b hO rfl 1 (by decide) k1 (fun _ h9 => h9) rfl dX2_settle_56 ?_
  refine lv_iadd hx hb dX2_settle_59 ?_
  refine lv_topi (fun x9 ex9 => ?_)
  replace ex9 := ex9.symm
  refine lv_istore (lv' := [(9, .int x9), (8, .int x6), (7, .int td), (6, .int x4), (5, .int x2), (0, .ref (ad b)), (1, .ref (ad b2)), (2, .int p), (3, .int p2), (4, .int y)]) hx hb dX2_settle_60 hl (by decide) rfl (fun ls hl => ?_)
  refine lv_bipush (v := (-10)) hx hb dX2_settle_62 (by decide) ?_
  refine lv_aload_n hx hb dX2_settle_64 rfl (lv_at hl 6 rfl) ?_
  refine lv_iload_n hx hb dX2_settle_65 rfl (lv_at hl 7 rfl) ?_
  refine xg_ri (va_runV (As := [.int p]) (rest := [.int (-10)]) S (mX5_prideOf l D cI cZ bs ad ws b2 T hT p) (cwV 1 hts gX2_settle_X5_prideOf rfl rfl rfl (by decide +kernel) ⟨Nat.le_of_ble_eq_true rfl, Nat.le_of_ble_eq_true rfl⟩) (xg_preV hK hG b2 hT.1 rfl rfl) rfl rfl hl.1 rfl (lv_room (Nat.le_of_ble_eq_true rfl)) dX2_settle_66 ⟨Nat.zero_le _, Nat.zero_le _⟩) (fun r10 hr10 => ?_)
  replace hr10 := hr10.symm; subst hr10
  refine lv_imul hx hb dX2_settle_69 ?_
  refine lv_iload hx hb dX2_settle_70 (lv_at hl 9 rfl) ?_
  refine lv_imul hx hb dX2_settle_72 ?_
  refine lv_topi (fun x11 ex11 => ?_)
  replace ex11 := ex11.symm
  refine lv_istore (lv' := [(10, .int x11), (9, .int x9), (8, .int x6), (7, .int td), (6, .int x4), (5, .int x2), (0, .ref (ad b)), (1, .ref (ad b2)), (2, .int p), (3, .int p2), (4, .int y)]) hx hb dX2_settle_73 hl (by decide) rfl (fun ls hl => ?_)
  refine lv_iload hx hb dX2_settle_75 (lv_at hl 1 rfl) ?_
  refine lv_iload hx hb dX2_settle_77 (lv_at hl 0 rfl) ?_
  have jn87_12 : ∀ v12 : Int32, v12 = (if x9 < x11 then 0 else 1) → W pg l en ({ frames := 3, cells := 0, slots := 0, locals := 71 } : Room) s m ([.ref (ad b), .ref (ad b2), .int p, .int p2, .int y] : List Value).toArray below meth c s.heap [] 0 0 Q (F0 m 87 ls [.int v12]) := by
    intro v12 ev12
    replace ev12 := ev12.symm
    refine lv_istore (lv' := [(11, .int v12), (10, .int x11), (9, .int x9), (8, .int x6), (7, .int td), (6, .int x4), (5, .int x2), (0, .ref (ad b)), (1, .ref (ad b2)), (2, .int p), (3, .int p2), (4, .int y)]) hx hb dX2_settle_87 hl (by decide) rfl (fun ls hl => ?_)
    refine lv_iload hx hb dX2_settle_89 (lv_at hl 0 rfl) ?_
    have jn106_13 : ∀ v13 : Int32, v13 = (if v12 = 0 then (5 * x2) * y else x4) → W pg l en ({ frames := 3, cells := 0, slots := 0, locals := 71 } : Room) s m ([.ref (ad b), .ref (ad b2), .int p, .int p2, .int y] : List Value).toArray below meth c s.heap [] 0 0 Q (F0 m 106 ls [.int v13]) := by
      intro v13 ev13
      replace ev13 := ev13.symm
      refine lv_istore (lv' := [(12, .int v13), (11, .int v12), (10, .int x11), (9, .int x9), (8, .int x6), (7, .int td), (6, .int x4), (5, .int x2), (0, .ref (ad b)), (1, .ref (ad b2)), (2, .int p), (3, .int p2), (4, .int y)]) hx hb dX2_settle_106 hl (by decide) rfl (fun ls hl => ?_)
      refine lv_iload hx hb dX2_settle_108 (lv_at hl 6 rfl) ?_
      refine lv_iload hx hb dX2_settle_110 (lv_at hl 4 rfl) ?_
      refine lv_icmp_lt (tgt := 134) hx hb dX2_settle_112 (by decide) (fun c112 => ?_) (fun c112 => ?_)
      · skip
        refine lv_iload hx hb dX2_settle_134 (lv_at hl 4 rfl) ?_
        refine lv_iload hx hb dX2_settle_136 (lv_at hl 0 rfl) ?_
        refine lv_icmp_lt (tgt := 152) hx hb dX2_settle_138 (by decide) (fun c138 => ?_) (fun c138 => ?_)
        · skip
          refine lv_aload_n hx hb dX2_settle_152 rfl (lv_at hl 8 rfl) ?_
          refine lv_iconst (v := 2) hx hb dX2_settle_153 (by decide) ?_
          refine lv_iload hx hb dX2_settle_154 (lv_at hl 0 rfl) ?_
          refine lv_iload hx hb dX2_settle_156 (lv_at hl 1 rfl) ?_
          have jn168_14 : ∀ v14 : Int32, v14 = (if v12 = 0 then x11 else x9) → W pg l en ({ frames := 3, cells := 0, slots := 0, locals := 71 } : Room) s m ([.ref (ad b), .ref (ad b2), .int p, .int p2, .int y] : List Value).toArray below meth c s.heap [] 0 0 Q (F0 m 168 ls [.int v14, .int v13, .int 2, .ref (ad b)]) := by
            intro v14 ev14
            replace ev14 := ev14.symm
            refine xg_mv (va_runV (As := [.int 2, .int v13, .int v14]) (rest := []) S (mX2_settleFor l D cI cZ bs ad ws b ch td tr hO 2 v13 v14) (cwV 3 hts gX2_settle_X2_settleFor rfl rfl rfl (by decide +kernel) ⟨Nat.le_of_ble_eq_true rfl, Nat.le_of_ble_eq_true rfl⟩) (xg_preV hK hG b hO rfl rfl) rfl rfl hl.1 rfl (lv_room (Nat.le_of_ble_eq_true rfl)) dX2_settle_168 ⟨Nat.zero_le _, Nat.zero_le _⟩) hG (fun w16 H locs hr15 hG => ?_)
            obtain ⟨hvw16_0, hsw16⟩ := hr15
            have hO : w16[b]? = some (ad b, .inr (2, [.int 2, .int v13, .int v14])) := hvw16_0
            have hT : xv_T cI ad w16 b2 T := hT.of_S hsw16 (by omega)
            have hSw16 : xv_S ws w16 b 1 := hsw16.mono (by omega) (by omega)
            rw [hQ]
            exact xg_emv S hr hlk hK hG ⟨(by rw [show ((dg_set T p p2 y (ch, td, tr)).1) = 2 from (by subst ex2 ex4 ex6 ex9 ex11 ev12 ev13 ev14; simp only [dg_set, c112, c138, if_true, if_false])]; rw [show ((dg_set T p p2 y (ch, td, tr)).2.1) = v13 from (by subst ex2 ex4 ex6 ex9 ex11 ev12 ev13 ev14; simp only [dg_set, c112, c138, if_true, if_false])]; rw [show ((dg_set T p p2 y (ch, td, tr)).2.2) = v14 from (by subst ex2 ex4 ex6 ex9 ex11 ev12 ev13 ev14; simp only [dg_set, c112, c138, if_true, if_false])]; exact hO), hT, hSw16⟩ dX2_settle_171
          refine lv_if_eq (tgt := 166) hx hb dX2_settle_158 (by decide) (fun c158 => ?_) (fun c158 => ?_)
          · skip
            refine lv_iload hx hb dX2_settle_166 (lv_at hl 2 rfl) ?_
            exact jn168_14 _ (by rw [if_pos c158])
          · skip
            refine lv_iload hx hb dX2_settle_161 (lv_at hl 3 rfl) ?_
            refine lv_goto (tgt := 168) hx hb dX2_settle_163 (by decide) ?_
            exact jn168_14 _ (by rw [if_neg c158])
        · skip
          refine lv_aload_n hx hb dX2_settle_141 rfl (lv_at hl 8 rfl) ?_
          refine lv_iconst (v := 1) hx hb dX2_settle_142 (by decide) ?_
          refine lv_iload hx hb dX2_settle_143 (lv_at hl 4 rfl) ?_
          refine lv_iconst (v := 0) hx hb dX2_settle_145 (by decide) ?_
          refine xg_mv (va_runV (As := [.int 1, .int x6, .int 0]) (rest := []) S (mX2_settleFor l D cI cZ bs ad ws b ch td tr hO 1 x6 0) (cwV 3 hts gX2_settle_X2_settleFor rfl rfl rfl (by decide +kernel) ⟨Nat.le_of_ble_eq_true rfl, Nat.le_of_ble_eq_true rfl⟩) (xg_preV hK hG b hO rfl rfl) rfl rfl hl.1 rfl (lv_room (Nat.le_of_ble_eq_true rfl)) dX2_settle_146 ⟨Nat.zero_le _, Nat.zero_le _⟩) hG (fun w18 H locs hr17 hG => ?_)
          obtain ⟨hvw18_0, hsw18⟩ := hr17
          have hO : w18[b]? = some (ad b, .inr (2, [.int 1, .int x6, .int 0])) := hvw18_0
          have hT : xv_T cI ad w18 b2 T := hT.of_S hsw18 (by omega)
          have hSw18 : xv_S ws w18 b 1 := hsw18.mono (by omega) (by omega)
          refine lv_goto (tgt := 171) hx hb dX2_settle_149 (by decide) ?_
          rw [hQ]
          exact xg_emv S hr hlk hK hG ⟨(by rw [show ((dg_set T p p2 y (ch, td, tr)).1) = 1 from (by subst ex2 ex4 ex6 ex9 ex11 ev12 ev13; simp only [dg_set, c112, c138, if_true, if_false])]; rw [show ((dg_set T p p2 y (ch, td, tr)).2.1) = x6 from (by subst ex2 ex4 ex6 ex9 ex11 ev12 ev13; simp only [dg_set, c112, c138, if_true, if_false])]; rw [show ((dg_set T p p2 y (ch, td, tr)).2.2) = 0 from (by subst ex2 ex4 ex6 ex9 ex11 ev12 ev13; simp only [dg_set, c112, c138, if_true, if_false])]; exact hO), hT, hSw18⟩ dX2_settle_171
      · skip
        refine lv_iload hx hb dX2_settle_115 (lv_at hl 6 rfl) ?_
        refine lv_iload hx hb dX2_settle_117 (lv_at hl 0 rfl) ?_
        refine lv_icmp_lt (tgt := 134) hx hb dX2_settle_119 (by decide) (fun c119 => ?_) (fun c119 => ?_)
        · skip
          refine lv_iload hx hb dX2_settle_134 (lv_at hl 4 rfl) ?_
          refine lv_iload hx hb dX2_settle_136 (lv_at hl 0 rfl) ?_
          refine lv_icmp_lt (tgt := 152) hx hb dX2_settle_138 (by decide) (fun c138 => ?_) (fun c138 => ?_)
          · skip
            refine lv_aload_n hx hb dX2_settle_152 rfl (lv_at hl 8 rfl) ?_
            refine lv_iconst (v := 2) hx hb dX2_settle_153 (by decide) ?_
            refine lv_iload hx hb dX2_settle_154 (lv_at hl 0 rfl) ?_
            refine lv_iload hx hb dX2_settle_156 (lv_at hl 1 rfl) ?_
            have jn168_19 : ∀ v19 : Int32, v19 = (if v12 = 0 then x11 else x9) → W pg l en ({ frames := 3, cells := 0, slots := 0, locals := 71 } : Room) s m ([.ref (ad b), .ref (ad b2), .int p, .int p2, .int y] : List Value).toArray below meth c s.heap [] 0 0 Q (F0 m 168 ls [.int v19, .int v13, .int 2, .ref (ad b)]) := by
              intro v19 ev19
              replace ev19 := ev19.symm
              refine xg_mv (va_runV (As := [.int 2, .int v13, .int v19]) (rest := []) S (mX2_settleFor l D cI cZ bs ad ws b ch td tr hO 2 v13 v19) (cwV 3 hts gX2_settle_X2_settleFor rfl rfl rfl (by decide +kernel) ⟨Nat.le_of_ble_eq_true rfl, Nat.le_of_ble_eq_true rfl⟩) (xg_preV hK hG b hO rfl rfl) rfl rfl hl.1 rfl (lv_room (Nat.le_of_ble_eq_true rfl)) dX2_settle_168 ⟨Nat.zero_le _, Nat.zero_le _⟩) hG (fun w21 H locs hr20 hG => ?_)
              obtain ⟨hvw21_0, hsw21⟩ := hr20
              have hO : w21[b]? = some (ad b, .inr (2, [.int 2, .int v13, .int v19])) := hvw21_0
              have hT : xv_T cI ad w21 b2 T := hT.of_S hsw21 (by omega)
              have hSw21 : xv_S ws w21 b 1 := hsw21.mono (by omega) (by omega)
              rw [hQ]
              exact xg_emv S hr hlk hK hG ⟨(by rw [show ((dg_set T p p2 y (ch, td, tr)).1) = 2 from (by subst ex2 ex4 ex6 ex9 ex11 ev12 ev13 ev19; simp only [dg_set, c112, c119, c138, if_true, if_false])]; rw [show ((dg_set T p p2 y (ch, td, tr)).2.1) = v13 from (by subst ex2 ex4 ex6 ex9 ex11 ev12 ev13 ev19; simp only [dg_set, c112, c119, c138, if_true, if_false])]; rw [show ((dg_set T p p2 y (ch, td, tr)).2.2) = v19 from (by subst ex2 ex4 ex6 ex9 ex11 ev12 ev13 ev19; simp only [dg_set, c112, c119, c138, if_true, if_false])]; exact hO), hT, hSw21⟩ dX2_settle_171
            refine lv_if_eq (tgt := 166) hx hb dX2_settle_158 (by decide) (fun c158 => ?_) (fun c158 => ?_)
            · skip
              refine lv_iload hx hb dX2_settle_166 (lv_at hl 2 rfl) ?_
              exact jn168_19 _ (by rw [if_pos c158])
            · skip
              refine lv_iload hx hb dX2_settle_161 (lv_at hl 3 rfl) ?_
              refine lv_goto (tgt := 168) hx hb dX2_settle_163 (by decide) ?_
              exact jn168_19 _ (by rw [if_neg c158])
          · skip
            refine lv_aload_n hx hb dX2_settle_141 rfl (lv_at hl 8 rfl) ?_
            refine lv_iconst (v := 1) hx hb dX2_settle_142 (by decide) ?_
            refine lv_iload hx hb dX2_settle_143 (lv_at hl 4 rfl) ?_
            refine lv_iconst (v := 0) hx hb dX2_settle_145 (by decide) ?_
            refine xg_mv (va_runV (As := [.int 1, .int x6, .int 0]) (rest := []) S (mX2_settleFor l D cI cZ bs ad ws b ch td tr hO 1 x6 0) (cwV 3 hts gX2_settle_X2_settleFor rfl rfl rfl (by decide +kernel) ⟨Nat.le_of_ble_eq_true rfl, Nat.le_of_ble_eq_true rfl⟩) (xg_preV hK hG b hO rfl rfl) rfl rfl hl.1 rfl (lv_room (Nat.le_of_ble_eq_true rfl)) dX2_settle_146 ⟨Nat.zero_le _, Nat.zero_le _⟩) hG (fun w23 H locs hr22 hG => ?_)
            obtain ⟨hvw23_0, hsw23⟩ := hr22
            have hO : w23[b]? = some (ad b, .inr (2, [.int 1, .int x6, .int 0])) := hvw23_0
            have hT : xv_T cI ad w23 b2 T := hT.of_S hsw23 (by omega)
            have hSw23 : xv_S ws w23 b 1 := hsw23.mono (by omega) (by omega)
            refine lv_goto (tgt := 171) hx hb dX2_settle_149 (by decide) ?_
            rw [hQ]
            exact xg_emv S hr hlk hK hG ⟨(by rw [show ((dg_set T p p2 y (ch, td, tr)).1) = 1 from (by subst ex2 ex4 ex6 ex9 ex11 ev12 ev13; simp only [dg_set, c112, c119, c138, if_true, if_false])]; rw [show ((dg_set T p p2 y (ch, td, tr)).2.1) = x6 from (by subst ex2 ex4 ex6 ex9 ex11 ev12 ev13; simp only [dg_set, c112, c119, c138, if_true, if_false])]; rw [show ((dg_set T p p2 y (ch, td, tr)).2.2) = 0 from (by subst ex2 ex4 ex6 ex9 ex11 ev12 ev13; simp only [dg_set, c112, c119, c138, if_true, if_false])]; exact hO), hT, hSw23⟩ dX2_settle_171
        · skip
          refine lv_aload_n hx hb dX2_settle_122 rfl (lv_at hl 8 rfl) ?_
          refine lv_iconst (v := 0) hx hb dX2_settle_123 (by decide) ?_
          refine lv_iload hx hb dX2_settle_124 (lv_at hl 6 rfl) ?_
          refine lv_iload hx hb dX2_settle_126 (lv_at hl 5 rfl) ?_
          refine xg_mv (va_runV (As := [.int 0, .int x4, .int td]) (rest := []) S (mX2_settleFor l D cI cZ bs ad ws b ch td tr hO 0 x4 td) (cwV 3 hts gX2_settle_X2_settleFor rfl rfl rfl (by decide +kernel) ⟨Nat.le_of_ble_eq_true rfl, Nat.le_of_ble_eq_true rfl⟩) (xg_preV hK hG b hO rfl rfl) rfl rfl hl.1 rfl (lv_room (Nat.le_of_ble_eq_true rfl)) dX2_settle_128 ⟨Nat.zero_le _, Nat.zero_le _⟩) hG (fun w25 H locs hr24 hG => ?_)
          obtain ⟨hvw25_0, hsw25⟩ := hr24
          have hO : w25[b]? = some (ad b, .inr (2, [.int 0, .int x4, .int td])) := hvw25_0
          have hT : xv_T cI ad w25 b2 T := hT.of_S hsw25 (by omega)
          have hSw25 : xv_S ws w25 b 1 := hsw25.mono (by omega) (by omega)
          refine lv_goto (tgt := 171) hx hb dX2_settle_131 (by decide) ?_
          rw [hQ]
          exact xg_emv S hr hlk hK hG ⟨(by rw [show ((dg_set T p p2 y (ch, td, tr)).1) = 0 from (by subst ex2 ex4 ex6 ex9 ex11 ev12 ev13; simp only [dg_set, c112, c119, if_true, if_false])]; rw [show ((dg_set T p p2 y (ch, td, tr)).2.1) = x4 from (by subst ex2 ex4 ex6 ex9 ex11 ev12 ev13; simp only [dg_set, c112, c119, if_true, if_false])]; rw [show ((dg_set T p p2 y (ch, td, tr)).2.2) = td from (by subst ex2 ex4 ex6 ex9 ex11 ev12 ev13; simp only [dg_set, c112, c119, if_true, if_false])]; exact hO), hT, hSw25⟩ dX2_settle_171
    refine lv_if_eq (tgt := 99) hx hb dX2_settle_91 (by decide) (fun c91 => ?_) (fun c91 => ?_)
    · skip
      refine lv_iconst (v := 5) hx hb dX2_settle_99 (by decide) ?_
      refine lv_iload hx hb dX2_settle_100 (lv_at hl 6 rfl) ?_
      refine lv_imul hx hb dX2_settle_102 ?_
      refine lv_iload hx hb dX2_settle_103 (lv_at hl 11 rfl) ?_
      refine lv_imul hx hb dX2_settle_105 ?_
      exact jn106_13 _ (by rw [if_pos c91])
    · skip
      refine lv_iload hx hb dX2_settle_94 (lv_at hl 5 rfl) ?_
      refine lv_goto (tgt := 106) hx hb dX2_settle_96 (by decide) ?_
      exact jn106_13 _ (by rw [if_neg c91])
  refine lv_icmp_lt (tgt := 86) hx hb dX2_settle_79 (by decide) (fun c79 => ?_) (fun c79 => ?_)
  · skip
    refine lv_iconst (v := 0) hx hb dX2_settle_86 (by decide) ?_
    exact jn87_12 _ (by rw [if_pos c79])
  · skip
    refine lv_iconst (v := 1) hx hb dX2_settle_82 (by decide) ?_
    refine lv_goto (tgt := 87) hx hb dX2_settle_83 (by decide) ?_
    exact jn87_12 _ (by rw [if_neg c79])
