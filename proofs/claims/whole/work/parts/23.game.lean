set_option maxHeartbeats 4000000 in
set_option maxRecDepth 100000 in
theorem mX2_solve (l : Launch) (D : va_G) (cI cZ : ClassId) (bs : Nat) (ad : Nat → Nat) (ws : va_W) (b : Nat) (b2 : Nat) (ch : Int32) (td : Int32) (tr : Int32) (hO : ws[b]? = some (ad b, .inr (2, [.int ch, .int td, .int tr]))) (T : Nat → Nat → Int32) (hT : xv_T cI ad ws b2 T) (f : Int32) (s2 : Int32) (y : Int32) (lim : Int32) (st : Nat) (hst : xb_at 7 (T 0) 0 = nI st) (h4 : 1 ≤ st) (h5 : st ≤ 9) (hbc : b + 1 ≤ b2 ∨ b2 + 13 ≤ b) : Met l yX2_solve wsX2_solve ({ frames := 4, cells := 0, slots := 0, locals := 103 } : Room) (va_Pc [.ref (ad b), .ref (ad b2), .int f, .int s2, .int y, .int lim] (fun U => xg_W D cI cZ bs ws U)) (va_Qv (fun w : va_W => w[b]? = some (ad b, .inr (2, [.int ((dg_run T f s2 y lim (nI st) 16 (0, 0, 0)).1), .int ((dg_run T f s2 y lim (nI st) 16 (0, 0, 0)).2.1), .int ((dg_run T f s2 y lim (nI st) 16 (0, 0, 0)).2.2)])) ∧ xv_T cI ad w b2 T ∧ xv_S ws w b 1) (fun w t => xg_W D cI cZ bs w t) (xg_A bs)) 0 0 (xg_A bs) := by
  refine xg_met cX2_solve 10 none RX2 (by decide) rfl rfl (Nat.le_of_ble_eq_true rfl) ?_
  intro pg en s m below meth c ls S hr hlk hnm hB hl
  have hK := hB.1
  have hG := xg_start hB
  obtain ⟨hx, hb, hml, hown, hts⟩ := id S
  have hl : lv_has ls 10 [(0, .ref (ad b)), (1, .ref (ad b2)), (2, .int f), (3, .int s2), (4, .int y), (5, .int lim)] := hl
  obtain ⟨Q, hQ⟩ : ∃ Q, Q = MQ below (va_Qv (fun w : va_W => w[b]? = some (ad b, .inr (2, [.int ((dg_run T f s2 y lim (nI st) 16 (0, 0, 0)).1), .int ((dg_run T f s2 y lim (nI st) 16 (0, 0, 0)).2.1), .int ((dg_run T f s2 y lim (nI st) 16 (0, 0, 0)).2.2)])) ∧ xv_T cI ad w b2 T ∧ xv_S ws w b 1) (fun w t => xg_W D cI cZ bs w t) (xg_A bs)) ([.ref (ad b), .ref (ad b2), .int f, .int s2, .int y, .int lim] : List Value).toArray s 0 0 (xg_A bs) := ⟨_, rfl⟩
  rw [← hQ]
  have k0 := hts (.fieldLink RX2 9 "DareBridge$Game" "choice" "I") (List.mem_of_getElem? (i := 1) rfl)
  have k1 := hts (.fieldLink RX2 15 "DareBridge$Game" "toDared" "I") (List.mem_of_getElem? (i := 2) rfl)
  have k2 := hts (.fieldLink RX2 18 "DareBridge$Game" "toDarer" "I") (List.mem_of_getElem? (i := 3) rfl)
  have k3 := hts (.methodLink RX2 27 Lib.Math.max.name) (List.mem_of_getElem? (i := 4) rfl)
  have k4 := hts (.static Lib.Math.max.name) (List.mem_of_getElem? (i := 5) rfl)
  have k5 := hts (.initialized "java/lang/Math") (List.mem_of_getElem? (i := 6) rfl)
  have k6 := hts (.code Lib.Math.max.name Lib.Math.max.code 2 (some .int)) (List.mem_of_getElem? (i := 7) rfl)
  refine lv_aload_n hx hb dX2_solve_0 rfl (lv_at hl 0 rfl) ?_
  refine lv_iconst (v := 0) hx hb dX2_solve_1 (by decide) ?_
  refine xg_put2 (C := RX2) (T := TX2) (N := 3) (v := .int 0) (ty := .int) S hK hG (fun w h => List.mem_cons_of_mem _ (List.mem_append_left _ (List.mem_append_right _ (h)))) tyX2 tyX2_ok nmX2 b hO rfl 0 (by decide) k0 (fun _ h9 => h9) rfl (by decide +kernel) rfl rfl (Nat.le_of_ble_eq_true rfl) dX2_solve_2 (fun w1 H locs hw1 hG => ?_)
  have hs2 : xv_S ws w1 b 1 := by rw [hw1]; exact xv_S.set (by omega) (by omega)
  have hO : w1[b]? = some (ad b, .inr (2, [.int 0, .int td, .int tr])) := by rw [hw1]; exact xv_self hO
  have hT : xv_T cI ad w1 b2 T := hT.of_S hs2 (by omega)
  have hSw1 : xv_S ws w1 b 1 := hs2.mono (by omega) (by omega)
  refine lv_aload_n hx hb dX2_solve_5 rfl (lv_at hl 0 rfl) ?_
  refine lv_iconst (v := 0) hx hb dX2_solve_6 (by decide) ?_
  refine xg_put2 (C := RX2) (T := TX2) (N := 3) (v := .int 0) (ty := .int) S hK hG (fun w h => List.mem_cons_of_mem _ (List.mem_append_left _ (List.mem_append_right _ (h)))) tyX2 tyX2_ok nmX2 b hO rfl 1 (by decide) k1 (fun _ h9 => h9) rfl (by decide +kernel) rfl rfl (Nat.le_of_ble_eq_true rfl) dX2_solve_7 (fun w3 H locs hw3 hG => ?_)
  have hs4 : xv_S w1 w3 b 1 := by rw [hw3]; exact xv_S.set (by omega) (by omega)
  have hO : w3[b]? = some (ad b, .inr (2, [.int 0, .int 0, .int tr])) := by rw [hw3]; exact xv_self hO
  have hT : xv_T cI ad w3 b2 T := hT.of_S hs4 (by omega)
  have hSw3 : xv_S ws w3 b 1 := hSw1.trans (hs4.mono (by omega) (by omega))
  refine lv_aload_n hx hb dX2_solve_10 rfl (lv_at hl 0 rfl) ?_
  refine lv_iconst (v := 0) hx hb dX2_solve_11 (by decide) ?_
  refine xg_put2 (C := RX2) (T := TX2) (N := 3) (v := .int 0) (ty := .int) S hK hG (fun w h => List.mem_cons_of_mem _ (List.mem_append_left _ (List.mem_append_right _ (h)))) tyX2 tyX2_ok nmX2 b hO rfl 2 (by decide) k2 (fun _ h9 => h9) rfl (by decide +kernel) rfl rfl (Nat.le_of_ble_eq_true rfl) dX2_solve_12 (fun w5 H locs hw5 hG => ?_)
  have hs6 : xv_S w3 w5 b 1 := by rw [hw5]; exact xv_S.set (by omega) (by omega)
  have hO : w5[b]? = some (ad b, .inr (2, [.int 0, .int 0, .int 0])) := by rw [hw5]; exact xv_self hO
  have hT : xv_T cI ad w5 b2 T := hT.of_S hs6 (by omega)
  have hSw5 : xv_S ws w5 b 1 := hSw3.trans (hs6.mono (by omega) (by omega))
  refine lv_aload_n hx hb dX2_solve_15 rfl (lv_at hl 1 rfl) ?_
  refine lv_ifnonnull (tgt := 20) hx hb dX2_solve_16 (by decide) ?_
  refine lv_iconst (v := 1) hx hb dX2_solve_20 (by decide) ?_
  refine lv_aload_n hx hb dX2_solve_21 rfl (lv_at hl 1 rfl) ?_
  refine lv_iconst (v := 0) hx hb dX2_solve_22 (by decide) ?_
  refine xg_ri (va_runV (As := [.int 0]) (rest := [.int 1]) S (mX5_rule l D cI cZ bs ad w5 b2 T hT 0) (cwV 1 hts gX2_solve_X5_rule rfl rfl rfl (by decide +kernel) ⟨Nat.le_of_ble_eq_true rfl, Nat.le_of_ble_eq_true rfl⟩) (xg_preV hK hG b2 hT.1 rfl rfl) rfl rfl hl.1 rfl (lv_room (Nat.le_of_ble_eq_true rfl)) dX2_solve_23 ⟨Nat.zero_le _, Nat.zero_le _⟩) (fun r7 hr7 => ?_)
  replace hr7 := hr7.symm; subst hr7
  refine va_mmax hx hb (hml.trans hl.1.symm) hown k3 k4 k5 k6 (Nat.le_of_ble_eq_true rfl) (Nat.le_of_ble_eq_true rfl) (Nat.zero_le _) (Nat.zero_le _) dX2_solve_26 ?_
  refine lv_topi (fun x8 ex8 => ?_)
  replace ex8 := ex8.symm
  refine lv_istore (lv' := [(6, .int x8), (0, .ref (ad b)), (1, .ref (ad b2)), (2, .int f), (3, .int s2), (4, .int y), (5, .int lim)]) hx hb dX2_solve_29 hl (by decide) rfl (fun ls hl => ?_)
  refine lv_bipush (v := 15) hx hb dX2_solve_31 (by decide) ?_
  refine lv_istore (lv' := [(7, .int 15), (6, .int x8), (0, .ref (ad b)), (1, .ref (ad b2)), (2, .int f), (3, .int s2), (4, .int y), (5, .int lim)]) hx hb dX2_solve_33 hl (by decide) rfl (fun ls hl => ?_)
  -- the loop at 35
  have hmx : x8 = nI st := by subst ex8; rw [hst]; exact xb_mx1 h4 (by omega)
  have lp35 : ∀ (fu : Nat) (k : Nat) (x1 : Int32) (x2 : Int32) (x3 : Int32), (k ≤ 16) → (k < fu) → (dg_run T f s2 y lim (nI st) 16 (0, 0, 0) = dg_run T f s2 y lim (nI st) k (x1, x2, x3)) → ∀ y35_7 : Int32, y35_7 = nI k - 1 → ∀ (w35 : va_W) (H : Heap) (locs : List Loc), xg_H D bs w35 s.heap H locs → (w35[b]? = some (ad b, .inr (2, [.int x1, .int x2, .int x3]))) → (xv_T cI ad w35 b2 T) → xv_S ws w35 b 1 → ∀ (ls : Array Slot), lv_has ls 10 [(0, .ref (ad b)), (1, .ref (ad b2)), (2, .int f), (3, .int s2), (4, .int y), (5, .int lim), (6, .int x8), (7, .int y35_7)] → W pg l en ({ frames := 4, cells := 0, slots := 0, locals := 103 } : Room) s m ([.ref (ad b), .ref (ad b2), .int f, .int s2, .int y, .int lim] : List Value).toArray below meth c H locs 0 0 Q (F0 m 35 ls []) := by
    intro fu
    induction fu with
    | zero =>
      intro k x1 x2 x3 hk hf hr2
      exact absurd hf (by omega)
    | succ fu ih =>
      intro k x1 x2 x3 hk hf hr2 y35_7 ey35_7
      intro w35 H locs hG hO hT hSw35
      intro ls hl
      replace ey35_7 := ey35_7.symm; subst ey35_7
      refine lv_iload hx hb dX2_solve_35 (lv_at hl 7 rfl) ?_
      refine lv_if_lt (tgt := 104) hx hb dX2_solve_37 (by decide) (fun c37 => ?_) (fun c37 => ?_)
      · skip
        have hk9 : k = 0 := xb_neg1 (by omega) c37
        rw [hQ]
        exact xg_emv S hr hlk hK hG ⟨(by rw [show ((dg_run T f s2 y lim (nI st) 16 (0, 0, 0)).1) = x1 from (by subst ex8; (rw [hr2, hk9]; rfl))]; rw [show ((dg_run T f s2 y lim (nI st) 16 (0, 0, 0)).2.1) = x2 from (by subst ex8; (rw [hr2, hk9]; rfl))]; rw [show ((dg_run T f s2 y lim (nI st) 16 (0, 0, 0)).2.2) = x3 from (by subst ex8; (rw [hr2, hk9]; rfl))]; exact hO), hT, hSw35⟩ dX2_solve_104
      · skip
        have hk9 : 0 < k := xb_nneg1 c37
        refine lv_iload hx hb dX2_solve_40 (lv_at hl 4 rfl) ?_
        refine lv_iload hx hb dX2_solve_42 (lv_at hl 7 rfl) ?_
        refine lv_iload hx hb dX2_solve_44 (lv_at hl 6 rfl) ?_
        refine lv_imul hx hb dX2_solve_46 ?_
        refine lv_iadd hx hb dX2_solve_47 ?_
        refine lv_topi (fun x9 ex9 => ?_)
        replace ex9 := ex9.symm
        refine lv_istore (lv' := [(8, .int x9), (0, .ref (ad b)), (1, .ref (ad b2)), (2, .int f), (3, .int s2), (4, .int y), (5, .int lim), (6, .int x8), (7, .int (nI k - 1))]) hx hb dX2_solve_48 hl (by decide) rfl (fun ls hl => ?_)
        refine lv_iload hx hb dX2_solve_50 (lv_at hl 0 rfl) ?_
        refine lv_iload hx hb dX2_solve_52 (lv_at hl 6 rfl) ?_
        refine lv_icmp_gt (tgt := 98) hx hb dX2_solve_54 (by decide) (fun c54 => ?_) (fun c54 => ?_)
        · skip
          obtain ⟨x10, ex10⟩ : ∃ zz : Int32, (nI k - 1) + (-1) = zz := ⟨_, rfl⟩
          refine lv_iinc (v := x10) (lv' := [(7, .int x10), (8, .int x9), (0, .ref (ad b)), (1, .ref (ad b2)), (2, .int f), (3, .int s2), (4, .int y), (5, .int lim), (6, .int x8)]) hx hb dX2_solve_98 hl (k := 8) rfl (by rw [← ex10]; rfl) (by decide) rfl (fun ls hl => ?_)
          refine lv_goto (tgt := 35) hx hb dX2_solve_101 (by decide) ?_
          exact ih (k - 1) x1 x2 x3 (by omega) (by omega) (by rw [hr2, dg_run_S hk9]; unfold dg_stp; rw [← hmx, ex9]; first | rw [if_pos c54] | (rw [if_neg c54]; subst ex8 ex9 ex10; rfl)) x10 (by subst ex8 ex9 ex10; rw [xb_dec1 hk9]; exact xb_m1 _) w35 _ _ hG hO hT hSw35 ls (lv_sub hl [2, 3, 4, 5, 6, 7, 8, 0] rfl)
        · skip
          refine lv_iload hx hb dX2_solve_57 (lv_at hl 8 rfl) ?_
          refine lv_iconst (v := 2) hx hb dX2_solve_59 (by decide) ?_
          refine lv_irem hx hb dX2_solve_60 (by decide) ?_
          have jn69_11 : ∀ v11 : Int32, v11 = (if ((nI k - 1) - (nI k - 1) / 2 * 2) = 0 then 1 else 0) → W pg l en ({ frames := 4, cells := 0, slots := 0, locals := 103 } : Room) s m ([.ref (ad b), .ref (ad b2), .int f, .int s2, .int y, .int lim] : List Value).toArray below meth c H locs 0 0 Q (F0 m 69 ls [.int v11]) := by
            intro v11 ev11
            replace ev11 := ev11.symm
            refine lv_istore (lv' := [(9, .int v11), (8, .int x9), (0, .ref (ad b)), (1, .ref (ad b2)), (2, .int f), (3, .int s2), (4, .int y), (5, .int lim), (6, .int x8), (7, .int (nI k - 1))]) hx hb dX2_solve_69 hl (by decide) rfl (fun ls hl => ?_)
            refine lv_aload_n hx hb dX2_solve_71 rfl (lv_at hl 2 rfl) ?_
            refine lv_aload_n hx hb dX2_solve_72 rfl (lv_at hl 3 rfl) ?_
            refine lv_iload hx hb dX2_solve_73 (lv_at hl 0 rfl) ?_
            have jn83_12 : ∀ v12 : Int32, v12 = (if v11 = 0 then s2 else f) → W pg l en ({ frames := 4, cells := 0, slots := 0, locals := 103 } : Room) s m ([.ref (ad b), .ref (ad b2), .int f, .int s2, .int y, .int lim] : List Value).toArray below meth c H locs 0 0 Q (F0 m 83 ls [.int v12, .ref (ad b2), .ref (ad b)]) := by
              intro v12 ev12
              replace ev12 := ev12.symm
              refine lv_iload hx hb dX2_solve_83 (lv_at hl 0 rfl) ?_
              have jn93_13 : ∀ v13 : Int32, v13 = (if v11 = 0 then f else s2) → W pg l en ({ frames := 4, cells := 0, slots := 0, locals := 103 } : Room) s m ([.ref (ad b), .ref (ad b2), .int f, .int s2, .int y, .int lim] : List Value).toArray below meth c H locs 0 0 Q (F0 m 93 ls [.int v13, .int v12, .ref (ad b2), .ref (ad b)]) := by
                intro v13 ev13
                replace ev13 := ev13.symm
                refine lv_iload hx hb dX2_solve_93 (lv_at hl 1 rfl) ?_
                refine xg_mv (va_runV (As := [.ref (ad b2), .int v12, .int v13, .int x9]) (rest := []) S (mX2_settle l D cI cZ bs ad w35 b b2 x1 x2 x3 hO T hT v12 v13 x9 (by assumption)) (cwV 4 hts gX2_solve_X2_settle rfl rfl rfl (by decide +kernel) ⟨Nat.le_of_ble_eq_true rfl, Nat.le_of_ble_eq_true rfl⟩) (xg_preV hK hG b hO rfl rfl) rfl rfl hl.1 rfl (lv_room (Nat.le_of_ble_eq_true rfl)) dX2_solve_95 ⟨Nat.zero_le _, Nat.zero_le _⟩) hG (fun w15 H locs hr14 hG => ?_)
                obtain ⟨hvw15_0, hvw15_1, hsw15⟩ := hr14
                have hO : w15[b]? = some (ad b, .inr (2, [.int ((dg_set T v12 v13 x9 (x1, x2, x3)).1), .int ((dg_set T v12 v13 x9 (x1, x2, x3)).2.1), .int ((dg_set T v12 v13 x9 (x1, x2, x3)).2.2)])) := hvw15_0
                obtain ⟨x16, ex16⟩ : ∃ zz : Int32, (dg_set T v12 v13 x9 (x1, x2, x3)).1 = zz := ⟨_, rfl⟩
                rw [ex16] at hO
                obtain ⟨x17, ex17⟩ : ∃ zz : Int32, (dg_set T v12 v13 x9 (x1, x2, x3)).2.1 = zz := ⟨_, rfl⟩
                rw [ex17] at hO
                obtain ⟨x18, ex18⟩ : ∃ zz : Int32, (dg_set T v12 v13 x9 (x1, x2, x3)).2.2 = zz := ⟨_, rfl⟩
                rw [ex18] at hO
                have hT : xv_T cI ad w15 b2 T := hvw15_1
                have hSw15 : xv_S ws w15 b 1 := hSw35.trans (hsw15.mono (by omega) (by omega))
                obtain ⟨x19, ex19⟩ : ∃ zz : Int32, (nI k - 1) + (-1) = zz := ⟨_, rfl⟩
                refine lv_iinc (v := x19) (lv' := [(7, .int x19), (9, .int v11), (8, .int x9), (0, .ref (ad b)), (1, .ref (ad b2)), (2, .int f), (3, .int s2), (4, .int y), (5, .int lim), (6, .int x8)]) hx hb dX2_solve_98 hl (k := 9) rfl (by rw [← ex19]; rfl) (by decide) rfl (fun ls hl => ?_)
                refine lv_goto (tgt := 35) hx hb dX2_solve_101 (by decide) ?_
                exact ih (k - 1) x16 x17 x18 (by omega) (by omega) (by rw [hr2, dg_run_S hk9]; unfold dg_stp; rw [← hmx, ex9]; first | rw [if_pos c54] | (rw [if_neg c54]; subst ex8 ex9 ev11 ev12 ev13 ex16 ex17 ex18 ex19; rfl)) x19 (by subst ex8 ex9 ev11 ev12 ev13 ex16 ex17 ex18 ex19; rw [xb_dec1 hk9]; exact xb_m1 _) w15 _ _ hG hO hT hSw15 ls (lv_sub hl [3, 4, 5, 6, 7, 8, 9, 0] rfl)
              refine lv_if_eq (tgt := 92) hx hb dX2_solve_85 (by decide) (fun c85 => ?_) (fun c85 => ?_)
              · skip
                refine lv_iload_n hx hb dX2_solve_92 rfl (lv_at hl 4 rfl) ?_
                exact jn93_13 _ (by rw [if_pos c85])
              · skip
                refine lv_iload_n hx hb dX2_solve_88 rfl (lv_at hl 5 rfl) ?_
                refine lv_goto (tgt := 93) hx hb dX2_solve_89 (by decide) ?_
                exact jn93_13 _ (by rw [if_neg c85])
            refine lv_if_eq (tgt := 82) hx hb dX2_solve_75 (by decide) (fun c75 => ?_) (fun c75 => ?_)
            · skip
              refine lv_iload_n hx hb dX2_solve_82 rfl (lv_at hl 5 rfl) ?_
              exact jn83_12 _ (by rw [if_pos c75])
            · skip
              refine lv_iload_n hx hb dX2_solve_78 rfl (lv_at hl 4 rfl) ?_
              refine lv_goto (tgt := 83) hx hb dX2_solve_79 (by decide) ?_
              exact jn83_12 _ (by rw [if_neg c75])
          refine lv_if_ne (tgt := 68) hx hb dX2_solve_61 (by decide) (fun c61 => ?_) (fun c61 => ?_)
          · skip
            refine lv_iconst (v := 0) hx hb dX2_solve_68 (by decide) ?_
            exact jn69_11 _ (by rw [if_neg c61])
          · skip
            refine lv_iconst (v := 1) hx hb dX2_solve_64 (by decide) ?_
            refine lv_goto (tgt := 69) hx hb dX2_solve_65 (by decide) ?_
            exact jn69_11 _ (by rw [if_pos c61])
  exact lp35 17 16 0 0 0 (by omega) (by omega) rfl 15 (by decide) w5 _ _ hG hO hT hSw5 ls (lv_sub hl [2, 3, 4, 5, 6, 7, 1, 0] rfl)
set_option maxHeartbeats 4000000 in
set_option maxRecDepth 100000 in
theorem mX3_add (l : Launch) (D : va_G) (cI cZ : ClassId) (bs : Nat) (ad : Nat → Nat) (ws : va_W) (b : Nat) (n : Int32) (hO : ws[b]? = some (ad b, .inr (3, [.ref (ad (b + 1)), .int n]))) (f : Nat → Int32) (hR : ws[b + 1]? = some (ad (b + 1), .inl (cI, 60, .inl f))) (x : Int32) : Met l yX3_add wsX3_add ({ frames := 1, cells := 0, slots := 0, locals := 22 } : Room) (va_Pc [.ref (ad b), .int x] (fun U => xg_W D cI cZ bs ws U)) (va_Qi (fun (r : Int32) (w : va_W) => r = xb_i (decide (n < 60)) ∧ w[b]? = some (ad b, .inr (3, [.ref (ad (b + 1)), .int (if n < 60 then n + 1 else n)])) ∧ w[b + 1]? = some (ad (b + 1), .inl (cI, 60, .inl (if n < 60 then xb_pt 60 f n x else f))) ∧ xv_S ws w b 2) (fun w t => xg_W D cI cZ bs w t) (xg_A bs)) 0 0 (xg_A bs) := by
  refine xg_met cX3_add 2 (some .boolean) RX3 (by decide) rfl rfl (Nat.le_of_ble_eq_true rfl) ?_
  intro pg en s m below meth c ls S hr hlk hnm hB hl
  have hK := hB.1
  have hG := xg_start hB
  obtain ⟨hx, hb, hml, hown, hts⟩ := id S
  have hl : lv_has ls 2 [(0, .ref (ad b)), (1, .int x)] := hl
  obtain ⟨Q, hQ⟩ : ∃ Q, Q = MQ below (va_Qi (fun (r : Int32) (w : va_W) => r = xb_i (decide (n < 60)) ∧ w[b]? = some (ad b, .inr (3, [.ref (ad (b + 1)), .int (if n < 60 then n + 1 else n)])) ∧ w[b + 1]? = some (ad (b + 1), .inl (cI, 60, .inl (if n < 60 then xb_pt 60 f n x else f))) ∧ xv_S ws w b 2) (fun w t => xg_W D cI cZ bs w t) (xg_A bs)) ([.ref (ad b), .int x] : List Value).toArray s 0 0 (xg_A bs) := ⟨_, rfl⟩
  rw [← hQ]
  have k0 := hts (.fieldLink RX3 15 "DareBridge$Pad" "count" "I") (List.mem_of_getElem? (i := 1) rfl)
  have k1 := hts (.fieldLink RX3 9 "DareBridge$Pad" "signs" "[I") (List.mem_of_getElem? (i := 2) rfl)
  have k2 := hts (.initialized RX7) (List.mem_of_getElem? (i := 4) rfl)
  have k3 := hts (.static yX7_put) (List.mem_of_getElem? (i := 3) rfl)
  refine lv_aload_n hx hb dX3_add_0 rfl (lv_at hl 0 rfl) ?_
  refine xg_get (C := RX3) (T := TX3) (N := 2) S hK hG (fun w h => List.mem_cons_of_mem _ (List.mem_append_right _ (h))) b hO rfl 1 (by decide) k0 (fun _ h9 => h9) rfl dX3_add_1 ?_
  refine lv_bipush (v := 60) hx hb dX3_add_4 (by decide) ?_
  refine lv_icmp_lt (tgt := 11) hx hb dX3_add_6 (by decide) (fun c6 => ?_) (fun c6 => ?_)
  · skip
    refine lv_aload_n hx hb dX3_add_11 rfl (lv_at hl 0 rfl) ?_
    refine xg_get (C := RX3) (T := TX3) (N := 2) S hK hG (fun w h => List.mem_cons_of_mem _ (List.mem_append_right _ (h))) b hO rfl 0 (by decide) k1 (fun _ h9 => h9) rfl dX3_add_12 ?_
    refine lv_aload_n hx hb dX3_add_15 rfl (lv_at hl 0 rfl) ?_
    refine xg_get (C := RX3) (T := TX3) (N := 2) S hK hG (fun w h => List.mem_cons_of_mem _ (List.mem_append_right _ (h))) b hO rfl 1 (by decide) k0 (fun _ h9 => h9) rfl dX3_add_16 ?_
    refine lv_iload_n hx hb dX3_add_19 rfl (lv_at hl 1 rfl) ?_
    refine xg_mv (va_runSN (As := [.ref (ad (b + 1)), .int n, .int x]) (rest := []) S (mX7_put l D cI cZ bs ad ws (b + 1) 60 f hR n x (by decide)) ⟨(va_cnB 3 hts gX3_add_X7_put_n19 rfl rfl rfl (hK.2.1 _ xg_nest_11) k2 (by decide +kernel) ⟨Nat.le_of_ble_eq_true rfl, Nat.le_of_ble_eq_true rfl⟩), k3, trivial⟩ (xg_preS hK hG) rfl rfl hl.1 rfl (lv_room (Nat.le_of_ble_eq_true rfl)) dX3_add_20 ⟨Nat.zero_le _, Nat.zero_le _⟩) hG (fun w2 H locs hr1 hG => ?_)
    obtain ⟨hvw2_0, hsw2⟩ := hr1
    obtain ⟨f3, ef3⟩ : ∃ zz : Nat → Int32, xb_pt 60 f n x = zz := ⟨_, rfl⟩
    have hR : w2[b + 1]? = some (ad (b + 1), .inl (cI, 60, .inl f3)) := by rw [← ef3]; exact hvw2_0
    have hO : w2[b]? = some (ad b, .inr (3, [.ref (ad (b + 1)), .int n])) := hsw2.at hO (by omega)
    have hSw2 : xv_S ws w2 b 2 := hsw2.mono (by omega) (by omega)
    refine lv_aload_n hx hb dX3_add_23 rfl (lv_at hl 0 rfl) ?_
    refine lv_dup hx hb dX3_add_24 rfl ?_
    refine xg_get (C := RX3) (T := TX3) (N := 2) S hK hG (fun w h => List.mem_cons_of_mem _ (List.mem_append_right _ (h))) b hO rfl 1 (by decide) k0 (fun _ h9 => h9) rfl dX3_add_25 ?_
    refine lv_iconst (v := 1) hx hb dX3_add_28 (by decide) ?_
    refine lv_iadd hx hb dX3_add_29 ?_
    refine xg_put2 (C := RX3) (T := TX3) (N := 2) (v := .int (n + 1)) (ty := .int) S hK hG (fun w h => List.mem_cons_of_mem _ (List.mem_append_right _ (h))) tyX3 tyX3_ok nmX3 b hO rfl 1 (by decide) k0 (fun _ h9 => h9) rfl (by decide +kernel) rfl rfl (Nat.le_of_ble_eq_true rfl) dX3_add_30 (fun w4 H locs hw4 hG => ?_)
    have hs5 : xv_S w2 w4 b 1 := by rw [hw4]; exact xv_S.set (by omega) (by omega)
    obtain ⟨x6, ex6⟩ : ∃ zz : Int32, n + 1 = zz := ⟨_, rfl⟩
    have hO : w4[b]? = some (ad b, .inr (3, [.ref (ad (b + 1)), .int x6])) := by rw [hw4, ← ex6]; exact xv_self hO
    have hR : w4[b + 1]? = some (ad (b + 1), .inl (cI, 60, .inl f3)) := hs5.at hR (by omega)
    have hSw4 : xv_S ws w4 b 2 := hSw2.trans (hs5.mono (by omega) (by omega))
    refine lv_iconst (v := 1) hx hb dX3_add_33 (by decide) ?_
    rw [hQ]
    exact xg_emz S hr hlk rfl hK hG ⟨(by subst ef3 ex6; simp [xb_i, c6]), (by rw [show (if n < 60 then n + 1 else n) = x6 from (by subst ef3 ex6; simp [c6])]; exact hO), (by rw [show (if n < 60 then xb_pt 60 f n x else f) = f3 from (by subst ef3 ex6; simp [c6])]; exact hR), hSw4⟩ dX3_add_34
  · skip
    refine lv_iconst (v := 0) hx hb dX3_add_9 (by decide) ?_
    rw [hQ]
    exact xg_emz S hr hlk rfl hK hG ⟨(by skip; simp [xb_i, c6]), (by rw [show (if n < 60 then n + 1 else n) = n from (by skip; simp [c6])]; exact hO), (by rw [show (if n < 60 then xb_pt 60 f n x else f) = f from (by skip; simp [c6])]; exact hR), xv_S.rf⟩ dX3_add_10
set_option maxHeartbeats 4000000 in
set_option maxRecDepth 100000 in
theorem mX3_clear (l : Launch) (D : va_G) (cI cZ : ClassId) (bs : Nat) (ad : Nat → Nat) (ws : va_W) (b : Nat) (n : Int32) (hO : ws[b]? = some (ad b, .inr (3, [.ref (ad (b + 1)), .int n]))) (f : Nat → Int32) (hR : ws[b + 1]? = some (ad (b + 1), .inl (cI, 60, .inl f))) : Met l yX3_clear wsX3_clear ({ frames := 0, cells := 0, slots := 0, locals := 0 } : Room) (va_Pc [.ref (ad b)] (fun U => xg_W D cI cZ bs ws U)) (va_Qv (fun w : va_W => w[b]? = some (ad b, .inr (3, [.ref (ad (b + 1)), .int 0])) ∧ w[b + 1]? = some (ad (b + 1), .inl (cI, 60, .inl f)) ∧ xv_S ws w b 2) (fun w t => xg_W D cI cZ bs w t) (xg_A bs)) 0 0 (xg_A bs) := by
  refine xg_met cX3_clear 1 none RX3 (by decide) rfl rfl (Nat.le_of_ble_eq_true rfl) ?_
  intro pg en s m below meth c ls S hr hlk hnm hB hl
  have hK := hB.1
  have hG := xg_start hB
  obtain ⟨hx, hb, hml, hown, hts⟩ := id S
  have hl : lv_has ls 1 [(0, .ref (ad b))] := hl
  obtain ⟨Q, hQ⟩ : ∃ Q, Q = MQ below (va_Qv (fun w : va_W => w[b]? = some (ad b, .inr (3, [.ref (ad (b + 1)), .int 0])) ∧ w[b + 1]? = some (ad (b + 1), .inl (cI, 60, .inl f)) ∧ xv_S ws w b 2) (fun w t => xg_W D cI cZ bs w t) (xg_A bs)) ([.ref (ad b)] : List Value).toArray s 0 0 (xg_A bs) := ⟨_, rfl⟩
  rw [← hQ]
  have k0 := hts (.fieldLink RX3 15 "DareBridge$Pad" "count" "I") (List.mem_of_getElem? (i := 1) rfl)
  refine lv_aload_n hx hb dX3_clear_0 rfl (lv_at hl 0 rfl) ?_
  refine lv_iconst (v := 0) hx hb dX3_clear_1 (by decide) ?_
  refine xg_put2 (C := RX3) (T := TX3) (N := 2) (v := .int 0) (ty := .int) S hK hG (fun w h => List.mem_cons_of_mem _ (List.mem_append_right _ (h))) tyX3 tyX3_ok nmX3 b hO rfl 1 (by decide) k0 (fun _ h9 => h9) rfl (by decide +kernel) rfl rfl (Nat.le_of_ble_eq_true rfl) dX3_clear_2 (fun w1 H locs hw1 hG => ?_)
  have hs2 : xv_S ws w1 b 1 := by rw [hw1]; exact xv_S.set (by omega) (by omega)
  have hO : w1[b]? = some (ad b, .inr (3, [.ref (ad (b + 1)), .int 0])) := by rw [hw1]; exact xv_self hO
  have hR : w1[b + 1]? = some (ad (b + 1), .inl (cI, 60, .inl f)) := hs2.at hR (by omega)
  have hSw1 : xv_S ws w1 b 2 := hs2.mono (by omega) (by omega)
  rw [hQ]
  exact xg_emv S hr hlk hK hG ⟨hO, hR, hSw1⟩ dX3_clear_5
set_option maxHeartbeats 4000000 in
set_option maxRecDepth 100000 in
theorem mX3_isLetter (l : Launch) (D : va_G) (cI cZ : ClassId) (bs : Nat) (ad : Nat → Nat) (ws : va_W) (x : Int32) : Met l yX3_isLetter wsX3_isLetter ({ frames := 1, cells := 0, slots := 0, locals := 22 } : Room) (va_Pc [.int x] (fun U => xg_W D cI cZ bs ws U)) (xg_Ri (fun r : Int32 => r = xb_i (dp_let x))) 0 0 xg_F := by
  refine xg_met cX3_isLetter 1 (some .boolean) RX3 (by decide) rfl rfl (Nat.le_of_ble_eq_true rfl) ?_
  intro pg en s m below meth c ls S hr hlk hnm hB hl
  have hK := hB.1
  have hG := xg_start hB
  obtain ⟨hx, hb, hml, hown, hts⟩ := id S
  have hl : lv_has ls 1 [(0, .int x)] := hl
  obtain ⟨Q, hQ⟩ : ∃ Q, Q = MQ below (xg_Ri (fun r : Int32 => r = xb_i (dp_let x))) ([.int x] : List Value).toArray s 0 0 xg_F := ⟨_, rfl⟩
  rw [← hQ]
  have k0 := hts (.initialized RX7) (List.mem_of_getElem? (i := 2) rfl)
  have k1 := hts (.static yX7_within) (List.mem_of_getElem? (i := 1) rfl)
  refine lv_iload_n hx hb dX3_isLetter_0 rfl (lv_at hl 0 rfl) ?_
  refine lv_bipush (v := 65) hx hb dX3_isLetter_1 (by decide) ?_
  refine lv_bipush (v := 70) hx hb dX3_isLetter_3 (by decide) ?_
  refine xg_ri (va_runSN (As := [.int x, .int 65, .int 70]) (rest := []) S (mX7_within l D cI cZ bs ad ws x 65 70) ⟨(va_cnB 3 hts gX3_isLetter_X7_within_n35 rfl rfl rfl (hK.2.1 _ xg_nest_13) k0 (by decide +kernel) ⟨Nat.le_of_ble_eq_true rfl, Nat.le_of_ble_eq_true rfl⟩), k1, trivial⟩ (xg_preS hK hG) rfl rfl hl.1 rfl (lv_room (Nat.le_of_ble_eq_true rfl)) dX3_isLetter_5 ⟨Nat.zero_le _, Nat.zero_le _⟩) (fun r1 hr1 => ?_)
  replace hr1 := hr1.symm; subst hr1
  rw [hQ]
  exact xg_erz S hr hlk (by cases (xw_in x 65 70) <;> rfl) (by skip; rfl) dX3_isLetter_8
set_option maxHeartbeats 4000000 in
set_option maxRecDepth 100000 in
theorem mX3_canStand (l : Launch) (D : va_G) (cI cZ : ClassId) (bs : Nat) (ad : Nat → Nat) (ws : va_W) (x : Int32) (pl : Int32) (be : Int32) : Met l yX3_canStand wsX3_canStand ({ frames := 2, cells := 0, slots := 0, locals := 42 } : Room) (va_Pc [.int x, .int pl, .int be] (fun U => xg_W D cI cZ bs ws U)) (xg_Ri (fun r : Int32 => r = xb_i (dp_can x pl be))) 0 0 xg_F := by
  refine xg_met cX3_canStand 3 (some .boolean) RX3 (by decide) rfl rfl (Nat.le_of_ble_eq_true rfl) ?_
  intro pg en s m below meth c ls S hr hlk hnm hB hl
  have hK := hB.1
  have hG := xg_start hB
  obtain ⟨hx, hb, hml, hown, hts⟩ := id S
  have hl : lv_has ls 3 [(0, .int x), (1, .int pl), (2, .int be)] := hl
  obtain ⟨Q, hQ⟩ : ∃ Q, Q = MQ below (xg_Ri (fun r : Int32 => r = xb_i (dp_can x pl be))) ([.int x, .int pl, .int be] : List Value).toArray s 0 0 xg_F := ⟨_, rfl⟩
  rw [← hQ]
  have k0 := hts (.initialized RX7) (List.mem_of_getElem? (i := 6) rfl)
  have k1 := hts (.static yX7_within) (List.mem_of_getElem? (i := 5) rfl)
  refine lv_iload_n hx hb dX3_canStand_0 rfl (lv_at hl 1 rfl) ?_
  by_cases sw1_0 : pl = 0
  · skip
    refine lv_tableIn (off := 31) (tgt := 32) hx hb dX3_canStand_1 (by rw [sw1_0]; decide) (by rw [sw1_0]; decide) (by rw [sw1_0]; rfl) (by decide) ?_
    refine lv_iload_n hx hb dX3_canStand_32 rfl (lv_at hl 0 rfl) ?_
    refine lv_bipush (v := 46) hx hb dX3_canStand_33 (by decide) ?_
    refine lv_icmp_eq (tgt := 45) hx hb dX3_canStand_35 (by decide) (fun c35 => ?_) (fun c35 => ?_)
    · skip
      refine lv_iconst (v := 1) hx hb dX3_canStand_45 (by decide) ?_
      refine lv_goto (tgt := 50) hx hb dX3_canStand_46 (by decide) ?_
      rw [hQ]
      exact xg_erz S hr hlk rfl (by skip; (unfold dp_can; simp only [*, if_true, if_false]; try rfl)) dX3_canStand_50
    · skip
      refine lv_iload_n hx hb dX3_canStand_38 rfl (lv_at hl 0 rfl) ?_
      refine xg_ri (va_runS (As := [.int x]) (rest := []) S (mX3_isLetter l D cI cZ bs ad ws x) (va_cwS 1 hts gX3_canStand_X3_isLetter rfl rfl rfl (by decide +kernel) ⟨Nat.le_of_ble_eq_true rfl, Nat.le_of_ble_eq_true rfl⟩) (xg_preS hK hG) rfl rfl hl.1 rfl (lv_room (Nat.le_of_ble_eq_true rfl)) dX3_canStand_39 ⟨Nat.zero_le _, Nat.zero_le _⟩) (fun r2 hr2 => ?_)
      replace hr2 := hr2.symm; subst hr2
      refine xb_ifeq (tgt := 49) S dX3_canStand_42 (by decide) (fun c42 => ?_) (fun c42 => ?_)
      · skip
        refine lv_iconst (v := 0) hx hb dX3_canStand_49 (by decide) ?_
        rw [hQ]
        exact xg_erz S hr hlk rfl (by skip; (unfold dp_can; simp only [*, if_true, if_false]; try rfl)) dX3_canStand_50
      · skip
        refine lv_iconst (v := 1) hx hb dX3_canStand_45 (by decide) ?_
        refine lv_goto (tgt := 50) hx hb dX3_canStand_46 (by decide) ?_
        rw [hQ]
        exact xg_erz S hr hlk rfl (by skip; (unfold dp_can; simp only [*, if_true, if_false]; try rfl)) dX3_canStand_50
  · skip
    by_cases sw1_1 : pl = 1
    · skip
      refine lv_tableIn (off := 50) (tgt := 51) hx hb dX3_canStand_1 (by rw [sw1_1]; decide) (by rw [sw1_1]; decide) (by rw [sw1_1]; rfl) (by decide) ?_
      refine lv_iload_n hx hb dX3_canStand_51 rfl (lv_at hl 0 rfl) ?_
      refine xg_ri (va_runS (As := [.int x]) (rest := []) S (mX3_isLetter l D cI cZ bs ad ws x) (va_cwS 1 hts gX3_canStand_X3_isLetter rfl rfl rfl (by decide +kernel) ⟨Nat.le_of_ble_eq_true rfl, Nat.le_of_ble_eq_true rfl⟩) (xg_preS hK hG) rfl rfl hl.1 rfl (lv_room (Nat.le_of_ble_eq_true rfl)) dX3_canStand_52 ⟨Nat.zero_le _, Nat.zero_le _⟩) (fun r3 hr3 => ?_)
      replace hr3 := hr3.symm; subst hr3
      rw [hQ]
      exact xg_erz S hr hlk (by cases (dp_let x) <;> rfl) (by skip; (unfold dp_can; simp only [*, if_true, if_false]; try rfl)) dX3_canStand_55
    · skip
      by_cases sw1_2 : pl = 2
      · skip
        refine lv_tableIn (off := 55) (tgt := 56) hx hb dX3_canStand_1 (by rw [sw1_2]; decide) (by rw [sw1_2]; decide) (by rw [sw1_2]; rfl) (by decide) ?_
        refine lv_iload_n hx hb dX3_canStand_56 rfl (lv_at hl 0 rfl) ?_
        refine lv_bipush (v := 48) hx hb dX3_canStand_57 (by decide) ?_
        refine lv_icmp_eq (tgt := 68) hx hb dX3_canStand_59 (by decide) (fun c59 => ?_) (fun c59 => ?_)
        · skip
          refine lv_iconst (v := 1) hx hb dX3_canStand_68 (by decide) ?_
          refine lv_goto (tgt := 73) hx hb dX3_canStand_69 (by decide) ?_
          rw [hQ]
          exact xg_erz S hr hlk rfl (by skip; (unfold dp_can; simp only [*, if_true, if_false]; try rfl)) dX3_canStand_73
        · skip
          refine lv_iload_n hx hb dX3_canStand_62 rfl (lv_at hl 0 rfl) ?_
          refine lv_bipush (v := 49) hx hb dX3_canStand_63 (by decide) ?_
          refine lv_icmp_ne (tgt := 72) hx hb dX3_canStand_65 (by decide) (fun c65 => ?_) (fun c65 => ?_)
          · skip
            refine lv_iconst (v := 0) hx hb dX3_canStand_72 (by decide) ?_
            rw [hQ]
            exact xg_erz S hr hlk rfl (by skip; (unfold dp_can; simp only [*, if_true, if_false]; try rfl)) dX3_canStand_73
          · skip
            refine lv_iconst (v := 1) hx hb dX3_canStand_68 (by decide) ?_
            refine lv_goto (tgt := 73) hx hb dX3_canStand_69 (by decide) ?_
            rw [hQ]
            exact xg_erz S hr hlk rfl (by skip; (unfold dp_can; simp only [*, if_true, if_false]; try rfl)) dX3_canStand_73
      · skip
        by_cases sw1_3 : pl = 3
        · skip
          refine lv_tableIn (off := 73) (tgt := 74) hx hb dX3_canStand_1 (by rw [sw1_3]; decide) (by rw [sw1_3]; decide) (by rw [sw1_3]; rfl) (by decide) ?_
          refine lv_iload_n hx hb dX3_canStand_74 rfl (lv_at hl 2 rfl) ?_
          refine lv_bipush (v := 48) hx hb dX3_canStand_75 (by decide) ?_
          refine lv_icmp_ne (tgt := 91) hx hb dX3_canStand_77 (by decide) (fun c77 => ?_) (fun c77 => ?_)
          · skip
            refine lv_iload_n hx hb dX3_canStand_91 rfl (lv_at hl 0 rfl) ?_
            refine lv_bipush (v := 48) hx hb dX3_canStand_92 (by decide) ?_
            refine lv_bipush (v := 53) hx hb dX3_canStand_94 (by decide) ?_
            refine xg_ri (va_runSN (As := [.int x, .int 48, .int 53]) (rest := []) S (mX7_within l D cI cZ bs ad ws x 48 53) ⟨(va_cnB 3 hts gX3_canStand_X7_within_n35 rfl rfl rfl (hK.2.1 _ xg_nest_13) k0 (by decide +kernel) ⟨Nat.le_of_ble_eq_true rfl, Nat.le_of_ble_eq_true rfl⟩), k1, trivial⟩ (xg_preS hK hG) rfl rfl hl.1 rfl (lv_room (Nat.le_of_ble_eq_true rfl)) dX3_canStand_96 ⟨Nat.zero_le _, Nat.zero_le _⟩) (fun r4 hr4 => ?_)
            replace hr4 := hr4.symm; subst hr4
            rw [hQ]
            exact xg_erz S hr hlk (by cases (xw_in x 48 53) <;> rfl) (by skip; (unfold dp_can; simp only [*, if_true, if_false]; try rfl)) dX3_canStand_99
          · skip
            refine lv_iload_n hx hb dX3_canStand_80 rfl (lv_at hl 0 rfl) ?_
            refine lv_bipush (v := 49) hx hb dX3_canStand_81 (by decide) ?_
            refine lv_bipush (v := 57) hx hb dX3_canStand_83 (by decide) ?_
            refine xg_ri (va_runSN (As := [.int x, .int 49, .int 57]) (rest := []) S (mX7_within l D cI cZ bs ad ws x 49 57) ⟨(va_cnB 3 hts gX3_canStand_X7_within_n35 rfl rfl rfl (hK.2.1 _ xg_nest_13) k0 (by decide +kernel) ⟨Nat.le_of_ble_eq_true rfl, Nat.le_of_ble_eq_true rfl⟩), k1, trivial⟩ (xg_preS hK hG) rfl rfl hl.1 rfl (lv_room (Nat.le_of_ble_eq_true rfl)) dX3_canStand_85 ⟨Nat.zero_le _, Nat.zero_le _⟩) (fun r5 hr5 => ?_)
            replace hr5 := hr5.symm; subst hr5
            refine lv_goto (tgt := 99) hx hb dX3_canStand_88 (by decide) ?_
            rw [hQ]
            exact xg_erz S hr hlk (by cases (xw_in x 49 57) <;> rfl) (by skip; (unfold dp_can; simp only [*, if_true, if_false]; try rfl)) dX3_canStand_99
        · skip
          have tsw1_0 : (pl : Int32).toInt ≠ 0 := fun q => sw1_0 (Int32.toInt_inj.mp (by rw [q]; rfl))
          have tsw1_1 : (pl : Int32).toInt ≠ 1 := fun q => sw1_1 (Int32.toInt_inj.mp (by rw [q]; rfl))
          have tsw1_2 : (pl : Int32).toInt ≠ 2 := fun q => sw1_2 (Int32.toInt_inj.mp (by rw [q]; rfl))
          have tsw1_3 : (pl : Int32).toInt ≠ 3 := fun q => sw1_3 (Int32.toInt_inj.mp (by rw [q]; rfl))
          refine lv_tableOut (tgt := 100) hx hb dX3_canStand_1 (by omega) (by decide) ?_
          refine lv_iload_n hx hb dX3_canStand_100 rfl (lv_at hl 0 rfl) ?_
          refine lv_bipush (v := 43) hx hb dX3_canStand_101 (by decide) ?_
          refine lv_icmp_eq (tgt := 118) hx hb dX3_canStand_103 (by decide) (fun c103 => ?_) (fun c103 => ?_)
          · skip
            refine lv_iconst (v := 1) hx hb dX3_canStand_118 (by decide) ?_
            refine lv_goto (tgt := 123) hx hb dX3_canStand_119 (by decide) ?_
            rw [hQ]
            exact xg_erz S hr hlk rfl (by skip; (unfold dp_can; simp only [*, if_true, if_false]; try rfl)) dX3_canStand_123
          · skip
            refine lv_iload_n hx hb dX3_canStand_106 rfl (lv_at hl 0 rfl) ?_
            refine lv_bipush (v := 45) hx hb dX3_canStand_107 (by decide) ?_
            refine lv_icmp_eq (tgt := 118) hx hb dX3_canStand_109 (by decide) (fun c109 => ?_) (fun c109 => ?_)
            · skip
              refine lv_iconst (v := 1) hx hb dX3_canStand_118 (by decide) ?_
              refine lv_goto (tgt := 123) hx hb dX3_canStand_119 (by decide) ?_
              rw [hQ]
              exact xg_erz S hr hlk rfl (by skip; (unfold dp_can; simp only [*, if_true, if_false]; try rfl)) dX3_canStand_123
            · skip
              refine lv_iload_n hx hb dX3_canStand_112 rfl (lv_at hl 0 rfl) ?_
              refine lv_bipush (v := 42) hx hb dX3_canStand_113 (by decide) ?_
              refine lv_icmp_ne (tgt := 122) hx hb dX3_canStand_115 (by decide) (fun c115 => ?_) (fun c115 => ?_)
              · skip
                refine lv_iconst (v := 0) hx hb dX3_canStand_122 (by decide) ?_
                rw [hQ]
                exact xg_erz S hr hlk rfl (by skip; (unfold dp_can; simp only [*, if_true, if_false]; try rfl)) dX3_canStand_123
              · skip
                refine lv_iconst (v := 1) hx hb dX3_canStand_118 (by decide) ?_
                refine lv_goto (tgt := 123) hx hb dX3_canStand_119 (by decide) ?_
                rw [hQ]
                exact xg_erz S hr hlk rfl (by skip; (unfold dp_can; simp only [*, if_true, if_false]; try rfl)) dX3_canStand_123
set_option maxHeartbeats 4000000 in
set_option maxRecDepth 100000 in
theorem mX3_faultAt (l : Launch) (D : va_G) (cI cZ : ClassId) (bs : Nat) (ad : Nat → Nat) (ws : va_W) (b : Nat) (n : Int32) (hO : ws[b]? = some (ad b, .inr (3, [.ref (ad (b + 1)), .int n]))) (f : Nat → Int32) (hR : ws[b + 1]? = some (ad (b + 1), .inl (cI, 60, .inl f))) (nn : Nat) (hnn : n = nI nn) (hn60 : nn ≤ 60) : Met l yX3_faultAt wsX3_faultAt ({ frames := 3, cells := 0, slots := 0, locals := 64 } : Room) (va_Pc [.ref (ad b)] (fun U => xg_W D cI cZ bs ws U)) (xg_Ri (fun r : Int32 => r = dp_flt f nn nn 0 0)) 0 0 xg_F := by
  refine xg_met cX3_faultAt 4 (some .int) RX3 (by decide) rfl rfl (Nat.le_of_ble_eq_true rfl) ?_
  intro pg en s m below meth c ls S hr hlk hnm hB hl
  have hK := hB.1
  have hG := xg_start hB
  obtain ⟨hx, hb, hml, hown, hts⟩ := id S
  have hl : lv_has ls 4 [(0, .ref (ad b))] := hl
  obtain ⟨Q, hQ⟩ : ∃ Q, Q = MQ below (xg_Ri (fun r : Int32 => r = dp_flt f nn nn 0 0)) ([.ref (ad b)] : List Value).toArray s 0 0 xg_F := ⟨_, rfl⟩
  rw [← hQ]
  have k0 := hts (.fieldLink RX3 15 "DareBridge$Pad" "count" "I") (List.mem_of_getElem? (i := 1) rfl)
  have k1 := hts (.fieldLink RX3 9 "DareBridge$Pad" "signs" "[I") (List.mem_of_getElem? (i := 2) rfl)
  have k2 := hts (.initialized RX7) (List.mem_of_getElem? (i := 4) rfl)
  have k3 := hts (.static yX7_at) (List.mem_of_getElem? (i := 3) rfl)
  refine lv_iconst (v := 0) hx hb dX3_faultAt_0 (by decide) ?_
  refine lv_istore_n (lv' := [(1, .int 0), (0, .ref (ad b))]) hx hb dX3_faultAt_1 rfl hl (by decide) rfl (fun ls hl => ?_)
  refine lv_iconst (v := 0) hx hb dX3_faultAt_2 (by decide) ?_
  refine lv_istore_n (lv' := [(2, .int 0), (1, .int 0), (0, .ref (ad b))]) hx hb dX3_faultAt_3 rfl hl (by decide) rfl (fun ls hl => ?_)
  -- the loop at 4
  have lp4 : ∀ (fu : Nat) (k : Nat) (pl : Int32), (k ≤ nn) → (nn < k + fu) → (dp_flt f nn nn 0 0 = dp_flt f nn (nn - k) k pl) → ∀ y4_2 : Int32, y4_2 = nI k → ∀ (ls : Array Slot), lv_has ls 4 [(0, .ref (ad b)), (1, .int pl), (2, .int y4_2)] → W pg l en ({ frames := 3, cells := 0, slots := 0, locals := 64 } : Room) s m ([.ref (ad b)] : List Value).toArray below meth c s.heap [] 0 0 Q (F0 m 4 ls []) := by
    intro fu
    induction fu with
    | zero =>
      intro k pl hk hf hr2
      exact absurd hf (by omega)
    | succ fu ih =>
      intro k pl hk hf hr2 y4_2 ey4_2
      intro ls hl
      replace ey4_2 := ey4_2.symm; subst ey4_2
      refine lv_iload_n hx hb dX3_faultAt_4 rfl (lv_at hl 2 rfl) ?_
      refine lv_aload_n hx hb dX3_faultAt_5 rfl (lv_at hl 0 rfl) ?_
      refine xg_get (C := RX3) (T := TX3) (N := 2) S hK hG (fun w h => List.mem_cons_of_mem _ (List.mem_append_right _ (h))) b hO rfl 1 (by decide) k0 (fun _ h9 => h9) rfl dX3_faultAt_6 ?_
      refine lv_icmp_ge (tgt := 66) hx hb dX3_faultAt_9 (by decide) (fun c9 => ?_) (fun c9 => ?_)
      · skip
        have hk9 : k = nn := by have := xb_le (k := k) (n := nn) (by omega) (by omega) (by rw [← hnn]; exact c9); omega
        refine lv_iload_n hx hb dX3_faultAt_66 rfl (lv_at hl 1 rfl) ?_
        refine lv_if_ne (tgt := 75) hx hb dX3_faultAt_67 (by decide) (fun c67 => ?_) (fun c67 => ?_)
        · skip
          refine lv_aload_n hx hb dX3_faultAt_75 rfl (lv_at hl 0 rfl) ?_
          refine xg_get (C := RX3) (T := TX3) (N := 2) S hK hG (fun w h => List.mem_cons_of_mem _ (List.mem_append_right _ (h))) b hO rfl 1 (by decide) k0 (fun _ h9 => h9) rfl dX3_faultAt_76 ?_
          rw [hQ]
          exact xg_eri S hr hlk (by skip; (rw [hr2, hk9, Nat.sub_self, dp_flt]; first | rw [if_neg c67, hnn] | rw [if_pos c67])) dX3_faultAt_79
        · skip
          refine lv_bipush (v := (-6)) hx hb dX3_faultAt_70 (by decide) ?_
          refine lv_goto (tgt := 79) hx hb dX3_faultAt_72 (by decide) ?_
          rw [hQ]
          exact xg_eri S hr hlk (by skip; (rw [hr2, hk9, Nat.sub_self, dp_flt]; first | rw [if_neg c67, hnn] | rw [if_pos c67])) dX3_faultAt_79
      · skip
        have hk9 : k < nn := xb_lt (by omega) (by omega) (by rw [← hnn]; exact c9)
        refine lv_aload_n hx hb dX3_faultAt_12 rfl (lv_at hl 0 rfl) ?_
        refine xg_get (C := RX3) (T := TX3) (N := 2) S hK hG (fun w h => List.mem_cons_of_mem _ (List.mem_append_right _ (h))) b hO rfl 0 (by decide) k1 (fun _ h9 => h9) rfl dX3_faultAt_13 ?_
        refine lv_iload_n hx hb dX3_faultAt_16 rfl (lv_at hl 2 rfl) ?_
        refine xg_ri (va_runSN (As := [.ref (ad (b + 1)), .int (nI k)]) (rest := []) S (mX7_at l D cI cZ bs ad ws (b + 1) 60 f hR (nI k) (by decide)) ⟨(va_cnB 2 hts gX3_faultAt_X7_at_n23 rfl rfl rfl (hK.2.1 _ xg_nest_12) k2 (by decide +kernel) ⟨Nat.le_of_ble_eq_true rfl, Nat.le_of_ble_eq_true rfl⟩), k3, trivial⟩ (xg_preS hK hG) rfl rfl hl.1 rfl (lv_room (Nat.le_of_ble_eq_true rfl)) dX3_faultAt_17 ⟨Nat.zero_le _, Nat.zero_le _⟩) (fun r1 hr1 => ?_)
        replace hr1 := hr1.symm; subst hr1
        refine lv_topi (fun x2 ex2 => ?_)
        replace ex2 := ex2.symm
        refine lv_istore_n (lv' := [(3, .int x2), (0, .ref (ad b)), (1, .int pl), (2, .int (nI k))]) hx hb dX3_faultAt_20 rfl hl (by decide) rfl (fun ls hl => ?_)
        refine lv_iload_n hx hb dX3_faultAt_21 rfl (lv_at hl 0 rfl) ?_
        refine lv_iload_n hx hb dX3_faultAt_22 rfl (lv_at hl 2 rfl) ?_
        refine lv_aload_n hx hb dX3_faultAt_23 rfl (lv_at hl 1 rfl) ?_
        refine xg_get (C := RX3) (T := TX3) (N := 2) S hK hG (fun w h => List.mem_cons_of_mem _ (List.mem_append_right _ (h))) b hO rfl 0 (by decide) k1 (fun _ h9 => h9) rfl dX3_faultAt_24 ?_
        refine lv_iload_n hx hb dX3_faultAt_27 rfl (lv_at hl 3 rfl) ?_
        refine lv_iconst (v := 1) hx hb dX3_faultAt_28 (by decide) ?_
        refine lv_isub hx hb dX3_faultAt_29 ?_
        refine xg_ri (va_runSN (As := [.ref (ad (b + 1)), .int ((nI k) - 1)]) (rest := [.int pl, .int x2]) S (mX7_at l D cI cZ bs ad ws (b + 1) 60 f hR ((nI k) - 1) (by decide)) ⟨(va_cnB 2 hts gX3_faultAt_X7_at_n23 rfl rfl rfl (hK.2.1 _ xg_nest_12) k2 (by decide +kernel) ⟨Nat.le_of_ble_eq_true rfl, Nat.le_of_ble_eq_true rfl⟩), k3, trivial⟩ (xg_preS hK hG) rfl rfl hl.1 rfl (lv_room (Nat.le_of_ble_eq_true rfl)) dX3_faultAt_30 ⟨Nat.zero_le _, Nat.zero_le _⟩) (fun r3 hr3 => ?_)
        replace hr3 := hr3.symm; subst hr3
        refine xg_ri (va_runS (As := [.int x2, .int pl, .int (xb_at 60 f ((nI k) - 1))]) (rest := []) S (mX3_canStand l D cI cZ bs ad ws x2 pl (xb_at 60 f ((nI k) - 1))) (va_cwS 3 hts gX3_faultAt_X3_canStand rfl rfl rfl (by decide +kernel) ⟨Nat.le_of_ble_eq_true rfl, Nat.le_of_ble_eq_true rfl⟩) (xg_preS hK hG) rfl rfl hl.1 rfl (lv_room (Nat.le_of_ble_eq_true rfl)) dX3_faultAt_33 ⟨Nat.zero_le _, Nat.zero_le _⟩) (fun r4 hr4 => ?_)
        replace hr4 := hr4.symm; subst hr4
        refine xb_ifne (tgt := 41) S dX3_faultAt_36 (by decide) (fun c36 => ?_) (fun c36 => ?_)
        · skip
          refine lv_iload_n hx hb dX3_faultAt_41 rfl (lv_at hl 0 rfl) ?_
          refine lv_bipush (v := 46) hx hb dX3_faultAt_42 (by decide) ?_
          have jn59_5 : ∀ v5 : Int32, v5 = (if x2 = 46 then 0 else if pl = 4 then 0 else pl + 1) → W pg l en ({ frames := 3, cells := 0, slots := 0, locals := 64 } : Room) s m ([.ref (ad b)] : List Value).toArray below meth c s.heap [] 0 0 Q (F0 m 59 ls [.int v5]) := by
            intro v5 ev5
            replace ev5 := ev5.symm
            refine lv_istore_n (lv' := [(1, .int v5), (3, .int x2), (0, .ref (ad b)), (2, .int (nI k))]) hx hb dX3_faultAt_59 rfl hl (by decide) rfl (fun ls hl => ?_)
            obtain ⟨x6, ex6⟩ : ∃ zz : Int32, (nI k) + 1 = zz := ⟨_, rfl⟩
            refine lv_iinc (v := x6) (lv' := [(2, .int x6), (1, .int v5), (3, .int x2), (0, .ref (ad b))]) hx hb dX3_faultAt_60 hl (k := 3) rfl (by rw [← ex6]; rfl) (by decide) rfl (fun ls hl => ?_)
            refine lv_goto (tgt := 4) hx hb dX3_faultAt_63 (by decide) ?_
            exact ih (k + 1) v5 (by omega) (by omega) (by subst ex2 ev5 ex6; rw [hr2, dp_flt_S hk9, if_pos c36]; rfl) x6 (by subst ex2 ev5 ex6; exact nI_1 k) ls (lv_sub hl [3, 1, 0] rfl)
          refine lv_icmp_eq (tgt := 52) hx hb dX3_faultAt_44 (by decide) (fun c44 => ?_) (fun c44 => ?_)
          · skip
            refine lv_iconst (v := 0) hx hb dX3_faultAt_52 (by decide) ?_
            refine lv_goto (tgt := 59) hx hb dX3_faultAt_53 (by decide) ?_
            exact jn59_5 _ (by rw [if_pos c44])
          · skip
            refine lv_iload_n hx hb dX3_faultAt_47 rfl (lv_at hl 2 rfl) ?_
            refine lv_iconst (v := 4) hx hb dX3_faultAt_48 (by decide) ?_
            refine lv_icmp_ne (tgt := 56) hx hb dX3_faultAt_49 (by decide) (fun c49 => ?_) (fun c49 => ?_)
            · skip
              refine lv_iload_n hx hb dX3_faultAt_56 rfl (lv_at hl 2 rfl) ?_
              refine lv_iconst (v := 1) hx hb dX3_faultAt_57 (by decide) ?_
              refine lv_iadd hx hb dX3_faultAt_58 ?_
              exact jn59_5 _ (by rw [if_neg c44]; rw [if_neg c49])
            · skip
              refine lv_iconst (v := 0) hx hb dX3_faultAt_52 (by decide) ?_
              refine lv_goto (tgt := 59) hx hb dX3_faultAt_53 (by decide) ?_
              exact jn59_5 _ (by rw [if_neg c44]; rw [if_pos c49])
        · skip
          refine lv_iload_n hx hb dX3_faultAt_39 rfl (lv_at hl 3 rfl) ?_
          rw [hQ]
          exact xg_eri S hr hlk (by subst ex2; (rw [hr2, dp_flt_S hk9, if_neg (by simp [c36])])) dX3_faultAt_40
  exact lp4 (nn + 1) 0 0 (by omega) (by omega) rfl 0 (by skip; rfl) ls (lv_sub hl [2, 1, 0] rfl)
