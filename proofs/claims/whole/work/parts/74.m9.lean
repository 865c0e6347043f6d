set_option maxHeartbeats 4000000 in
set_option maxRecDepth 100000 in
theorem mX8_saidBy (l : Launch) (D : va_G) (cI cZ : ClassId) (bs : Nat) (ad : Nat → Nat) (ws : va_W) (b : Nat) (A : Nat → Nat → Int32) (I : Nat → Int32) (L : Int64) (hM : xv_M cI cZ ad ws b A I L) (x : Int32) (m0 : Nat) (hm0 : m0 < 64) (hx0 : x = nI m0) : Met l yX8_saidBy wsX8_saidBy ({ frames := 3, cells := 0, slots := 0, locals := 66 } : Room) (va_Pc [.ref (ad b), .int x] (fun U => xg_W D cI cZ bs ws U)) (xg_Ri (fun r : Int32 => r = em_sbr A I 65 x)) 0 0 xg_F := by
  refine xg_met cX8_saidBy 7 (some .int) RX8 (by decide) rfl rfl (Nat.le_of_ble_eq_true rfl) ?_
  intro pg en s m below meth c ls S hr hlk hnm hB hl
  have hK := hB.1
  have hG := xg_start hB
  obtain ⟨hx, hb, hml, hown, hts⟩ := id S
  have hl : lv_has ls 7 [(0, .ref (ad b)), (1, .int x)] := hl
  obtain ⟨Q, hQ⟩ : ∃ Q, Q = MQ below (xg_Ri (fun r : Int32 => r = em_sbr A I 65 x)) ([.ref (ad b), .int x] : List Value).toArray s 0 0 xg_F := ⟨_, rfl⟩
  rw [← hQ]
  have k0 := hts (.fieldLink RX8 19 "DareBridgeModel" "wish" "[I") (List.mem_of_getElem? (i := 1) rfl)
  have k1 := hts (.fieldLink RX8 16 "DareBridgeModel" "pride" "[I") (List.mem_of_getElem? (i := 2) rfl)
  refine lv_iload_n hx hb dX8_saidBy_0 rfl (lv_at hl 1 rfl) ?_
  refine lv_istore_n (lv' := [(2, .int x), (0, .ref (ad b)), (1, .int x)]) hx hb dX8_saidBy_1 rfl hl (by decide) rfl (fun ls hl => ?_)
  refine lv_iconst (v := 1) hx hb dX8_saidBy_2 (by decide) ?_
  refine lv_istore_n (lv' := [(3, .int 1), (2, .int x), (0, .ref (ad b)), (1, .int x)]) hx hb dX8_saidBy_3 rfl hl (by decide) rfl (fun ls hl => ?_)
  -- the loop at 4
  have lp4 : ∀ (fu : Nat) (ma : Nat) (mo : Int32), (ma < 64) → ((mo = 1 ∧ 65 ≤ ma + fu) ∨ (mo = 0 ∧ 1 ≤ fu)) → (em_sbr A I 65 x = if mo = 0 then nI ma else em_sbr A I fu (nI ma)) → ∀ y4_2 : Int32, y4_2 = nI ma → ∀ (ls : Array Slot), lv_has ls 7 [(0, .ref (ad b)), (1, .int x), (2, .int y4_2), (3, .int mo)] → W pg l en ({ frames := 3, cells := 0, slots := 0, locals := 66 } : Room) s m ([.ref (ad b), .int x] : List Value).toArray below meth c s.heap [] 0 0 Q (F0 m 4 ls []) := by
    intro fu
    induction fu with
    | zero =>
      intro ma mo hm hmo hr2
      exact absurd hmo (by rintro (⟨-, h⟩ | ⟨-, h⟩) <;> omega)
    | succ fu ih4 =>
      intro ma mo hm hmo hr2 y4_2 ey4_2
      intro ls hl
      replace ey4_2 := ey4_2.symm; subst ey4_2
      refine lv_iload_n hx hb dX8_saidBy_4 rfl (lv_at hl 3 rfl) ?_
      refine lv_if_eq (tgt := 105) hx hb dX8_saidBy_5 (by decide) (fun c5 => ?_) (fun c5 => ?_)
      · skip
        refine lv_iload_n hx hb dX8_saidBy_105 rfl (lv_at hl 2 rfl) ?_
        rw [hQ]
        exact xg_eri S hr hlk (by skip; rw [hr2, if_pos c5]) dX8_saidBy_106
      · skip
        have hr3 : em_sbr A I 65 x = em_sbr A I (fu + 1) (nI ma) := by rw [hr2, if_neg c5]
        have hfo : 64 ≤ ma + fu := by rcases hmo with ⟨-, h⟩ | ⟨h, -⟩; omega; exact absurd h c5
        refine lv_iload_n hx hb dX8_saidBy_8 rfl (lv_at hl 2 rfl) ?_
        refine lv_istore (lv' := [(4, .int (nI ma)), (0, .ref (ad b)), (1, .int x), (2, .int (nI ma)), (3, .int mo)]) hx hb dX8_saidBy_9 hl (by decide) rfl (fun ls hl => ?_)
        refine lv_iconst (v := 0) hx hb dX8_saidBy_11 (by decide) ?_
        refine lv_istore (lv' := [(5, .int 0), (4, .int (nI ma)), (0, .ref (ad b)), (1, .int x), (2, .int (nI ma)), (3, .int mo)]) hx hb dX8_saidBy_12 hl (by decide) rfl (fun ls hl => ?_)
        -- the loop at 14
        have lp14 : ∀ (fu : Nat) (k : Nat), (k ≤ 6) → (7 ≤ k + fu) → ∀ y14_4 : Int32, y14_4 = em_sbk A I (nI ma) k → ∀ y14_5 : Int32, y14_5 = nI k → ∀ (ls : Array Slot), lv_has ls 7 [(0, .ref (ad b)), (1, .int x), (2, .int (nI ma)), (3, .int mo), (4, .int y14_4), (5, .int y14_5)] → W pg l en ({ frames := 3, cells := 0, slots := 0, locals := 66 } : Room) s m ([.ref (ad b), .int x] : List Value).toArray below meth c s.heap [] 0 0 Q (F0 m 14 ls []) := by
          intro fu
          induction fu with
          | zero =>
            intro k hk hf
            exact absurd hf (by omega)
          | succ fu ih14 =>
            intro k hk hf y14_4 ey14_4 y14_5 ey14_5
            intro ls hl
            replace ey14_4 := ey14_4.symm; subst ey14_4
            replace ey14_5 := ey14_5.symm; subst ey14_5
            refine lv_iload hx hb dX8_saidBy_14 (lv_at hl 5 rfl) ?_
            refine lv_bipush (v := 6) hx hb dX8_saidBy_16 (by decide) ?_
            refine lv_icmp_ge (tgt := 87) hx hb dX8_saidBy_18 (by decide) (fun c18 => ?_) (fun c18 => ?_)
            · skip
              have hk9 : k = 6 := by have := xb_le (k := k) (n := 6) (by omega) (by decide) c18; omega
              obtain ⟨m2, hm2, hme, hml⟩ := em_sbk_N (A := A) (I := I) (x := nI ma) rfl hm 6 (by omega)
              refine lv_iload hx hb dX8_saidBy_87 (lv_at hl 4 rfl) ?_
              refine lv_iload_n hx hb dX8_saidBy_89 rfl (lv_at hl 2 rfl) ?_
              refine lv_icmp_eq (tgt := 97) hx hb dX8_saidBy_90 (by decide) (fun c90 => ?_) (fun c90 => ?_)
              · skip
                have hd9 : nI m2 = nI ma := by rw [← hme, ← hk9]; exact c90
                refine lv_iconst (v := 0) hx hb dX8_saidBy_97 (by decide) ?_
                refine lv_istore_n (lv' := [(3, .int 0), (0, .ref (ad b)), (1, .int x), (2, .int (nI ma)), (4, .int (em_sbk A I (nI ma) k)), (5, .int (nI k))]) hx hb dX8_saidBy_98 rfl hl (by decide) rfl (fun ls hl => ?_)
                refine lv_iload hx hb dX8_saidBy_99 (lv_at hl 4 rfl) ?_
                refine lv_topi (fun x1 ex1 => ?_)
                replace ex1 := ex1.symm
                refine lv_istore_n (lv' := [(2, .int x1), (3, .int 0), (0, .ref (ad b)), (1, .int x), (4, .int (em_sbk A I (nI ma) k)), (5, .int (nI k))]) hx hb dX8_saidBy_101 rfl hl (by decide) rfl (fun ls hl => ?_)
                refine lv_goto (tgt := 4) hx hb dX8_saidBy_102 (by decide) ?_
                exact ih4 m2 0 (by omega) (.inr ⟨rfl, by omega⟩) (by rw [hr3, em_sbr, hme]; rw [if_pos (show nI m2 = nI ma from hd9), if_pos rfl, show nI m2 = nI ma from hd9]) x1 (by subst ex1; rw [hk9]; exact hme) ls (lv_sub hl [2, 3, 0, 1] rfl)
              · skip
                have hd9 : ¬ nI m2 = nI ma := by rw [← hme, ← hk9]; exact c90
                have hnm : ma < m2 := by rcases Nat.lt_or_ge ma m2 with q | q; exact q; exact absurd (by rw [show m2 = ma by omega]) hd9
                refine lv_iconst (v := 1) hx hb dX8_saidBy_93 (by decide) ?_
                refine lv_goto (tgt := 98) hx hb dX8_saidBy_94 (by decide) ?_
                refine lv_istore_n (lv' := [(3, .int 1), (0, .ref (ad b)), (1, .int x), (2, .int (nI ma)), (4, .int (em_sbk A I (nI ma) k)), (5, .int (nI k))]) hx hb dX8_saidBy_98 rfl hl (by decide) rfl (fun ls hl => ?_)
                refine lv_iload hx hb dX8_saidBy_99 (lv_at hl 4 rfl) ?_
                refine lv_topi (fun x2 ex2 => ?_)
                replace ex2 := ex2.symm
                refine lv_istore_n (lv' := [(2, .int x2), (3, .int 1), (0, .ref (ad b)), (1, .int x), (4, .int (em_sbk A I (nI ma) k)), (5, .int (nI k))]) hx hb dX8_saidBy_101 rfl hl (by decide) rfl (fun ls hl => ?_)
                refine lv_goto (tgt := 4) hx hb dX8_saidBy_102 (by decide) ?_
                exact ih4 m2 1 (by omega) (.inl ⟨rfl, by omega⟩) (by rw [hr3, em_sbr, hme]; rw [if_neg (show ¬ nI m2 = nI ma from hd9), if_neg (by decide)]) x2 (by subst ex2; rw [hk9]; exact hme) ls (lv_sub hl [2, 3, 0, 1] rfl)
            · skip
              have hk9 : k < 6 := xb_lt (by omega) (by decide) c18
              refine lv_aload_n hx hb dX8_saidBy_21 rfl (lv_at hl 0 rfl) ?_
              refine lv_iload hx hb dX8_saidBy_22 (lv_at hl 5 rfl) ?_
              refine xg_ri (va_runV (As := [.int (nI k)]) (rest := []) S (mX8_isThere l D cI cZ bs ad ws b A I L hM (nI k)) (cwV 1 hts gX8_saidBy_X8_isThere rfl rfl rfl (by decide +kernel) ⟨Nat.le_of_ble_eq_true rfl, Nat.le_of_ble_eq_true rfl⟩) (xg_preV hK hG b hM.1 rfl rfl) rfl rfl hl.1 rfl (lv_room (Nat.le_of_ble_eq_true rfl)) dX8_saidBy_24 ⟨Nat.zero_le _, Nat.zero_le _⟩) (fun r3 hr3 => ?_)
              replace hr3 := hr3.symm; subst hr3
              have jn61_4 : ∀ v4 : Int32, v4 = ((if em_isT I (nI k) = true then if ((A 3) ((nI k).toNatClampNeg)) = 0 then if (em_one (nI ma)) < (((A 2) ((nI k).toNatClampNeg)) / 2) then 0 else 1 else 0 else 0) : Int32) → W pg l en ({ frames := 3, cells := 0, slots := 0, locals := 66 } : Room) s m ([.ref (ad b), .int x] : List Value).toArray below meth c s.heap [] 0 0 Q (F0 m 61 ls [.int v4]) := by
                intro v4 ev4
                replace ev4 := ev4.symm
                refine lv_istore (lv' := [(6, .int v4), (0, .ref (ad b)), (1, .int x), (2, .int (nI ma)), (3, .int mo), (4, .int (em_sbk A I (nI ma) k)), (5, .int (nI k))]) hx hb dX8_saidBy_61 hl (by decide) rfl (fun ls hl => ?_)
                refine lv_iload hx hb dX8_saidBy_63 (lv_at hl 5 rfl) ?_
                refine lv_iload hx hb dX8_saidBy_65 (lv_at hl 0 rfl) ?_
                have jn78_5 : ∀ v5 : Int32, v5 = ((if v4 = 0 then 0 else 1 <<< ((nI k) &&& 31)) : Int32) → W pg l en ({ frames := 3, cells := 0, slots := 0, locals := 66 } : Room) s m ([.ref (ad b), .int x] : List Value).toArray below meth c s.heap [] 0 0 Q (F0 m 78 ls [.int v5, .int (em_sbk A I (nI ma) k)]) := by
                  intro v5 ev5
                  replace ev5 := ev5.symm
                  refine lv_ior hx hb dX8_saidBy_78 ?_
                  refine lv_topi (fun x6 ex6 => ?_)
                  replace ex6 := ex6.symm
                  refine lv_istore (lv' := [(4, .int x6), (6, .int v4), (0, .ref (ad b)), (1, .int x), (2, .int (nI ma)), (3, .int mo), (5, .int (nI k))]) hx hb dX8_saidBy_79 hl (by decide) rfl (fun ls hl => ?_)
                  obtain ⟨x7, ex7⟩ : ∃ zz : Int32, ((nI k) + 1) = zz := ⟨_, rfl⟩
                  refine lv_iinc (v := x7) (lv' := [(5, .int x7), (4, .int x6), (6, .int v4), (0, .ref (ad b)), (1, .int x), (2, .int (nI ma)), (3, .int mo)]) hx hb dX8_saidBy_81 hl (k := 6) rfl (by rw [← ex7]; rfl) (by decide) rfl (fun ls hl => ?_)
                  refine lv_goto (tgt := 14) hx hb dX8_saidBy_84 (by decide) ?_
                  exact ih14 (k + 1) (by omega) (by omega) x6 (by subst ev4 ev5 ex6 ex7; simp only [em_sbk, em_sbj, xb_cl (show k < 2 ^ 31 by omega)]; first | done | rfl) x7 (by subst ev4 ev5 ex6 ex7; exact nI_1 k) ls (lv_sub hl [3, 4, 5, 6, 1, 0] rfl)
                refine lv_if_eq (tgt := 77) hx hb dX8_saidBy_67 (by decide) (fun c67 => ?_) (fun c67 => ?_)
                · skip
                  refine lv_iconst (v := 0) hx hb dX8_saidBy_77 (by decide) ?_
                  exact jn78_5 _ (by rw [if_pos c67])
                · skip
                  refine lv_iconst (v := 1) hx hb dX8_saidBy_70 (by decide) ?_
                  refine lv_iload hx hb dX8_saidBy_71 (lv_at hl 6 rfl) ?_
                  refine lv_ishl hx hb dX8_saidBy_73 ?_
                  refine lv_goto (tgt := 78) hx hb dX8_saidBy_74 (by decide) ?_
                  exact jn78_5 _ (by rw [if_neg c67])
              refine xb_ifeq (tgt := 60) S dX8_saidBy_27 (by decide) (fun c27 => ?_) (fun c27 => ?_)
              · skip
                refine lv_iconst (v := 0) hx hb dX8_saidBy_60 (by decide) ?_
                exact jn61_4 _ (by rw [if_neg (Bool.eq_false_iff.mp c27)])
              · skip
                refine lv_aload_n hx hb dX8_saidBy_30 rfl (lv_at hl 0 rfl) ?_
                refine xg_get (C := RX8) (T := TX8) (N := 46) S hK hG (fun w h => List.mem_cons_of_mem _ (List.mem_append_right _ (h))) b hM.1 rfl 4 (by decide) k0 (fun _ h9 => h9) rfl dX8_saidBy_31 ?_
                refine lv_iload hx hb dX8_saidBy_34 (lv_at hl 5 rfl) ?_
                refine xg_ald S hK hG (b + 4) (show ws[b + 4]? = some (ad (b + 4), .inl (cI, 6, .inl (A 3))) from hM.2.1 3 (by decide)) (i := nI k) (by first | assumption | exact vp_in_nI (by omega) (by decide)) dX8_saidBy_36 ?_
                refine lv_if_ne (tgt := 60) hx hb dX8_saidBy_37 (by decide) (fun c37 => ?_) (fun c37 => ?_)
                · skip
                  refine lv_iconst (v := 0) hx hb dX8_saidBy_60 (by decide) ?_
                  exact jn61_4 _ (by rw [if_pos c27]; rw [if_neg c37])
                · skip
                  refine lv_aload_n hx hb dX8_saidBy_40 rfl (lv_at hl 0 rfl) ?_
                  refine xg_get (C := RX8) (T := TX8) (N := 46) S hK hG (fun w h => List.mem_cons_of_mem _ (List.mem_append_right _ (h))) b hM.1 rfl 3 (by decide) k1 (fun _ h9 => h9) rfl dX8_saidBy_41 ?_
                  refine lv_iload hx hb dX8_saidBy_44 (lv_at hl 5 rfl) ?_
                  refine xg_ald S hK hG (b + 3) (show ws[b + 3]? = some (ad (b + 3), .inl (cI, 6, .inl (A 2))) from hM.2.1 2 (by decide)) (i := nI k) (by first | assumption | exact vp_in_nI (by omega) (by decide)) dX8_saidBy_46 ?_
                  refine lv_iconst (v := 2) hx hb dX8_saidBy_47 (by decide) ?_
                  refine lv_idiv hx hb dX8_saidBy_48 (by decide) ?_
                  refine lv_iload_n hx hb dX8_saidBy_49 rfl (lv_at hl 2 rfl) ?_
                  refine xg_ri (va_runS (As := [.int (nI ma)]) (rest := [.int (((A 2) ((nI k).toNatClampNeg)) / 2)]) S (mX8_ones l D cI cZ bs ad ws (nI ma) ⟨ma, hm, rfl⟩) (va_cwS 1 hts gX8_saidBy_X8_ones rfl rfl rfl (by decide +kernel) ⟨Nat.le_of_ble_eq_true rfl, Nat.le_of_ble_eq_true rfl⟩) (xg_preS hK hG) rfl rfl hl.1 rfl (lv_room (Nat.le_of_ble_eq_true rfl)) dX8_saidBy_50 ⟨Nat.zero_le _, Nat.zero_le _⟩) (fun r8 hr8 => ?_)
                  replace hr8 := hr8.symm; subst hr8
                  refine lv_icmp_gt (tgt := 60) hx hb dX8_saidBy_53 (by decide) (fun c53 => ?_) (fun c53 => ?_)
                  · skip
                    refine lv_iconst (v := 0) hx hb dX8_saidBy_60 (by decide) ?_
                    exact jn61_4 _ (by rw [if_pos c27]; rw [if_pos c37]; rw [if_pos c53])
                  · skip
                    refine lv_iconst (v := 1) hx hb dX8_saidBy_56 (by decide) ?_
                    refine lv_goto (tgt := 61) hx hb dX8_saidBy_57 (by decide) ?_
                    exact jn61_4 _ (by rw [if_pos c27]; rw [if_pos c37]; rw [if_neg c53])
        exact lp14 7 0 (by omega) (by omega) (nI ma) (by skip; rfl) 0 (by skip; rfl) ls (lv_sub hl [2, 3, 4, 5, 1, 0] rfl)
  exact lp4 65 m0 1 (by omega) (.inl ⟨rfl, by omega⟩) (by rw [if_neg (by decide), hx0]) x hx0 ls (lv_sub hl [2, 3, 1, 0] rfl)
set_option maxHeartbeats 4000000 in
set_option maxRecDepth 100000 in
theorem mX8_isHeld (l : Launch) (D : va_G) (cI cZ : ClassId) (bs : Nat) (ad : Nat → Nat) (ws : va_W) (b : Nat) (A : Nat → Nat → Int32) (I : Nat → Int32) (L : Int64) (hM : xv_M cI cZ ad ws b A I L) (x : Int32) (h6 : em_6 x) (h7 : em_6 (I 0)) : Met l yX8_isHeld wsX8_isHeld ({ frames := 1, cells := 0, slots := 0, locals := 22 } : Room) (va_Pc [.ref (ad b), .int x] (fun U => xg_W D cI cZ bs ws U)) (xg_Ri (fun r : Int32 => r = xb_i (em_hld I x))) 0 0 xg_F := by
  refine xg_met cX8_isHeld 2 (some .boolean) RX8 (by decide) rfl rfl (Nat.le_of_ble_eq_true rfl) ?_
  intro pg en s m below meth c ls S hr hlk hnm hB hl
  have hK := hB.1
  have hG := xg_start hB
  obtain ⟨hx, hb, hml, hown, hts⟩ := id S
  have hl : lv_has ls 2 [(0, .ref (ad b)), (1, .int x)] := hl
  obtain ⟨Q, hQ⟩ : ∃ Q, Q = MQ below (xg_Ri (fun r : Int32 => r = xb_i (em_hld I x))) ([.ref (ad b), .int x] : List Value).toArray s 0 0 xg_F := ⟨_, rfl⟩
  rw [← hQ]
  have k0 := hts (.fieldLink RX8 109 "DareBridgeModel" "people" "I") (List.mem_of_getElem? (i := 1) rfl)
  refine lv_iconst (v := 2) hx hb dX8_isHeld_0 (by decide) ?_
  refine lv_iload_n hx hb dX8_isHeld_1 rfl (lv_at hl 1 rfl) ?_
  refine xg_ri (va_runS (As := [.int x]) (rest := [.int 2]) S (mX8_ones l D cI cZ bs ad ws x (by first | assumption | omega)) (va_cwS 1 hts gX8_isHeld_X8_ones rfl rfl rfl (by decide +kernel) ⟨Nat.le_of_ble_eq_true rfl, Nat.le_of_ble_eq_true rfl⟩) (xg_preS hK hG) rfl rfl hl.1 rfl (lv_room (Nat.le_of_ble_eq_true rfl)) dX8_isHeld_2 ⟨Nat.zero_le _, Nat.zero_le _⟩) (fun r1 hr1 => ?_)
  replace hr1 := hr1.symm; subst hr1
  refine lv_imul hx hb dX8_isHeld_5 ?_
  refine lv_aload_n hx hb dX8_isHeld_6 rfl (lv_at hl 0 rfl) ?_
  refine xg_get (C := RX8) (T := TX8) (N := 46) S hK hG (fun w h => List.mem_cons_of_mem _ (List.mem_append_right _ (h))) b hM.1 rfl 0 (by decide) k0 (fun _ h9 => h9) rfl dX8_isHeld_7 ?_
  refine xg_ri (va_runS (As := [.int (I 0)]) (rest := [.int (2 * (em_one x))]) S (mX8_ones l D cI cZ bs ad ws (I 0) (by first | assumption | omega)) (va_cwS 1 hts gX8_isHeld_X8_ones rfl rfl rfl (by decide +kernel) ⟨Nat.le_of_ble_eq_true rfl, Nat.le_of_ble_eq_true rfl⟩) (xg_preS hK hG) rfl rfl hl.1 rfl (lv_room (Nat.le_of_ble_eq_true rfl)) dX8_isHeld_10 ⟨Nat.zero_le _, Nat.zero_le _⟩) (fun r2 hr2 => ?_)
  replace hr2 := hr2.symm; subst hr2
  refine lv_icmp_le (tgt := 20) hx hb dX8_isHeld_13 (by decide) (fun c13 => ?_) (fun c13 => ?_)
  · skip
    refine lv_iconst (v := 0) hx hb dX8_isHeld_20 (by decide) ?_
    rw [hQ]
    exact xg_erz S hr hlk rfl (by skip; simp [em_hld, xb_i, c13]) dX8_isHeld_21
  · skip
    refine lv_iconst (v := 1) hx hb dX8_isHeld_16 (by decide) ?_
    refine lv_goto (tgt := 21) hx hb dX8_isHeld_17 (by decide) ?_
    rw [hQ]
    exact xg_erz S hr hlk rfl (by skip; simp [em_hld, xb_i, c13]) dX8_isHeld_21
set_option maxHeartbeats 4000000 in
set_option maxRecDepth 100000 in
theorem mX8_enough (l : Launch) (D : va_G) (cI cZ : ClassId) (bs : Nat) (ad : Nat → Nat) (ws : va_W) (b : Nat) (A : Nat → Nat → Int32) (I : Nat → Int32) (L : Int64) (hM : xv_M cI cZ ad ws b A I L) (p : Int32) : Met l yX8_enough wsX8_enough ({ frames := 4, cells := 0, slots := 0, locals := 92 } : Room) (va_Pc [.ref (ad b), .int p] (fun U => xg_W D cI cZ bs ws U)) (xg_Ri (fun r : Int32 => r = em_eno A I p)) 0 0 xg_F := by
  refine xg_met cX8_enough 2 (some .int) RX8 (by decide) rfl rfl (Nat.le_of_ble_eq_true rfl) ?_
  intro pg en s m below meth c ls S hr hlk hnm hB hl
  have hK := hB.1
  have hG := xg_start hB
  obtain ⟨hx, hb, hml, hown, hts⟩ := id S
  have hl : lv_has ls 2 [(0, .ref (ad b)), (1, .int p)] := hl
  obtain ⟨Q, hQ⟩ : ∃ Q, Q = MQ below (xg_Ri (fun r : Int32 => r = em_eno A I p)) ([.ref (ad b), .int p] : List Value).toArray s 0 0 xg_F := ⟨_, rfl⟩
  rw [← hQ]
  refine lv_aload_n hx hb dX8_enough_0 rfl (lv_at hl 0 rfl) ?_
  refine lv_iload_n hx hb dX8_enough_1 rfl (lv_at hl 1 rfl) ?_
  refine xg_ri (va_runV (As := [.int p]) (rest := []) S (mX8_isThere l D cI cZ bs ad ws b A I L hM p) (cwV 1 hts gX8_enough_X8_isThere rfl rfl rfl (by decide +kernel) ⟨Nat.le_of_ble_eq_true rfl, Nat.le_of_ble_eq_true rfl⟩) (xg_preV hK hG b hM.1 rfl rfl) rfl rfl hl.1 rfl (lv_room (Nat.le_of_ble_eq_true rfl)) dX8_enough_2 ⟨Nat.zero_le _, Nat.zero_le _⟩) (fun r1 hr1 => ?_)
  replace hr1 := hr1.symm; subst hr1
  refine xb_ifeq (tgt := 18) S dX8_enough_5 (by decide) (fun c5 => ?_) (fun c5 => ?_)
  · skip
    refine lv_iconst (v := (-1)) hx hb dX8_enough_18 (by decide) ?_
    rw [hQ]
    exact xg_eri S hr hlk (by skip; simp only [em_eno, c5, if_true, if_false, Bool.false_eq_true]) dX8_enough_19
  · skip
    obtain ⟨m5, hm5, hx5⟩ := em_sh6 (em_isT_no c5)
    refine lv_aload_n hx hb dX8_enough_8 rfl (lv_at hl 0 rfl) ?_
    refine lv_iconst (v := 1) hx hb dX8_enough_9 (by decide) ?_
    refine lv_iload_n hx hb dX8_enough_10 rfl (lv_at hl 1 rfl) ?_
    refine lv_ishl hx hb dX8_enough_11 ?_
    refine xg_ri (va_runV (As := [.int (1 <<< (p &&& 31))]) (rest := []) S (mX8_saidBy l D cI cZ bs ad ws b A I L hM (1 <<< (p &&& 31)) m5 hm5 hx5) (cwV 1 hts gX8_enough_X8_saidBy rfl rfl rfl (by decide +kernel) ⟨Nat.le_of_ble_eq_true rfl, Nat.le_of_ble_eq_true rfl⟩) (xg_preV hK hG b hM.1 rfl rfl) rfl rfl hl.1 rfl (lv_room (Nat.le_of_ble_eq_true rfl)) dX8_enough_12 ⟨Nat.zero_le _, Nat.zero_le _⟩) (fun r2 hr2 => ?_)
    replace hr2 := hr2.symm; subst hr2
    refine lv_goto (tgt := 19) hx hb dX8_enough_15 (by decide) ?_
    rw [hQ]
    exact xg_eri S hr hlk (by skip; simp only [em_eno, c5, if_true, if_false, Bool.false_eq_true]) dX8_enough_19
set_option maxHeartbeats 4000000 in
set_option maxRecDepth 100000 in
theorem mX8_holds (l : Launch) (D : va_G) (cI cZ : ClassId) (bs : Nat) (ad : Nat → Nat) (ws : va_W) (b : Nat) (A : Nat → Nat → Int32) (I : Nat → Int32) (L : Int64) (hM : xv_M cI cZ ad ws b A I L) (p : Int32) (h6 : em_6 (I 0)) : Met l yX8_holds wsX8_holds ({ frames := 4, cells := 0, slots := 0, locals := 92 } : Room) (va_Pc [.ref (ad b), .int p] (fun U => xg_W D cI cZ bs ws U)) (xg_Ri (fun r : Int32 => r = em_hol A I p)) 0 0 xg_F := by
  refine xg_met cX8_holds 2 (some .int) RX8 (by decide) rfl rfl (Nat.le_of_ble_eq_true rfl) ?_
  intro pg en s m below meth c ls S hr hlk hnm hB hl
  have hK := hB.1
  have hG := xg_start hB
  obtain ⟨hx, hb, hml, hown, hts⟩ := id S
  have hl : lv_has ls 2 [(0, .ref (ad b)), (1, .int p)] := hl
  obtain ⟨Q, hQ⟩ : ∃ Q, Q = MQ below (xg_Ri (fun r : Int32 => r = em_hol A I p)) ([.ref (ad b), .int p] : List Value).toArray s 0 0 xg_F := ⟨_, rfl⟩
  rw [← hQ]
  refine lv_aload_n hx hb dX8_holds_0 rfl (lv_at hl 0 rfl) ?_
  refine lv_iload_n hx hb dX8_holds_1 rfl (lv_at hl 1 rfl) ?_
  refine xg_ri (va_runV (As := [.int p]) (rest := []) S (mX8_isThere l D cI cZ bs ad ws b A I L hM p) (cwV 1 hts gX8_holds_X8_isThere rfl rfl rfl (by decide +kernel) ⟨Nat.le_of_ble_eq_true rfl, Nat.le_of_ble_eq_true rfl⟩) (xg_preV hK hG b hM.1 rfl rfl) rfl rfl hl.1 rfl (lv_room (Nat.le_of_ble_eq_true rfl)) dX8_holds_2 ⟨Nat.zero_le _, Nat.zero_le _⟩) (fun r1 hr1 => ?_)
  replace hr1 := hr1.symm; subst hr1
  refine xb_ifne (tgt := 10) S dX8_holds_5 (by decide) (fun c5 => ?_) (fun c5 => ?_)
  · skip
    obtain ⟨m5, hm5, hx5⟩ := em_sh6 (em_isT_no c5)
    refine lv_aload_n hx hb dX8_holds_10 rfl (lv_at hl 0 rfl) ?_
    refine lv_aload_n hx hb dX8_holds_11 rfl (lv_at hl 0 rfl) ?_
    refine lv_iconst (v := 1) hx hb dX8_holds_12 (by decide) ?_
    refine lv_iload_n hx hb dX8_holds_13 rfl (lv_at hl 1 rfl) ?_
    refine lv_ishl hx hb dX8_holds_14 ?_
    refine xg_ri (va_runV (As := [.int (1 <<< (p &&& 31))]) (rest := [.ref (ad b)]) S (mX8_saidBy l D cI cZ bs ad ws b A I L hM (1 <<< (p &&& 31)) m5 hm5 hx5) (cwV 1 hts gX8_holds_X8_saidBy rfl rfl rfl (by decide +kernel) ⟨Nat.le_of_ble_eq_true rfl, Nat.le_of_ble_eq_true rfl⟩) (xg_preV hK hG b hM.1 rfl rfl) rfl rfl hl.1 rfl (lv_room (Nat.le_of_ble_eq_true rfl)) dX8_holds_15 ⟨Nat.zero_le _, Nat.zero_le _⟩) (fun r2 hr2 => ?_)
    replace hr2 := hr2.symm; subst hr2
    refine xg_ri (va_runV (As := [.int (em_sbr A I 65 (1 <<< (p &&& 31)))]) (rest := []) S (mX8_isHeld l D cI cZ bs ad ws b A I L hM (em_sbr A I 65 (1 <<< (p &&& 31))) (em_sbr_6 65 _ ⟨m5, hm5, hx5⟩) h6) (cwV 1 hts gX8_holds_X8_isHeld rfl rfl rfl (by decide +kernel) ⟨Nat.le_of_ble_eq_true rfl, Nat.le_of_ble_eq_true rfl⟩) (xg_preV hK hG b hM.1 rfl rfl) rfl rfl hl.1 rfl (lv_room (Nat.le_of_ble_eq_true rfl)) dX8_holds_18 ⟨Nat.zero_le _, Nat.zero_le _⟩) (fun r3 hr3 => ?_)
    replace hr3 := hr3.symm; subst hr3
    refine xb_ifeq (tgt := 28) S dX8_holds_21 (by decide) (fun c21 => ?_) (fun c21 => ?_)
    · skip
      refine lv_iconst (v := 0) hx hb dX8_holds_28 (by decide) ?_
      rw [hQ]
      exact xg_eri S hr hlk (by skip; simp only [em_hol, c5, c21, if_true, if_false, Bool.false_eq_true]) dX8_holds_29
    · skip
      refine lv_iconst (v := 1) hx hb dX8_holds_24 (by decide) ?_
      refine lv_goto (tgt := 29) hx hb dX8_holds_25 (by decide) ?_
      rw [hQ]
      exact xg_eri S hr hlk (by skip; simp only [em_hol, c5, c21, if_true, if_false, Bool.false_eq_true]) dX8_holds_29
  · skip
    refine lv_iconst (v := (-1)) hx hb dX8_holds_8 (by decide) ?_
    rw [hQ]
    exact xg_eri S hr hlk (by skip; simp only [em_hol, c5, if_true, if_false, Bool.false_eq_true]) dX8_holds_9
set_option maxHeartbeats 4000000 in
set_option maxRecDepth 100000 in
theorem mX8_without (l : Launch) (D : va_G) (cI cZ : ClassId) (bs : Nat) (ad : Nat → Nat) (ws : va_W) (b : Nat) (A : Nat → Nat → Int32) (I : Nat → Int32) (L : Int64) (hM : xv_M cI cZ ad ws b A I L) : Met l yX8_without wsX8_without ({ frames := 3, cells := 0, slots := 0, locals := 66 } : Room) (va_Pc [.ref (ad b)] (fun U => xg_W D cI cZ bs ws U)) (xg_Ri (fun r : Int32 => r = em_wik A I 6)) 0 0 xg_F := by
  refine xg_met cX8_without 3 (some .int) RX8 (by decide) rfl rfl (Nat.le_of_ble_eq_true rfl) ?_
  intro pg en s m below meth c ls S hr hlk hnm hB hl
  have hK := hB.1
  have hG := xg_start hB
  obtain ⟨hx, hb, hml, hown, hts⟩ := id S
  have hl : lv_has ls 3 [(0, .ref (ad b))] := hl
  obtain ⟨Q, hQ⟩ : ∃ Q, Q = MQ below (xg_Ri (fun r : Int32 => r = em_wik A I 6)) ([.ref (ad b)] : List Value).toArray s 0 0 xg_F := ⟨_, rfl⟩
  rw [← hQ]
  have k0 := hts (.fieldLink RX8 19 "DareBridgeModel" "wish" "[I") (List.mem_of_getElem? (i := 1) rfl)
  refine lv_iconst (v := 0) hx hb dX8_without_0 (by decide) ?_
  refine lv_istore_n (lv' := [(1, .int 0), (0, .ref (ad b))]) hx hb dX8_without_1 rfl hl (by decide) rfl (fun ls hl => ?_)
  refine lv_iconst (v := 0) hx hb dX8_without_2 (by decide) ?_
  refine lv_istore_n (lv' := [(2, .int 0), (1, .int 0), (0, .ref (ad b))]) hx hb dX8_without_3 rfl hl (by decide) rfl (fun ls hl => ?_)
  -- the loop at 4
  have lp4 : ∀ (fu : Nat) (k : Nat), (k ≤ 6) → (7 ≤ k + fu) → ∀ y4_1 : Int32, y4_1 = em_wik A I k → ∀ y4_2 : Int32, y4_2 = nI k → ∀ (ls : Array Slot), lv_has ls 3 [(0, .ref (ad b)), (1, .int y4_1), (2, .int y4_2)] → W pg l en ({ frames := 3, cells := 0, slots := 0, locals := 66 } : Room) s m ([.ref (ad b)] : List Value).toArray below meth c s.heap [] 0 0 Q (F0 m 4 ls []) := by
    intro fu
    induction fu with
    | zero =>
      intro k hk hf
      exact absurd hf (by omega)
    | succ fu ih4 =>
      intro k hk hf y4_1 ey4_1 y4_2 ey4_2
      intro ls hl
      replace ey4_1 := ey4_1.symm; subst ey4_1
      replace ey4_2 := ey4_2.symm; subst ey4_2
      refine lv_iload_n hx hb dX8_without_4 rfl (lv_at hl 2 rfl) ?_
      refine lv_bipush (v := 6) hx hb dX8_without_5 (by decide) ?_
      refine lv_icmp_ge (tgt := 43) hx hb dX8_without_7 (by decide) (fun c7 => ?_) (fun c7 => ?_)
      · skip
        have hk9 : k = 6 := by have := xb_le (k := k) (n := 6) (by omega) (by decide) c7; omega
        refine lv_iload_n hx hb dX8_without_43 rfl (lv_at hl 1 rfl) ?_
        rw [hQ]
        exact xg_eri S hr hlk (by skip; rw [hk9]) dX8_without_44
      · skip
        have hk9 : k < 6 := xb_lt (by omega) (by decide) c7
        refine lv_iload_n hx hb dX8_without_10 rfl (lv_at hl 1 rfl) ?_
        refine lv_aload_n hx hb dX8_without_11 rfl (lv_at hl 0 rfl) ?_
        refine lv_iload_n hx hb dX8_without_12 rfl (lv_at hl 2 rfl) ?_
        refine xg_ri (va_runV (As := [.int (nI k)]) (rest := [.int (em_wik A I k)]) S (mX8_isThere l D cI cZ bs ad ws b A I L hM (nI k)) (cwV 1 hts gX8_without_X8_isThere rfl rfl rfl (by decide +kernel) ⟨Nat.le_of_ble_eq_true rfl, Nat.le_of_ble_eq_true rfl⟩) (xg_preV hK hG b hM.1 rfl rfl) rfl rfl hl.1 rfl (lv_room (Nat.le_of_ble_eq_true rfl)) dX8_without_13 ⟨Nat.zero_le _, Nat.zero_le _⟩) (fun r1 hr1 => ?_)
        replace hr1 := hr1.symm; subst hr1
        have jn35_2 : ∀ v2 : Int32, v2 = ((if em_isT I (nI k) = true then if ((A 3) ((nI k).toNatClampNeg)) = 0 then 1 <<< ((nI k) &&& 31) else 0 else 0) : Int32) → W pg l en ({ frames := 3, cells := 0, slots := 0, locals := 66 } : Room) s m ([.ref (ad b)] : List Value).toArray below meth c s.heap [] 0 0 Q (F0 m 35 ls [.int v2, .int (em_wik A I k)]) := by
          intro v2 ev2
          replace ev2 := ev2.symm
          refine lv_ior hx hb dX8_without_35 ?_
          refine lv_topi (fun x3 ex3 => ?_)
          replace ex3 := ex3.symm
          refine lv_istore_n (lv' := [(1, .int x3), (0, .ref (ad b)), (2, .int (nI k))]) hx hb dX8_without_36 rfl hl (by decide) rfl (fun ls hl => ?_)
          obtain ⟨x4, ex4⟩ : ∃ zz : Int32, ((nI k) + 1) = zz := ⟨_, rfl⟩
          refine lv_iinc (v := x4) (lv' := [(2, .int x4), (1, .int x3), (0, .ref (ad b))]) hx hb dX8_without_37 hl (k := 2) rfl (by rw [← ex4]; rfl) (by decide) rfl (fun ls hl => ?_)
          refine lv_goto (tgt := 4) hx hb dX8_without_40 (by decide) ?_
          exact ih4 (k + 1) (by omega) (by omega) x3 (by subst ev2 ex3 ex4; simp only [em_wik, xb_cl (show k < 2 ^ 31 by omega)]) x4 (by subst ev2 ex3 ex4; exact nI_1 k) ls (lv_sub hl [2, 1, 0] rfl)
        refine xb_ifeq (tgt := 34) S dX8_without_16 (by decide) (fun c16 => ?_) (fun c16 => ?_)
        · skip
          refine lv_iconst (v := 0) hx hb dX8_without_34 (by decide) ?_
          exact jn35_2 _ (by rw [if_neg (Bool.eq_false_iff.mp c16)])
        · skip
          refine lv_aload_n hx hb dX8_without_19 rfl (lv_at hl 0 rfl) ?_
          refine xg_get (C := RX8) (T := TX8) (N := 46) S hK hG (fun w h => List.mem_cons_of_mem _ (List.mem_append_right _ (h))) b hM.1 rfl 4 (by decide) k0 (fun _ h9 => h9) rfl dX8_without_20 ?_
          refine lv_iload_n hx hb dX8_without_23 rfl (lv_at hl 2 rfl) ?_
          refine xg_ald S hK hG (b + 4) (show ws[b + 4]? = some (ad (b + 4), .inl (cI, 6, .inl (A 3))) from hM.2.1 3 (by decide)) (i := nI k) (by first | assumption | exact vp_in_nI (by omega) (by decide)) dX8_without_24 ?_
          refine lv_if_ne (tgt := 34) hx hb dX8_without_25 (by decide) (fun c25 => ?_) (fun c25 => ?_)
          · skip
            refine lv_iconst (v := 0) hx hb dX8_without_34 (by decide) ?_
            exact jn35_2 _ (by rw [if_pos c16]; rw [if_neg c25])
          · skip
            refine lv_iconst (v := 1) hx hb dX8_without_28 (by decide) ?_
            refine lv_iload_n hx hb dX8_without_29 rfl (lv_at hl 2 rfl) ?_
            refine lv_ishl hx hb dX8_without_30 ?_
            refine lv_goto (tgt := 35) hx hb dX8_without_31 (by decide) ?_
            exact jn35_2 _ (by rw [if_pos c16]; rw [if_pos c25])
  exact lp4 7 0 (by omega) (by omega) 0 (by skip; rfl) 0 (by skip; rfl) ls (lv_sub hl [2, 1, 0] rfl)
set_option maxHeartbeats 4000000 in
set_option maxRecDepth 100000 in
theorem mX8_won (l : Launch) (D : va_G) (cI cZ : ClassId) (bs : Nat) (ad : Nat → Nat) (ws : va_W) (b : Nat) (A : Nat → Nat → Int32) (I : Nat → Int32) (L : Int64) (hM : xv_M cI cZ ad ws b A I L) (w9 : Int32) (h6 : em_6 (I 0)) : Met l yX8_won wsX8_won ({ frames := 4, cells := 0, slots := 0, locals := 92 } : Room) (va_Pc [.ref (ad b), .int w9] (fun U => xg_W D cI cZ bs ws U)) (xg_Ri (fun r : Int32 => r = em_won A I w9)) 0 0 xg_F := by
  refine xg_met cX8_won 6 (some .int) RX8 (by decide) rfl rfl (Nat.le_of_ble_eq_true rfl) ?_
  intro pg en s m below meth c ls S hr hlk hnm hB hl
  have hK := hB.1
  have hG := xg_start hB
  obtain ⟨hx, hb, hml, hown, hts⟩ := id S
  have hl : lv_has ls 6 [(0, .ref (ad b)), (1, .int w9)] := hl
  obtain ⟨Q, hQ⟩ : ∃ Q, Q = MQ below (xg_Ri (fun r : Int32 => r = em_won A I w9)) ([.ref (ad b), .int w9] : List Value).toArray s 0 0 xg_F := ⟨_, rfl⟩
  rw [← hQ]
  refine lv_iload_n hx hb dX8_won_0 rfl (lv_at hl 1 rfl) ?_
  refine lv_i2l (v := w9.toInt64) hx hb dX8_won_1 rfl ?_
  refine lv_lconst (v := 0) hx hb dX8_won_2 (by decide) ?_
  refine lv_lconst (v := 1) hx hb dX8_won_3 (by decide) ?_
  refine xg_ri (va_runS (As := [.long w9.toInt64, .long 0, .long 1]) (rest := []) S (mX8_in l D cI cZ bs ad ws w9.toInt64 0 1) (va_cwS 3 hts gX8_won_X8_in rfl rfl rfl (by decide +kernel) ⟨Nat.le_of_ble_eq_true rfl, Nat.le_of_ble_eq_true rfl⟩) (xg_preS hK hG) rfl rfl hl.1 rfl (lv_room (Nat.le_of_ble_eq_true rfl)) dX8_won_4 ⟨Nat.zero_le _, Nat.zero_le _⟩) (fun r1 hr1 => ?_)
  replace hr1 := hr1.symm; subst hr1
  rw [xw_inL_lit w9 0 1 0 1 (by decide) (by decide)]
  refine xb_ifne (tgt := 13) S dX8_won_7 (by decide) (fun c7 => ?_) (fun c7 => ?_)
  · skip
    refine lv_aload_n hx hb dX8_won_13 rfl (lv_at hl 0 rfl) ?_
    refine xg_ri (va_runV (As := []) (rest := []) S (mX8_without l D cI cZ bs ad ws b A I L hM) (cwV 0 hts gX8_won_X8_without rfl rfl rfl (by decide +kernel) ⟨Nat.le_of_ble_eq_true rfl, Nat.le_of_ble_eq_true rfl⟩) (xg_preV hK hG b hM.1 rfl rfl) rfl rfl hl.1 rfl (lv_room (Nat.le_of_ble_eq_true rfl)) dX8_won_14 ⟨Nat.zero_le _, Nat.zero_le _⟩) (fun r2 hr2 => ?_)
    replace hr2 := hr2.symm; subst hr2
    refine lv_topi (fun x3 ex3 => ?_)
    replace ex3 := ex3.symm
    refine lv_istore_n (lv' := [(2, .int x3), (0, .ref (ad b)), (1, .int w9)]) hx hb dX8_won_17 rfl hl (by decide) rfl (fun ls hl => ?_)
    refine lv_bipush (v := (-6)) hx hb dX8_won_18 (by decide) ?_
    refine lv_istore_n (lv' := [(3, .int (-6)), (2, .int x3), (0, .ref (ad b)), (1, .int w9)]) hx hb dX8_won_20 rfl hl (by decide) rfl (fun ls hl => ?_)
    refine lv_iconst (v := 1) hx hb dX8_won_21 (by decide) ?_
    refine lv_istore (lv' := [(4, .int 1), (3, .int (-6)), (2, .int x3), (0, .ref (ad b)), (1, .int w9)]) hx hb dX8_won_22 hl (by decide) rfl (fun ls hl => ?_)
    -- the loop at 24
    have lp24 : ∀ (fu : Nat) (k : Nat), (k ≤ 63) → (64 ≤ k + fu) → ∀ y24_3 : Int32, y24_3 = em_wok A I (em_wik A I 6) k → ∀ y24_4 : Int32, y24_4 = nI (k + 1) → ∀ (ls : Array Slot), lv_has ls 6 [(0, .ref (ad b)), (1, .int w9), (2, .int x3), (3, .int y24_3), (4, .int y24_4)] → W pg l en ({ frames := 4, cells := 0, slots := 0, locals := 92 } : Room) s m ([.ref (ad b), .int w9] : List Value).toArray below meth c s.heap [] 0 0 Q (F0 m 24 ls []) := by
      intro fu
      induction fu with
      | zero =>
        intro k hk hf
        exact absurd hf (by omega)
      | succ fu ih24 =>
        intro k hk hf y24_3 ey24_3 y24_4 ey24_4
        intro ls hl
        replace ey24_3 := ey24_3.symm; subst ey24_3
        replace ey24_4 := ey24_4.symm; subst ey24_4
        refine lv_iload hx hb dX8_won_24 (lv_at hl 4 rfl) ?_
        refine lv_bipush (v := 64) hx hb dX8_won_26 (by decide) ?_
        refine lv_icmp_ge (tgt := 94) hx hb dX8_won_28 (by decide) (fun c28 => ?_) (fun c28 => ?_)
        · skip
          have hk9 : k = 63 := by have := xb_le (k := k + 1) (n := 64) (by omega) (by decide) c28; omega
          refine lv_iload_n hx hb dX8_won_94 rfl (lv_at hl 3 rfl) ?_
          refine lv_if_lt (tgt := 103) hx hb dX8_won_95 (by decide) (fun c95 => ?_) (fun c95 => ?_)
          · skip
            refine lv_iload_n hx hb dX8_won_103 rfl (lv_at hl 3 rfl) ?_
            refine lv_goto (tgt := 111) hx hb dX8_won_104 (by decide) ?_
            rw [hQ]
            exact xg_eri S hr hlk (by subst ex3; subst hk9; unfold em_won; rw [if_pos c7]; simp only [c7, c28, c95, if_true, if_false]) dX8_won_111
          · skip
            refine lv_iload_n hx hb dX8_won_98 rfl (lv_at hl 1 rfl) ?_
            refine lv_iconst (v := 1) hx hb dX8_won_99 (by decide) ?_
            refine lv_icmp_ne (tgt := 107) hx hb dX8_won_100 (by decide) (fun c100 => ?_) (fun c100 => ?_)
            · skip
              refine lv_iload_n hx hb dX8_won_107 rfl (lv_at hl 3 rfl) ?_
              refine xg_ri (va_runS (As := [.int (em_wok A I (em_wik A I 6) k)]) (rest := []) S (mX8_ones l D cI cZ bs ad ws (em_wok A I (em_wik A I 6) k) (em_wok_n (by omega) c95)) (va_cwS 1 hts gX8_won_X8_ones rfl rfl rfl (by decide +kernel) ⟨Nat.le_of_ble_eq_true rfl, Nat.le_of_ble_eq_true rfl⟩) (xg_preS hK hG) rfl rfl hl.1 rfl (lv_room (Nat.le_of_ble_eq_true rfl)) dX8_won_108 ⟨Nat.zero_le _, Nat.zero_le _⟩) (fun r4 hr4 => ?_)
              replace hr4 := hr4.symm; subst hr4
              rw [hQ]
              exact xg_eri S hr hlk (by subst ex3; subst hk9; unfold em_won; rw [if_pos c7]; simp only [c7, c28, c95, c100, if_true, if_false]) dX8_won_111
            · skip
              refine lv_iload_n hx hb dX8_won_103 rfl (lv_at hl 3 rfl) ?_
              refine lv_goto (tgt := 111) hx hb dX8_won_104 (by decide) ?_
              rw [hQ]
              exact xg_eri S hr hlk (by subst ex3; subst hk9; unfold em_won; rw [if_pos c7]; simp only [c7, c28, c95, c100, if_true, if_false]) dX8_won_111
        · skip
          have hk9 : k < 63 := by have := xb_lt (k := k + 1) (n := 64) (by omega) (by decide) c28; omega
          refine lv_iload hx hb dX8_won_31 (lv_at hl 4 rfl) ?_
          refine lv_iload_n hx hb dX8_won_33 rfl (lv_at hl 2 rfl) ?_
          refine lv_iconst (v := (-1)) hx hb dX8_won_34 (by decide) ?_
          refine lv_ixor hx hb dX8_won_35 ?_
          refine lv_iand hx hb dX8_won_36 ?_
          have jn61_5 : ∀ v5 : Int32, v5 = ((if ((nI (k + 1)) &&& (x3 ^^^ (-1))) = 0 then if (em_wok A I (em_wik A I 6) k) < 0 then 1 else if (em_one (em_wok A I (em_wik A I 6) k)) ≤ (em_one (nI (k + 1))) then 0 else 1 else 0) : Int32) → W pg l en ({ frames := 4, cells := 0, slots := 0, locals := 92 } : Room) s m ([.ref (ad b), .int w9] : List Value).toArray below meth c s.heap [] 0 0 Q (F0 m 61 ls [.int v5]) := by
            intro v5 ev5
            replace ev5 := ev5.symm
            refine lv_istore (lv' := [(5, .int v5), (0, .ref (ad b)), (1, .int w9), (2, .int x3), (3, .int (em_wok A I (em_wik A I 6) k)), (4, .int (nI (k + 1)))]) hx hb dX8_won_61 hl (by decide) rfl (fun ls hl => ?_)
            refine lv_iload hx hb dX8_won_63 (lv_at hl 0 rfl) ?_
            have jn87_6 : ∀ v6 : Int32, v6 = ((if v5 = 0 then em_wok A I (em_wik A I 6) k else if em_hld I (em_sbr A I 65 (nI (k + 1))) = true then nI (k + 1) else em_wok A I (em_wik A I 6) k) : Int32) → W pg l en ({ frames := 4, cells := 0, slots := 0, locals := 92 } : Room) s m ([.ref (ad b), .int w9] : List Value).toArray below meth c s.heap [] 0 0 Q (F0 m 87 ls [.int v6]) := by
              intro v6 ev6
              replace ev6 := ev6.symm
              refine lv_istore_n (lv' := [(3, .int v6), (5, .int v5), (0, .ref (ad b)), (1, .int w9), (2, .int x3), (4, .int (nI (k + 1)))]) hx hb dX8_won_87 rfl hl (by decide) rfl (fun ls hl => ?_)
              obtain ⟨x7, ex7⟩ : ∃ zz : Int32, ((nI (k + 1)) + 1) = zz := ⟨_, rfl⟩
              refine lv_iinc (v := x7) (lv' := [(4, .int x7), (3, .int v6), (5, .int v5), (0, .ref (ad b)), (1, .int w9), (2, .int x3)]) hx hb dX8_won_88 hl (k := 5) rfl (by rw [← ex7]; rfl) (by decide) rfl (fun ls hl => ?_)
              refine lv_goto (tgt := 24) hx hb dX8_won_91 (by decide) ?_
              exact ih24 (k + 1) (by omega) (by omega) v6 (by subst ex3 ev5 ev6 ex7; first | (rw [em_wok, em_wob]; done) | (simp only [em_wok, em_wob]; rfl)) x7 (by subst ex3 ev5 ev6 ex7; exact nI_1 (k + 1)) ls (lv_sub hl [3, 4, 5, 1, 0] rfl)
            refine lv_if_eq (tgt := 86) hx hb dX8_won_65 (by decide) (fun c65 => ?_) (fun c65 => ?_)
            · skip
              refine lv_iload_n hx hb dX8_won_86 rfl (lv_at hl 4 rfl) ?_
              exact jn87_6 _ (by rw [if_pos c65])
            · skip
              refine lv_aload_n hx hb dX8_won_68 rfl (lv_at hl 1 rfl) ?_
              refine lv_aload_n hx hb dX8_won_69 rfl (lv_at hl 1 rfl) ?_
              refine lv_iload hx hb dX8_won_70 (lv_at hl 5 rfl) ?_
              refine xg_ri (va_runV (As := [.int (nI (k + 1))]) (rest := [.ref (ad b)]) S (mX8_saidBy l D cI cZ bs ad ws b A I L hM (nI (k + 1)) (k + 1) (by omega) rfl) (cwV 1 hts gX8_won_X8_saidBy rfl rfl rfl (by decide +kernel) ⟨Nat.le_of_ble_eq_true rfl, Nat.le_of_ble_eq_true rfl⟩) (xg_preV hK hG b hM.1 rfl rfl) rfl rfl hl.1 rfl (lv_room (Nat.le_of_ble_eq_true rfl)) dX8_won_72 ⟨Nat.zero_le _, Nat.zero_le _⟩) (fun r8 hr8 => ?_)
              replace hr8 := hr8.symm; subst hr8
              refine xg_ri (va_runV (As := [.int (em_sbr A I 65 (nI (k + 1)))]) (rest := []) S (mX8_isHeld l D cI cZ bs ad ws b A I L hM (em_sbr A I 65 (nI (k + 1))) (em_sbr_6 65 _ ⟨k + 1, by omega, rfl⟩) h6) (cwV 1 hts gX8_won_X8_isHeld rfl rfl rfl (by decide +kernel) ⟨Nat.le_of_ble_eq_true rfl, Nat.le_of_ble_eq_true rfl⟩) (xg_preV hK hG b hM.1 rfl rfl) rfl rfl hl.1 rfl (lv_room (Nat.le_of_ble_eq_true rfl)) dX8_won_75 ⟨Nat.zero_le _, Nat.zero_le _⟩) (fun r9 hr9 => ?_)
              replace hr9 := hr9.symm; subst hr9
              refine xb_ifeq (tgt := 86) S dX8_won_78 (by decide) (fun c78 => ?_) (fun c78 => ?_)
              · skip
                refine lv_iload_n hx hb dX8_won_86 rfl (lv_at hl 4 rfl) ?_
                exact jn87_6 _ (by rw [if_neg c65]; rw [if_neg (Bool.eq_false_iff.mp c78)])
              · skip
                refine lv_iload hx hb dX8_won_81 (lv_at hl 5 rfl) ?_
                refine lv_goto (tgt := 87) hx hb dX8_won_83 (by decide) ?_
                exact jn87_6 _ (by rw [if_neg c65]; rw [if_pos c78])
          refine lv_if_ne (tgt := 60) hx hb dX8_won_37 (by decide) (fun c37 => ?_) (fun c37 => ?_)
          · skip
            refine lv_iconst (v := 0) hx hb dX8_won_60 (by decide) ?_
            exact jn61_5 _ (by rw [if_neg c37])
          · skip
            refine lv_iload_n hx hb dX8_won_40 rfl (lv_at hl 3 rfl) ?_
            refine lv_if_lt (tgt := 56) hx hb dX8_won_41 (by decide) (fun c41 => ?_) (fun c41 => ?_)
            · skip
              refine lv_iconst (v := 1) hx hb dX8_won_56 (by decide) ?_
              refine lv_goto (tgt := 61) hx hb dX8_won_57 (by decide) ?_
              exact jn61_5 _ (by rw [if_pos c37]; rw [if_pos c41])
            · skip
              refine lv_iload hx hb dX8_won_44 (lv_at hl 4 rfl) ?_
              refine xg_ri (va_runS (As := [.int (nI (k + 1))]) (rest := []) S (mX8_ones l D cI cZ bs ad ws (nI (k + 1)) ⟨k + 1, by omega, rfl⟩) (va_cwS 1 hts gX8_won_X8_ones rfl rfl rfl (by decide +kernel) ⟨Nat.le_of_ble_eq_true rfl, Nat.le_of_ble_eq_true rfl⟩) (xg_preS hK hG) rfl rfl hl.1 rfl (lv_room (Nat.le_of_ble_eq_true rfl)) dX8_won_46 ⟨Nat.zero_le _, Nat.zero_le _⟩) (fun r10 hr10 => ?_)
              replace hr10 := hr10.symm; subst hr10
              refine lv_iload_n hx hb dX8_won_49 rfl (lv_at hl 3 rfl) ?_
              refine xg_ri (va_runS (As := [.int (em_wok A I (em_wik A I 6) k)]) (rest := [.int (em_one (nI (k + 1)))]) S (mX8_ones l D cI cZ bs ad ws (em_wok A I (em_wik A I 6) k) (em_wok_n (by omega) c41)) (va_cwS 1 hts gX8_won_X8_ones rfl rfl rfl (by decide +kernel) ⟨Nat.le_of_ble_eq_true rfl, Nat.le_of_ble_eq_true rfl⟩) (xg_preS hK hG) rfl rfl hl.1 rfl (lv_room (Nat.le_of_ble_eq_true rfl)) dX8_won_50 ⟨Nat.zero_le _, Nat.zero_le _⟩) (fun r11 hr11 => ?_)
              replace hr11 := hr11.symm; subst hr11
              refine lv_icmp_ge (tgt := 60) hx hb dX8_won_53 (by decide) (fun c53 => ?_) (fun c53 => ?_)
              · skip
                refine lv_iconst (v := 0) hx hb dX8_won_60 (by decide) ?_
                exact jn61_5 _ (by rw [if_pos c37]; rw [if_neg c41]; rw [if_pos c53])
              · skip
                refine lv_iconst (v := 1) hx hb dX8_won_56 (by decide) ?_
                refine lv_goto (tgt := 61) hx hb dX8_won_57 (by decide) ?_
                exact jn61_5 _ (by rw [if_pos c37]; rw [if_neg c41]; rw [if_neg c53])
    exact lp24 64 0 (by omega) (by omega) (-6) rfl 1 rfl ls (lv_sub hl [3, 4, 2, 1, 0] rfl)
  · skip
    refine lv_bipush (v := (-2)) hx hb dX8_won_10 (by decide) ?_
    rw [hQ]
    exact xg_eri S hr hlk (by skip; simp only [em_won, c7, if_true, if_false, Bool.false_eq_true]) dX8_won_12
set_option maxHeartbeats 4000000 in
set_option maxRecDepth 100000 in
theorem mX8_refuser (l : Launch) (D : va_G) (cI cZ : ClassId) (bs : Nat) (ad : Nat → Nat) (ws : va_W) (b : Nat) (A : Nat → Nat → Int32) (I : Nat → Int32) (L : Int64) (hM : xv_M cI cZ ad ws b A I L) (p : Int32) (y : Int32) : Met l yX8_refuser wsX8_refuser ({ frames := 4, cells := 0, slots := 0, locals := 91 } : Room) (va_Pc [.ref (ad b), .int p, .int y] (fun U => xg_W D cI cZ bs ws U)) (xg_Ri (fun r : Int32 => r = em_rfs A I p y)) 0 0 xg_F := by
  refine xg_met cX8_refuser 4 (some .int) RX8 (by decide) rfl rfl (Nat.le_of_ble_eq_true rfl) ?_
  intro pg en s m below meth c ls S hr hlk hnm hB hl
  have hK := hB.1
  have hG := xg_start hB
  obtain ⟨hx, hb, hml, hown, hts⟩ := id S
  have hl : lv_has ls 4 [(0, .ref (ad b)), (1, .int p), (2, .int y)] := hl
  obtain ⟨Q, hQ⟩ : ∃ Q, Q = MQ below (xg_Ri (fun r : Int32 => r = em_rfs A I p y)) ([.ref (ad b), .int p, .int y] : List Value).toArray s 0 0 xg_F := ⟨_, rfl⟩
  rw [← hQ]
  have k0 := hts (.fieldLink RX8 28 "DareBridgeModel" "nights" "[I") (List.mem_of_getElem? (i := 1) rfl)
  have k1 := hts (.fieldLink RX8 22 "DareBridgeModel" "high" "[I") (List.mem_of_getElem? (i := 2) rfl)
  refine lv_aload_n hx hb dX8_refuser_0 rfl (lv_at hl 0 rfl) ?_
  refine lv_iload_n hx hb dX8_refuser_1 rfl (lv_at hl 1 rfl) ?_
  refine xg_ri (va_runV (As := [.int p]) (rest := []) S (mX8_isThere l D cI cZ bs ad ws b A I L hM p) (cwV 1 hts gX8_refuser_X8_isThere rfl rfl rfl (by decide +kernel) ⟨Nat.le_of_ble_eq_true rfl, Nat.le_of_ble_eq_true rfl⟩) (xg_preV hK hG b hM.1 rfl rfl) rfl rfl hl.1 rfl (lv_room (Nat.le_of_ble_eq_true rfl)) dX8_refuser_2 ⟨Nat.zero_le _, Nat.zero_le _⟩) (fun r1 hr1 => ?_)
  replace hr1 := hr1.symm; subst hr1
  refine xb_ifne (tgt := 10) S dX8_refuser_5 (by decide) (fun c5 => ?_) (fun c5 => ?_)
  · skip
    refine lv_iload_n hx hb dX8_refuser_10 rfl (lv_at hl 2 rfl) ?_
    refine xg_ri (va_runS (As := [.int y]) (rest := []) S (mX8_isHeight l D cI cZ bs ad ws y) (va_cwS 1 hts gX8_refuser_X8_isHeight rfl rfl rfl (by decide +kernel) ⟨Nat.le_of_ble_eq_true rfl, Nat.le_of_ble_eq_true rfl⟩) (xg_preS hK hG) rfl rfl hl.1 rfl (lv_room (Nat.le_of_ble_eq_true rfl)) dX8_refuser_11 ⟨Nat.zero_le _, Nat.zero_le _⟩) (fun r2 hr2 => ?_)
    replace hr2 := hr2.symm; subst hr2
    refine xb_ifne (tgt := 20) S dX8_refuser_14 (by decide) (fun c14 => ?_) (fun c14 => ?_)
    · skip
      refine lv_iconst (v := 0) hx hb dX8_refuser_20 (by decide) ?_
      refine lv_istore_n (lv' := [(3, .int 0), (0, .ref (ad b)), (1, .int p), (2, .int y)]) hx hb dX8_refuser_21 rfl hl (by decide) rfl (fun ls hl => ?_)
      -- the loop at 22
      have lp22 : ∀ (fu : Nat) (k : Nat), (k ≤ 6) → (7 ≤ k + fu) → (xw_first (em_rfd A I p y) 6 0 = xw_first (em_rfd A I p y) (6 - k) k) → ∀ y22_3 : Int32, y22_3 = nI k → ∀ (ls : Array Slot), lv_has ls 4 [(0, .ref (ad b)), (1, .int p), (2, .int y), (3, .int y22_3)] → W pg l en ({ frames := 4, cells := 0, slots := 0, locals := 91 } : Room) s m ([.ref (ad b), .int p, .int y] : List Value).toArray below meth c s.heap [] 0 0 Q (F0 m 22 ls []) := by
        intro fu
        induction fu with
        | zero =>
          intro k hk hf hr2
          exact absurd hf (by omega)
        | succ fu ih22 =>
          intro k hk hf hr2 y22_3 ey22_3
          intro ls hl
          replace ey22_3 := ey22_3.symm; subst ey22_3
          refine lv_iload_n hx hb dX8_refuser_22 rfl (lv_at hl 3 rfl) ?_
          refine lv_bipush (v := 6) hx hb dX8_refuser_23 (by decide) ?_
          refine lv_icmp_ge (tgt := 77) hx hb dX8_refuser_25 (by decide) (fun c25 => ?_) (fun c25 => ?_)
          · skip
            have hk9 : k = 6 := by have := xb_le (k := k) (n := 6) (by omega) (by decide) c25; omega
            have hfk : xw_first (em_rfd A I p y) 6 0 = 6 := by rw [hr2, hk9]; rfl
            refine lv_bipush (v := (-6)) hx hb dX8_refuser_77 (by decide) ?_
            rw [hQ]
            exact xg_eri S hr hlk (by skip; unfold em_rfs; rw [if_pos c5, if_pos c14, hfk, if_neg (by decide)]) dX8_refuser_79
          · skip
            have hk9 : k < 6 := xb_lt (by omega) (by decide) c25
            refine lv_aload_n hx hb dX8_refuser_28 rfl (lv_at hl 0 rfl) ?_
            refine lv_iload_n hx hb dX8_refuser_29 rfl (lv_at hl 3 rfl) ?_
            refine xg_ri (va_runV (As := [.int (nI k)]) (rest := []) S (mX8_isThere l D cI cZ bs ad ws b A I L hM (nI k)) (cwV 1 hts gX8_refuser_X8_isThere rfl rfl rfl (by decide +kernel) ⟨Nat.le_of_ble_eq_true rfl, Nat.le_of_ble_eq_true rfl⟩) (xg_preV hK hG b hM.1 rfl rfl) rfl rfl hl.1 rfl (lv_room (Nat.le_of_ble_eq_true rfl)) dX8_refuser_30 ⟨Nat.zero_le _, Nat.zero_le _⟩) (fun r3 hr3 => ?_)
            replace hr3 := hr3.symm; subst hr3
            refine xb_ifeq (tgt := 71) S dX8_refuser_33 (by decide) (fun c33 => ?_) (fun c33 => ?_)
            · skip
              obtain ⟨x4, ex4⟩ : ∃ zz : Int32, ((nI k) + 1) = zz := ⟨_, rfl⟩
              refine lv_iinc (v := x4) (lv' := [(3, .int x4), (0, .ref (ad b)), (1, .int p), (2, .int y)]) hx hb dX8_refuser_71 hl (k := 3) rfl (by rw [← ex4]; rfl) (by decide) rfl (fun ls hl => ?_)
              refine lv_goto (tgt := 22) hx hb dX8_refuser_74 (by decide) ?_
              exact ih22 (k + 1) (by omega) (by omega) (by subst ex4; rw [hr2, show 6 - k = (6 - (k + 1)) + 1 by omega, xw_first, if_pos (by (try simp only [xb_cl (show k < 2 ^ 31 by omega)] at c5 c14 c25 c33); simp only [em_rfd, c5, c14, c25, c33, if_true, if_false, Bool.false_eq_true])]) x4 (by subst ex4; exact nI_1 k) ls (lv_sub hl [1, 2, 3, 0] rfl)
            · skip
              refine lv_iload_n hx hb dX8_refuser_36 rfl (lv_at hl 3 rfl) ?_
              refine lv_iload_n hx hb dX8_refuser_37 rfl (lv_at hl 1 rfl) ?_
              refine lv_icmp_eq (tgt := 71) hx hb dX8_refuser_38 (by decide) (fun c38 => ?_) (fun c38 => ?_)
              · skip
                obtain ⟨x5, ex5⟩ : ∃ zz : Int32, ((nI k) + 1) = zz := ⟨_, rfl⟩
                refine lv_iinc (v := x5) (lv' := [(3, .int x5), (0, .ref (ad b)), (1, .int p), (2, .int y)]) hx hb dX8_refuser_71 hl (k := 3) rfl (by rw [← ex5]; rfl) (by decide) rfl (fun ls hl => ?_)
                refine lv_goto (tgt := 22) hx hb dX8_refuser_74 (by decide) ?_
                exact ih22 (k + 1) (by omega) (by omega) (by subst ex5; rw [hr2, show 6 - k = (6 - (k + 1)) + 1 by omega, xw_first, if_pos (by (try simp only [xb_cl (show k < 2 ^ 31 by omega)] at c5 c14 c25 c33 c38); simp only [em_rfd, c5, c14, c25, c33, c38, if_true, if_false, Bool.false_eq_true])]) x5 (by subst ex5; exact nI_1 k) ls (lv_sub hl [1, 2, 3, 0] rfl)
              · skip
                refine lv_aload_n hx hb dX8_refuser_41 rfl (lv_at hl 0 rfl) ?_
                refine xg_get (C := RX8) (T := TX8) (N := 46) S hK hG (fun w h => List.mem_cons_of_mem _ (List.mem_append_right _ (h))) b hM.1 rfl 7 (by decide) k0 (fun _ h9 => h9) rfl dX8_refuser_42 ?_
                refine lv_iload_n hx hb dX8_refuser_45 rfl (lv_at hl 3 rfl) ?_
                refine xg_ald S hK hG (b + 7) (show ws[b + 7]? = some (ad (b + 7), .inl (cI, 6, .inl (A 6))) from hM.2.1 6 (by decide)) (i := nI k) (by first | assumption | exact vp_in_nI (by omega) (by decide)) dX8_refuser_46 ?_
                refine lv_if_ne (tgt := 71) hx hb dX8_refuser_47 (by decide) (fun c47 => ?_) (fun c47 => ?_)
                · skip
                  obtain ⟨x6, ex6⟩ : ∃ zz : Int32, ((nI k) + 1) = zz := ⟨_, rfl⟩
                  refine lv_iinc (v := x6) (lv' := [(3, .int x6), (0, .ref (ad b)), (1, .int p), (2, .int y)]) hx hb dX8_refuser_71 hl (k := 3) rfl (by rw [← ex6]; rfl) (by decide) rfl (fun ls hl => ?_)
                  refine lv_goto (tgt := 22) hx hb dX8_refuser_74 (by decide) ?_
                  exact ih22 (k + 1) (by omega) (by omega) (by subst ex6; rw [hr2, show 6 - k = (6 - (k + 1)) + 1 by omega, xw_first, if_pos (by (try simp only [xb_cl (show k < 2 ^ 31 by omega)] at c5 c14 c25 c33 c38 c47); simp only [em_rfd, c5, c14, c25, c33, c38, c47, if_true, if_false, Bool.false_eq_true])]) x6 (by subst ex6; exact nI_1 k) ls (lv_sub hl [1, 2, 3, 0] rfl)
                · skip
                  refine lv_aload_n hx hb dX8_refuser_50 rfl (lv_at hl 0 rfl) ?_
                  refine xg_get (C := RX8) (T := TX8) (N := 46) S hK hG (fun w h => List.mem_cons_of_mem _ (List.mem_append_right _ (h))) b hM.1 rfl 5 (by decide) k1 (fun _ h9 => h9) rfl dX8_refuser_51 ?_
                  refine lv_iload_n hx hb dX8_refuser_54 rfl (lv_at hl 3 rfl) ?_
                  refine xg_ald S hK hG (b + 5) (show ws[b + 5]? = some (ad (b + 5), .inl (cI, 6, .inl (A 4))) from hM.2.1 4 (by decide)) (i := nI k) (by first | assumption | exact vp_in_nI (by omega) (by decide)) dX8_refuser_55 ?_
                  refine lv_iload_n hx hb dX8_refuser_56 rfl (lv_at hl 2 rfl) ?_
                  refine lv_icmp_ge (tgt := 71) hx hb dX8_refuser_57 (by decide) (fun c57 => ?_) (fun c57 => ?_)
                  · skip
                    obtain ⟨x7, ex7⟩ : ∃ zz : Int32, ((nI k) + 1) = zz := ⟨_, rfl⟩
                    refine lv_iinc (v := x7) (lv' := [(3, .int x7), (0, .ref (ad b)), (1, .int p), (2, .int y)]) hx hb dX8_refuser_71 hl (k := 3) rfl (by rw [← ex7]; rfl) (by decide) rfl (fun ls hl => ?_)
                    refine lv_goto (tgt := 22) hx hb dX8_refuser_74 (by decide) ?_
                    exact ih22 (k + 1) (by omega) (by omega) (by subst ex7; rw [hr2, show 6 - k = (6 - (k + 1)) + 1 by omega, xw_first, if_pos (by (try simp only [xb_cl (show k < 2 ^ 31 by omega)] at c5 c14 c25 c33 c38 c47 c57); simp only [em_rfd, c5, c14, c25, c33, c38, c47, c57, if_true, if_false, Bool.false_eq_true])]) x7 (by subst ex7; exact nI_1 k) ls (lv_sub hl [1, 2, 3, 0] rfl)
                  · skip
                    refine lv_aload_n hx hb dX8_refuser_60 rfl (lv_at hl 0 rfl) ?_
                    refine lv_iload_n hx hb dX8_refuser_61 rfl (lv_at hl 3 rfl) ?_
                    refine lv_iload_n hx hb dX8_refuser_62 rfl (lv_at hl 2 rfl) ?_
                    refine xg_ri (va_runV (As := [.int (nI k), .int y]) (rest := []) S (mX8_doesIt l D cI cZ bs ad ws b A I L hM (nI k) y (vp_in_nI (by omega) (by decide))) (cwV 2 hts gX8_refuser_X8_doesIt rfl rfl rfl (by decide +kernel) ⟨Nat.le_of_ble_eq_true rfl, Nat.le_of_ble_eq_true rfl⟩) (xg_preV hK hG b hM.1 rfl rfl) rfl rfl hl.1 rfl (lv_room (Nat.le_of_ble_eq_true rfl)) dX8_refuser_63 ⟨Nat.zero_le _, Nat.zero_le _⟩) (fun r8 hr8 => ?_)
                    replace hr8 := hr8.symm; subst hr8
                    refine xb_ifne (tgt := 71) S dX8_refuser_66 (by decide) (fun c66 => ?_) (fun c66 => ?_)
                    · skip
                      obtain ⟨x9, ex9⟩ : ∃ zz : Int32, ((nI k) + 1) = zz := ⟨_, rfl⟩
                      refine lv_iinc (v := x9) (lv' := [(3, .int x9), (0, .ref (ad b)), (1, .int p), (2, .int y)]) hx hb dX8_refuser_71 hl (k := 3) rfl (by rw [← ex9]; rfl) (by decide) rfl (fun ls hl => ?_)
                      refine lv_goto (tgt := 22) hx hb dX8_refuser_74 (by decide) ?_
                      exact ih22 (k + 1) (by omega) (by omega) (by subst ex9; rw [hr2, show 6 - k = (6 - (k + 1)) + 1 by omega, xw_first, if_pos (by (try simp only [xb_cl (show k < 2 ^ 31 by omega)] at c5 c14 c25 c33 c38 c47 c57 c66); simp only [em_rfd, c5, c14, c25, c33, c38, c47, c57, c66, if_true, if_false, Bool.false_eq_true])]) x9 (by subst ex9; exact nI_1 k) ls (lv_sub hl [1, 2, 3, 0] rfl)
                    · skip
                      have hfk : xw_first (em_rfd A I p y) 6 0 = k := by rw [hr2, show 6 - k = (6 - (k + 1)) + 1 by omega, xw_first, if_neg (by (try simp only [xb_cl (show k < 2 ^ 31 by omega)] at c5 c14 c25 c33 c38 c47 c57 c66); simp only [em_rfd, c5, c14, c25, c33, c38, c47, c57, c66, if_true, if_false, Bool.false_eq_true, not_false_eq_true])]
                      refine lv_iload_n hx hb dX8_refuser_69 rfl (lv_at hl 3 rfl) ?_
                      rw [hQ]
                      exact xg_eri S hr hlk (by skip; unfold em_rfs; rw [if_pos c5, if_pos c14, hfk, if_pos hk9]) dX8_refuser_70
      exact lp22 7 0 (by omega) (by omega) rfl 0 (by skip; rfl) ls (lv_sub hl [1, 2, 3, 0] rfl)
    · skip
      refine lv_bipush (v := (-2)) hx hb dX8_refuser_17 (by decide) ?_
      rw [hQ]
      exact xg_eri S hr hlk (by skip; simp only [em_rfs, c5, c14, if_true, if_false, Bool.false_eq_true]) dX8_refuser_19
  · skip
    refine lv_iconst (v := (-1)) hx hb dX8_refuser_8 (by decide) ?_
    rw [hQ]
    exact xg_eri S hr hlk (by skip; simp only [em_rfs, c5, if_true, if_false, Bool.false_eq_true]) dX8_refuser_9
set_option maxHeartbeats 4000000 in
set_option maxRecDepth 100000 in
theorem mX8_likely (l : Launch) (D : va_G) (cI cZ : ClassId) (bs : Nat) (ad : Nat → Nat) (ws : va_W) (b : Nat) (A : Nat → Nat → Int32) (I : Nat → Int32) (L : Int64) (hM : xv_M cI cZ ad ws b A I L) (p : Int32) (y : Int32) : Met l yX8_likely wsX8_likely ({ frames := 3, cells := 0, slots := 0, locals := 69 } : Room) (va_Pc [.ref (ad b), .int p, .int y] (fun U => xg_W D cI cZ bs ws U)) (xg_Ri (fun r : Int32 => r = em_lik A I p y)) 0 0 xg_F := by
  refine xg_met cX8_likely 5 (some .int) RX8 (by decide) rfl rfl (Nat.le_of_ble_eq_true rfl) ?_
  intro pg en s m below meth c ls S hr hlk hnm hB hl
  have hK := hB.1
  have hG := xg_start hB
  obtain ⟨hx, hb, hml, hown, hts⟩ := id S
  have hl : lv_has ls 5 [(0, .ref (ad b)), (1, .int p), (2, .int y)] := hl
  obtain ⟨Q, hQ⟩ : ∃ Q, Q = MQ below (xg_Ri (fun r : Int32 => r = em_lik A I p y)) ([.ref (ad b), .int p, .int y] : List Value).toArray s 0 0 xg_F := ⟨_, rfl⟩
  rw [← hQ]
  refine lv_aload_n hx hb dX8_likely_0 rfl (lv_at hl 0 rfl) ?_
  refine lv_iload_n hx hb dX8_likely_1 rfl (lv_at hl 1 rfl) ?_
  refine xg_ri (va_runV (As := [.int p]) (rest := []) S (mX8_isThere l D cI cZ bs ad ws b A I L hM p) (cwV 1 hts gX8_likely_X8_isThere rfl rfl rfl (by decide +kernel) ⟨Nat.le_of_ble_eq_true rfl, Nat.le_of_ble_eq_true rfl⟩) (xg_preV hK hG b hM.1 rfl rfl) rfl rfl hl.1 rfl (lv_room (Nat.le_of_ble_eq_true rfl)) dX8_likely_2 ⟨Nat.zero_le _, Nat.zero_le _⟩) (fun r1 hr1 => ?_)
  replace hr1 := hr1.symm; subst hr1
  refine xb_ifne (tgt := 10) S dX8_likely_5 (by decide) (fun c5 => ?_) (fun c5 => ?_)
  · skip
    refine lv_iload_n hx hb dX8_likely_10 rfl (lv_at hl 2 rfl) ?_
    refine xg_ri (va_runS (As := [.int y]) (rest := []) S (mX8_isHeight l D cI cZ bs ad ws y) (va_cwS 1 hts gX8_likely_X8_isHeight rfl rfl rfl (by decide +kernel) ⟨Nat.le_of_ble_eq_true rfl, Nat.le_of_ble_eq_true rfl⟩) (xg_preS hK hG) rfl rfl hl.1 rfl (lv_room (Nat.le_of_ble_eq_true rfl)) dX8_likely_11 ⟨Nat.zero_le _, Nat.zero_le _⟩) (fun r2 hr2 => ?_)
    replace hr2 := hr2.symm; subst hr2
    refine xb_ifne (tgt := 20) S dX8_likely_14 (by decide) (fun c14 => ?_) (fun c14 => ?_)
    · skip
      refine lv_iconst (v := 0) hx hb dX8_likely_20 (by decide) ?_
      refine lv_istore_n (lv' := [(3, .int 0), (0, .ref (ad b)), (1, .int p), (2, .int y)]) hx hb dX8_likely_21 rfl hl (by decide) rfl (fun ls hl => ?_)
      refine lv_iconst (v := 0) hx hb dX8_likely_22 (by decide) ?_
      refine lv_istore (lv' := [(4, .int 0), (3, .int 0), (0, .ref (ad b)), (1, .int p), (2, .int y)]) hx hb dX8_likely_23 hl (by decide) rfl (fun ls hl => ?_)
      -- the loop at 25
      have lp25 : ∀ (fu : Nat) (k : Nat), (k ≤ 10) → (11 ≤ k + fu) → ∀ y25_3 : Int32, y25_3 = em_lkk A I p y k → ∀ y25_4 : Int32, y25_4 = nI k → ∀ (ls : Array Slot), lv_has ls 5 [(0, .ref (ad b)), (1, .int p), (2, .int y), (3, .int y25_3), (4, .int y25_4)] → W pg l en ({ frames := 3, cells := 0, slots := 0, locals := 69 } : Room) s m ([.ref (ad b), .int p, .int y] : List Value).toArray below meth c s.heap [] 0 0 Q (F0 m 25 ls []) := by
        intro fu
        induction fu with
        | zero =>
          intro k hk hf
          exact absurd hf (by omega)
        | succ fu ih25 =>
          intro k hk hf y25_3 ey25_3 y25_4 ey25_4
          intro ls hl
          replace ey25_3 := ey25_3.symm; subst ey25_3
          replace ey25_4 := ey25_4.symm; subst ey25_4
          refine lv_iload hx hb dX8_likely_25 (lv_at hl 4 rfl) ?_
          refine lv_bipush (v := 10) hx hb dX8_likely_27 (by decide) ?_
          refine lv_icmp_ge (tgt := 57) hx hb dX8_likely_29 (by decide) (fun c29 => ?_) (fun c29 => ?_)
          · skip
            have hk9 : k = 10 := by have := xb_le (k := k) (n := 10) (by omega) (by decide) c29; omega
            refine lv_iload_n hx hb dX8_likely_57 rfl (lv_at hl 3 rfl) ?_
            rw [hQ]
            exact xg_eri S hr hlk (by skip; unfold em_lik; rw [if_pos c5, if_pos c14, hk9]) dX8_likely_58
          · skip
            have hk9 : k < 10 := xb_lt (by omega) (by decide) c29
            refine lv_iload_n hx hb dX8_likely_32 rfl (lv_at hl 3 rfl) ?_
            refine lv_aload_n hx hb dX8_likely_33 rfl (lv_at hl 0 rfl) ?_
            refine lv_iload_n hx hb dX8_likely_34 rfl (lv_at hl 1 rfl) ?_
            refine lv_iload hx hb dX8_likely_35 (lv_at hl 4 rfl) ?_
            refine lv_iload_n hx hb dX8_likely_37 rfl (lv_at hl 2 rfl) ?_
            refine xg_ri (va_runV (As := [.int p, .int (nI k), .int y]) (rest := [.int (em_lkk A I p y k)]) S (mX8_doesBy l D cI cZ bs ad ws b A I L hM p (nI k) y (em_isT_in c5)) (cwV 3 hts gX8_likely_X8_doesBy rfl rfl rfl (by decide +kernel) ⟨Nat.le_of_ble_eq_true rfl, Nat.le_of_ble_eq_true rfl⟩) (xg_preV hK hG b hM.1 rfl rfl) rfl rfl hl.1 rfl (lv_room (Nat.le_of_ble_eq_true rfl)) dX8_likely_38 ⟨Nat.zero_le _, Nat.zero_le _⟩) (fun r3 hr3 => ?_)
            replace hr3 := hr3.symm; subst hr3
            have jn49_4 : ∀ v4 : Int32, v4 = ((if em_dsb A I p (nI k) y = true then 1 else 0) : Int32) → W pg l en ({ frames := 3, cells := 0, slots := 0, locals := 69 } : Room) s m ([.ref (ad b), .int p, .int y] : List Value).toArray below meth c s.heap [] 0 0 Q (F0 m 49 ls [.int v4, .int (em_lkk A I p y k)]) := by
              intro v4 ev4
              replace ev4 := ev4.symm
              refine lv_iadd hx hb dX8_likely_49 ?_
              refine lv_topi (fun x5 ex5 => ?_)
              replace ex5 := ex5.symm
              refine lv_istore_n (lv' := [(3, .int x5), (0, .ref (ad b)), (1, .int p), (2, .int y), (4, .int (nI k))]) hx hb dX8_likely_50 rfl hl (by decide) rfl (fun ls hl => ?_)
              obtain ⟨x6, ex6⟩ : ∃ zz : Int32, ((nI k) + 1) = zz := ⟨_, rfl⟩
              refine lv_iinc (v := x6) (lv' := [(4, .int x6), (3, .int x5), (0, .ref (ad b)), (1, .int p), (2, .int y)]) hx hb dX8_likely_51 hl (k := 4) rfl (by rw [← ex6]; rfl) (by decide) rfl (fun ls hl => ?_)
              refine lv_goto (tgt := 25) hx hb dX8_likely_54 (by decide) ?_
              exact ih25 (k + 1) (by omega) (by omega) x5 (by subst ev4 ex5 ex6; rfl) x6 (by subst ev4 ex5 ex6; exact nI_1 k) ls (lv_sub hl [2, 3, 4, 1, 0] rfl)
            refine xb_ifeq (tgt := 48) S dX8_likely_41 (by decide) (fun c41 => ?_) (fun c41 => ?_)
            · skip
              refine lv_iconst (v := 0) hx hb dX8_likely_48 (by decide) ?_
              exact jn49_4 _ (by rw [if_neg (Bool.eq_false_iff.mp c41)])
            · skip
              refine lv_iconst (v := 1) hx hb dX8_likely_44 (by decide) ?_
              refine lv_goto (tgt := 49) hx hb dX8_likely_45 (by decide) ?_
              exact jn49_4 _ (by rw [if_pos c41])
      exact lp25 11 0 (by omega) (by omega) 0 (by skip; rfl) 0 (by skip; rfl) ls (lv_sub hl [2, 3, 4, 1, 0] rfl)
    · skip
      refine lv_bipush (v := (-2)) hx hb dX8_likely_17 (by decide) ?_
      rw [hQ]
      exact xg_eri S hr hlk (by skip; simp only [em_lik, c5, c14, if_true, if_false, Bool.false_eq_true]) dX8_likely_19
  · skip
    refine lv_iconst (v := (-1)) hx hb dX8_likely_8 (by decide) ?_
    rw [hQ]
    exact xg_eri S hr hlk (by skip; simp only [em_lik, c5, if_true, if_false, Bool.false_eq_true]) dX8_likely_9
set_option maxHeartbeats 4000000 in
set_option maxRecDepth 100000 in
theorem mX8_seen (l : Launch) (D : va_G) (cI cZ : ClassId) (bs : Nat) (ad : Nat → Nat) (ws : va_W) (b : Nat) (A : Nat → Nat → Int32) (I : Nat → Int32) (L : Int64) (hM : xv_M cI cZ ad ws b A I L) (p : Int32) (y : Int32) (d : Int32) (ns : Nat) (hns : I 18 = nI ns) (hn6 : ns ≤ 6) : Met l yX8_seen wsX8_seen ({ frames := 3, cells := 0, slots := 0, locals := 66 } : Room) (va_Pc [.ref (ad b), .int p, .int y, .int d] (fun U => xg_W D cI cZ bs ws U)) (va_Qi (fun (r : Int32) (w : va_W) => r = em_seR I p y d ∧ xv_M cI cZ ad w b (em_seA A I p y d) (em_seI I p y d) L ∧ xv_S ws w b 24) (fun w t => xg_W D cI cZ bs w t) (xg_A bs)) 0 0 (xg_A bs) := by
  refine xg_met cX8_seen 4 (some .int) RX8 (by decide) rfl rfl (Nat.le_of_ble_eq_true rfl) ?_
  intro pg en s m below meth c ls S hr hlk hnm hB hl
  have hK := hB.1
  have hG := xg_start hB
  obtain ⟨hx, hb, hml, hown, hts⟩ := id S
  have hl : lv_has ls 4 [(0, .ref (ad b)), (1, .int p), (2, .int y), (3, .int d)] := hl
  obtain ⟨Q, hQ⟩ : ∃ Q, Q = MQ below (va_Qi (fun (r : Int32) (w : va_W) => r = em_seR I p y d ∧ xv_M cI cZ ad w b (em_seA A I p y d) (em_seI I p y d) L ∧ xv_S ws w b 24) (fun w t => xg_W D cI cZ bs w t) (xg_A bs)) ([.ref (ad b), .int p, .int y, .int d] : List Value).toArray s 0 0 (xg_A bs) := ⟨_, rfl⟩
  rw [← hQ]
  have k0 := hts (.fieldLink RX8 322 "DareBridgeModel" "sights" "I") (List.mem_of_getElem? (i := 1) rfl)
  have k1 := hts (.fieldLink RX8 31 "DareBridgeModel" "sightOf" "[I") (List.mem_of_getElem? (i := 2) rfl)
  have k2 := hts (.fieldLink RX8 34 "DareBridgeModel" "sightHeight" "[I") (List.mem_of_getElem? (i := 3) rfl)
  have k3 := hts (.fieldLink RX8 37 "DareBridgeModel" "sightDid" "[I") (List.mem_of_getElem? (i := 4) rfl)
  refine lv_aload_n hx hb dX8_seen_0 rfl (lv_at hl 0 rfl) ?_
  refine lv_iload_n hx hb dX8_seen_1 rfl (lv_at hl 1 rfl) ?_
  refine xg_ri (va_runV (As := [.int p]) (rest := []) S (mX8_isThere l D cI cZ bs ad ws b A I L hM p) (cwV 1 hts gX8_seen_X8_isThere rfl rfl rfl (by decide +kernel) ⟨Nat.le_of_ble_eq_true rfl, Nat.le_of_ble_eq_true rfl⟩) (xg_preV hK hG b hM.1 rfl rfl) rfl rfl hl.1 rfl (lv_room (Nat.le_of_ble_eq_true rfl)) dX8_seen_2 ⟨Nat.zero_le _, Nat.zero_le _⟩) (fun r1 hr1 => ?_)
  replace hr1 := hr1.symm; subst hr1
  refine xb_ifne (tgt := 10) S dX8_seen_5 (by decide) (fun c5 => ?_) (fun c5 => ?_)
  · skip
    refine lv_iload_n hx hb dX8_seen_10 rfl (lv_at hl 2 rfl) ?_
    refine xg_ri (va_runS (As := [.int y]) (rest := []) S (mX8_isHeight l D cI cZ bs ad ws y) (va_cwS 1 hts gX8_seen_X8_isHeight rfl rfl rfl (by decide +kernel) ⟨Nat.le_of_ble_eq_true rfl, Nat.le_of_ble_eq_true rfl⟩) (xg_preS hK hG) rfl rfl hl.1 rfl (lv_room (Nat.le_of_ble_eq_true rfl)) dX8_seen_11 ⟨Nat.zero_le _, Nat.zero_le _⟩) (fun r2 hr2 => ?_)
    replace hr2 := hr2.symm; subst hr2
    refine xb_ifeq (tgt := 27) S dX8_seen_14 (by decide) (fun c14 => ?_) (fun c14 => ?_)
    · skip
      refine lv_bipush (v := (-2)) hx hb dX8_seen_27 (by decide) ?_
      rw [hQ]
      exact xg_emi S hr hlk hK hG ⟨(by skip; simp [em_seR, va_up_self, c5, c14]), (by rw [show (em_seA A I p y d) = A from (by skip; simp [em_seA, em_seI, em_seV, c5, c14, va_up_ne])]; rw [show (em_seI I p y d) = I from (by skip; simp [em_seA, em_seI, em_seV, c5, c14, va_up_ne])]; exact hM), xv_S.rf⟩ dX8_seen_29
    · skip
      refine lv_iload_n hx hb dX8_seen_17 rfl (lv_at hl 3 rfl) ?_
      refine lv_i2l (v := d.toInt64) hx hb dX8_seen_18 rfl ?_
      refine lv_lconst (v := 0) hx hb dX8_seen_19 (by decide) ?_
      refine lv_lconst (v := 1) hx hb dX8_seen_20 (by decide) ?_
      refine xg_ri (va_runS (As := [.long d.toInt64, .long 0, .long 1]) (rest := []) S (mX8_in l D cI cZ bs ad ws d.toInt64 0 1) (va_cwS 3 hts gX8_seen_X8_in rfl rfl rfl (by decide +kernel) ⟨Nat.le_of_ble_eq_true rfl, Nat.le_of_ble_eq_true rfl⟩) (xg_preS hK hG) rfl rfl hl.1 rfl (lv_room (Nat.le_of_ble_eq_true rfl)) dX8_seen_21 ⟨Nat.zero_le _, Nat.zero_le _⟩) (fun r3 hr3 => ?_)
      replace hr3 := hr3.symm; subst hr3
      rw [xw_inL_lit d 0 1 0 1 (by decide) (by decide)]
      refine xb_ifne (tgt := 30) S dX8_seen_24 (by decide) (fun c24 => ?_) (fun c24 => ?_)
      · skip
        refine lv_aload_n hx hb dX8_seen_30 rfl (lv_at hl 0 rfl) ?_
        refine xg_get (C := RX8) (T := TX8) (N := 46) S hK hG (fun w h => List.mem_cons_of_mem _ (List.mem_append_right _ (h))) b hM.1 rfl 18 (by decide) k0 (fun _ h9 => h9) rfl dX8_seen_31 ?_
        refine lv_bipush (v := 6) hx hb dX8_seen_34 (by decide) ?_
        refine lv_icmp_ne (tgt := 42) hx hb dX8_seen_36 (by decide) (fun c36 => ?_) (fun c36 => ?_)
        · skip
          have hp : vp_in (I 18) 6 := by rw [hns]; exact vp_in_nI (by rcases Nat.lt_or_ge ns 6 with q | q; exact q; exact absurd (by rw [hns, show ns = 6 by omega]; rfl) c36) (by decide)
          refine lv_aload_n hx hb dX8_seen_42 rfl (lv_at hl 0 rfl) ?_
          refine xg_get (C := RX8) (T := TX8) (N := 46) S hK hG (fun w h => List.mem_cons_of_mem _ (List.mem_append_right _ (h))) b hM.1 rfl 15 (by decide) k1 (fun _ h9 => h9) rfl dX8_seen_43 ?_
          refine lv_aload_n hx hb dX8_seen_46 rfl (lv_at hl 0 rfl) ?_
          refine xg_get (C := RX8) (T := TX8) (N := 46) S hK hG (fun w h => List.mem_cons_of_mem _ (List.mem_append_right _ (h))) b hM.1 rfl 18 (by decide) k0 (fun _ h9 => h9) rfl dX8_seen_47 ?_
          refine lv_iload_n hx hb dX8_seen_50 rfl (lv_at hl 1 rfl) ?_
          refine xg_ast2 S hK hG (b + 8) (show ws[b + 8]? = some (ad (b + 8), .inl (cI, 6, .inl (A 7))) from hM.2.1 7 (by decide)) (i := I 18) (x := p) (by first | assumption | exact vp_in_nI (by omega) (by decide)) dX8_seen_51 (fun w4 H locs hw4 hG => ?_)
          have hs5 : xv_S ws w4 (b + 8) 1 := by rw [hw4]; exact xv_S.set (by omega) (by omega)
          obtain ⟨A6, eA6⟩ : ∃ zz : Nat → Nat → Int32, (va_up A 7 (upd (A 7) ((I 18).toNatClampNeg) p)) = zz := ⟨_, rfl⟩
          have hM : xv_M cI cZ ad w4 b A6 I L := by rw [hw4, ← eA6]; exact hM.row 7 (by decide)
          have hSw4 : xv_S ws w4 b 24 := hs5.mono (by omega) (by omega)
          refine lv_aload_n hx hb dX8_seen_52 rfl (lv_at hl 0 rfl) ?_
          refine xg_get (C := RX8) (T := TX8) (N := 46) S hK hG (fun w h => List.mem_cons_of_mem _ (List.mem_append_right _ (h))) b hM.1 rfl 16 (by decide) k2 (fun _ h9 => h9) rfl dX8_seen_53 ?_
          refine lv_aload_n hx hb dX8_seen_56 rfl (lv_at hl 0 rfl) ?_
          refine xg_get (C := RX8) (T := TX8) (N := 46) S hK hG (fun w h => List.mem_cons_of_mem _ (List.mem_append_right _ (h))) b hM.1 rfl 18 (by decide) k0 (fun _ h9 => h9) rfl dX8_seen_57 ?_
          refine lv_iload_n hx hb dX8_seen_60 rfl (lv_at hl 2 rfl) ?_
          refine xg_ast2 S hK hG (b + 9) (show w4[b + 9]? = some (ad (b + 9), .inl (cI, 6, .inl (A6 8))) from hM.2.1 8 (by decide)) (i := I 18) (x := y) (by first | assumption | exact vp_in_nI (by omega) (by decide)) dX8_seen_61 (fun w7 H locs hw7 hG => ?_)
          have hs8 : xv_S w4 w7 (b + 9) 1 := by rw [hw7]; exact xv_S.set (by omega) (by omega)
          obtain ⟨A9, eA9⟩ : ∃ zz : Nat → Nat → Int32, (va_up A6 8 (upd (A6 8) ((I 18).toNatClampNeg) y)) = zz := ⟨_, rfl⟩
          have hM : xv_M cI cZ ad w7 b A9 I L := by rw [hw7, ← eA9]; exact hM.row 8 (by decide)
          have hSw7 : xv_S ws w7 b 24 := hSw4.trans (hs8.mono (by omega) (by omega))
          refine lv_aload_n hx hb dX8_seen_62 rfl (lv_at hl 0 rfl) ?_
          refine xg_get (C := RX8) (T := TX8) (N := 46) S hK hG (fun w h => List.mem_cons_of_mem _ (List.mem_append_right _ (h))) b hM.1 rfl 17 (by decide) k3 (fun _ h9 => h9) rfl dX8_seen_63 ?_
          refine lv_aload_n hx hb dX8_seen_66 rfl (lv_at hl 0 rfl) ?_
          refine xg_get (C := RX8) (T := TX8) (N := 46) S hK hG (fun w h => List.mem_cons_of_mem _ (List.mem_append_right _ (h))) b hM.1 rfl 18 (by decide) k0 (fun _ h9 => h9) rfl dX8_seen_67 ?_
          refine lv_iload_n hx hb dX8_seen_70 rfl (lv_at hl 3 rfl) ?_
          refine xg_ast2 S hK hG (b + 10) (show w7[b + 10]? = some (ad (b + 10), .inl (cI, 6, .inl (A9 9))) from hM.2.1 9 (by decide)) (i := I 18) (x := d) (by first | assumption | exact vp_in_nI (by omega) (by decide)) dX8_seen_71 (fun w10 H locs hw10 hG => ?_)
          have hs11 : xv_S w7 w10 (b + 10) 1 := by rw [hw10]; exact xv_S.set (by omega) (by omega)
          obtain ⟨A12, eA12⟩ : ∃ zz : Nat → Nat → Int32, (va_up A9 9 (upd (A9 9) ((I 18).toNatClampNeg) d)) = zz := ⟨_, rfl⟩
          have hM : xv_M cI cZ ad w10 b A12 I L := by rw [hw10, ← eA12]; exact hM.row 9 (by decide)
          have hSw10 : xv_S ws w10 b 24 := hSw7.trans (hs11.mono (by omega) (by omega))
          refine lv_aload_n hx hb dX8_seen_72 rfl (lv_at hl 0 rfl) ?_
          refine lv_dup hx hb dX8_seen_73 rfl ?_
          refine xg_get (C := RX8) (T := TX8) (N := 46) S hK hG (fun w h => List.mem_cons_of_mem _ (List.mem_append_right _ (h))) b hM.1 rfl 18 (by decide) k0 (fun _ h9 => h9) rfl dX8_seen_74 ?_
          refine lv_iconst (v := 1) hx hb dX8_seen_77 (by decide) ?_
          refine lv_iadd hx hb dX8_seen_78 ?_
          refine xg_put2 (C := RX8) (T := TX8) (N := 46) (v := .int ((I 18) + 1)) (ty := .int) S hK hG (fun w h => List.mem_cons_of_mem _ (List.mem_append_right _ (h))) tyX8 tyX8_ok nmX8 b hM.1 rfl 18 (by decide) k0 (fun _ h9 => h9) rfl (by decide +kernel) rfl rfl (Nat.le_of_ble_eq_true rfl) dX8_seen_79 (fun w13 H locs hw13 hG => ?_)
          have hs14 : xv_S w10 w13 b 1 := by rw [hw13]; exact xv_S.set (by omega) (by omega)
          obtain ⟨I15, eI15⟩ : ∃ zz : Nat → Int32, (va_up I 18 ((I 18) + 1)) = zz := ⟨_, rfl⟩
          have hM : xv_M cI cZ ad w13 b A12 I15 L := by rw [hw13, ← eI15]; exact hM.fld (va_up I 18 ((I 18) + 1)) L rfl
          have hSw13 : xv_S ws w13 b 24 := hSw10.trans (hs14.mono (by omega) (by omega))
          refine lv_aload_n hx hb dX8_seen_82 rfl (lv_at hl 0 rfl) ?_
          refine xg_get (C := RX8) (T := TX8) (N := 46) S hK hG (fun w h => List.mem_cons_of_mem _ (List.mem_append_right _ (h))) b hM.1 rfl 18 (by decide) k0 (fun _ h9 => h9) rfl dX8_seen_83 ?_
          rw [hQ]
          exact xg_emi S hr hlk hK hG ⟨(by subst eA6 eA9 eA12 eI15; simp [em_seR, va_up_self, c5, c14, c24, c36]), (by rw [show (em_seA A I p y d) = A12 from (by subst eA6 eA9 eA12 eI15; simp [em_seA, em_seI, em_seV, c5, c14, c24, c36, va_up_ne])]; rw [show (em_seI I p y d) = I15 from (by subst eA6 eA9 eA12 eI15; simp [em_seA, em_seI, em_seV, c5, c14, c24, c36, va_up_ne])]; exact hM), hSw13⟩ dX8_seen_86
        · skip
          refine lv_bipush (v := (-4)) hx hb dX8_seen_39 (by decide) ?_
          rw [hQ]
          exact xg_emi S hr hlk hK hG ⟨(by skip; simp [em_seR, va_up_self, c5, c14, c24, c36]), (by rw [show (em_seA A I p y d) = A from (by skip; simp [em_seA, em_seI, em_seV, c5, c14, c24, c36, va_up_ne])]; rw [show (em_seI I p y d) = I from (by skip; simp [em_seA, em_seI, em_seV, c5, c14, c24, c36, va_up_ne])]; exact hM), xv_S.rf⟩ dX8_seen_41
      · skip
        refine lv_bipush (v := (-2)) hx hb dX8_seen_27 (by decide) ?_
        rw [hQ]
        exact xg_emi S hr hlk hK hG ⟨(by skip; simp [em_seR, va_up_self, c5, c14, c24]), (by rw [show (em_seA A I p y d) = A from (by skip; simp [em_seA, em_seI, em_seV, c5, c14, c24, va_up_ne])]; rw [show (em_seI I p y d) = I from (by skip; simp [em_seA, em_seI, em_seV, c5, c14, c24, va_up_ne])]; exact hM), xv_S.rf⟩ dX8_seen_29
  · skip
    refine lv_iconst (v := (-1)) hx hb dX8_seen_8 (by decide) ?_
    rw [hQ]
    exact xg_emi S hr hlk hK hG ⟨(by skip; simp [em_seR, va_up_self, c5]), (by rw [show (em_seA A I p y d) = A from (by skip; simp [em_seA, em_seI, em_seV, c5, va_up_ne])]; rw [show (em_seI I p y d) = I from (by skip; simp [em_seA, em_seI, em_seV, c5, va_up_ne])]; exact hM), xv_S.rf⟩ dX8_seen_9
set_option maxHeartbeats 4000000 in
set_option maxRecDepth 100000 in
theorem mX8_forget (l : Launch) (D : va_G) (cI cZ : ClassId) (bs : Nat) (ad : Nat → Nat) (ws : va_W) (b : Nat) (A : Nat → Nat → Int32) (I : Nat → Int32) (L : Int64) (hM : xv_M cI cZ ad ws b A I L) : Met l yX8_forget wsX8_forget ({ frames := 0, cells := 0, slots := 0, locals := 0 } : Room) (va_Pc [.ref (ad b)] (fun U => xg_W D cI cZ bs ws U)) (va_Qi (fun (r : Int32) (w : va_W) => r = I 18 ∧ xv_M cI cZ ad w b A (va_up I 18 0) L ∧ xv_S ws w b 24) (fun w t => xg_W D cI cZ bs w t) (xg_A bs)) 0 0 (xg_A bs) := by
  refine xg_met cX8_forget 2 (some .int) RX8 (by decide) rfl rfl (Nat.le_of_ble_eq_true rfl) ?_
  intro pg en s m below meth c ls S hr hlk hnm hB hl
  have hK := hB.1
  have hG := xg_start hB
  obtain ⟨hx, hb, hml, hown, hts⟩ := id S
  have hl : lv_has ls 2 [(0, .ref (ad b))] := hl
  obtain ⟨Q, hQ⟩ : ∃ Q, Q = MQ below (va_Qi (fun (r : Int32) (w : va_W) => r = I 18 ∧ xv_M cI cZ ad w b A (va_up I 18 0) L ∧ xv_S ws w b 24) (fun w t => xg_W D cI cZ bs w t) (xg_A bs)) ([.ref (ad b)] : List Value).toArray s 0 0 (xg_A bs) := ⟨_, rfl⟩
  rw [← hQ]
  have k0 := hts (.fieldLink RX8 322 "DareBridgeModel" "sights" "I") (List.mem_of_getElem? (i := 1) rfl)
  refine lv_aload_n hx hb dX8_forget_0 rfl (lv_at hl 0 rfl) ?_
  refine xg_get (C := RX8) (T := TX8) (N := 46) S hK hG (fun w h => List.mem_cons_of_mem _ (List.mem_append_right _ (h))) b hM.1 rfl 18 (by decide) k0 (fun _ h9 => h9) rfl dX8_forget_1 ?_
  refine lv_topi (fun x1 ex1 => ?_)
  replace ex1 := ex1.symm
  refine lv_istore_n (lv' := [(1, .int x1), (0, .ref (ad b))]) hx hb dX8_forget_4 rfl hl (by decide) rfl (fun ls hl => ?_)
  refine lv_aload_n hx hb dX8_forget_5 rfl (lv_at hl 1 rfl) ?_
  refine lv_iconst (v := 0) hx hb dX8_forget_6 (by decide) ?_
  refine xg_put2 (C := RX8) (T := TX8) (N := 46) (v := .int 0) (ty := .int) S hK hG (fun w h => List.mem_cons_of_mem _ (List.mem_append_right _ (h))) tyX8 tyX8_ok nmX8 b hM.1 rfl 18 (by decide) k0 (fun _ h9 => h9) rfl (by decide +kernel) rfl rfl (Nat.le_of_ble_eq_true rfl) dX8_forget_7 (fun w2 H locs hw2 hG => ?_)
  have hs3 : xv_S ws w2 b 1 := by rw [hw2]; exact xv_S.set (by omega) (by omega)
  obtain ⟨I4, eI4⟩ : ∃ zz : Nat → Int32, (va_up I 18 0) = zz := ⟨_, rfl⟩
  have hM : xv_M cI cZ ad w2 b A I4 L := by rw [hw2, ← eI4]; exact hM.fld (va_up I 18 0) L rfl
  have hSw2 : xv_S ws w2 b 24 := hs3.mono (by omega) (by omega)
  refine lv_iload_n hx hb dX8_forget_10 rfl (lv_at hl 0 rfl) ?_
  rw [hQ]
  exact xg_emi S hr hlk hK hG ⟨(by subst ex1 eI4; rfl), (by rw [show (va_up I 18 0) = I4 from (by subst ex1 eI4; rfl)]; exact hM), hSw2⟩ dX8_forget_11
set_option maxHeartbeats 4000000 in
set_option maxRecDepth 100000 in
theorem mX8_holdsAll (l : Launch) (D : va_G) (cI cZ : ClassId) (bs : Nat) (ad : Nat → Nat) (ws : va_W) (b : Nat) (A : Nat → Nat → Int32) (I : Nat → Int32) (L : Int64) (hM : xv_M cI cZ ad ws b A I L) (p : Int32) (q : Int32) (hp : vp_in p 6) (ns : Nat) (hns : I 18 = nI ns) (hn6 : ns ≤ 6) : Met l yX8_holdsAll wsX8_holdsAll ({ frames := 3, cells := 0, slots := 0, locals := 69 } : Room) (va_Pc [.ref (ad b), .int p, .int q] (fun U => xg_W D cI cZ bs ws U)) (xg_Ri (fun r : Int32 => r = xb_i (em_hal A I p q ns))) 0 0 xg_F := by
  refine xg_met cX8_holdsAll 5 (some .boolean) RX8 (by decide) rfl rfl (Nat.le_of_ble_eq_true rfl) ?_
  intro pg en s m below meth c ls S hr hlk hnm hB hl
  have hK := hB.1
  have hG := xg_start hB
  obtain ⟨hx, hb, hml, hown, hts⟩ := id S
  have hl : lv_has ls 5 [(0, .ref (ad b)), (1, .int p), (2, .int q)] := hl
  obtain ⟨Q, hQ⟩ : ∃ Q, Q = MQ below (xg_Ri (fun r : Int32 => r = xb_i (em_hal A I p q ns))) ([.ref (ad b), .int p, .int q] : List Value).toArray s 0 0 xg_F := ⟨_, rfl⟩
  rw [← hQ]
  have k0 := hts (.fieldLink RX8 322 "DareBridgeModel" "sights" "I") (List.mem_of_getElem? (i := 1) rfl)
  have k1 := hts (.fieldLink RX8 31 "DareBridgeModel" "sightOf" "[I") (List.mem_of_getElem? (i := 2) rfl)
  have k2 := hts (.fieldLink RX8 34 "DareBridgeModel" "sightHeight" "[I") (List.mem_of_getElem? (i := 3) rfl)
  have k3 := hts (.fieldLink RX8 37 "DareBridgeModel" "sightDid" "[I") (List.mem_of_getElem? (i := 4) rfl)
  refine lv_iconst (v := 1) hx hb dX8_holdsAll_0 (by decide) ?_
  refine lv_istore_n (lv' := [(3, .int 1), (0, .ref (ad b)), (1, .int p), (2, .int q)]) hx hb dX8_holdsAll_1 rfl hl (by decide) rfl (fun ls hl => ?_)
  refine lv_iconst (v := 0) hx hb dX8_holdsAll_2 (by decide) ?_
  refine lv_istore (lv' := [(4, .int 0), (3, .int 1), (0, .ref (ad b)), (1, .int p), (2, .int q)]) hx hb dX8_holdsAll_3 hl (by decide) rfl (fun ls hl => ?_)
  -- the loop at 5
  have lp5 : ∀ (fu : Nat) (k : Nat), (k ≤ ns) → (ns < k + fu) → ∀ y5_3 : Int32, y5_3 = em_hak A I p q k → ∀ y5_4 : Int32, y5_4 = nI k → ∀ (ls : Array Slot), lv_has ls 5 [(0, .ref (ad b)), (1, .int p), (2, .int q), (3, .int y5_3), (4, .int y5_4)] → W pg l en ({ frames := 3, cells := 0, slots := 0, locals := 69 } : Room) s m ([.ref (ad b), .int p, .int q] : List Value).toArray below meth c s.heap [] 0 0 Q (F0 m 5 ls []) := by
    intro fu
    induction fu with
    | zero =>
      intro k hk hf
      exact absurd hf (by omega)
    | succ fu ih5 =>
      intro k hk hf y5_3 ey5_3 y5_4 ey5_4
      intro ls hl
      replace ey5_3 := ey5_3.symm; subst ey5_3
      replace ey5_4 := ey5_4.symm; subst ey5_4
      refine lv_iload hx hb dX8_holdsAll_5 (lv_at hl 4 rfl) ?_
      refine lv_aload_n hx hb dX8_holdsAll_7 rfl (lv_at hl 0 rfl) ?_
      refine xg_get (C := RX8) (T := TX8) (N := 46) S hK hG (fun w h => List.mem_cons_of_mem _ (List.mem_append_right _ (h))) b hM.1 rfl 18 (by decide) k0 (fun _ h9 => h9) rfl dX8_holdsAll_8 ?_
      refine lv_icmp_ge (tgt := 72) hx hb dX8_holdsAll_11 (by decide) (fun c11 => ?_) (fun c11 => ?_)
      · skip
        have hk9 : k = ns := by have := xb_le (k := k) (n := ns) (by omega) (by omega) (by rw [← hns]; exact c11); omega
        refine lv_iload_n hx hb dX8_holdsAll_72 rfl (lv_at hl 3 rfl) ?_
        rw [hQ]
        exact xg_erz S hr hlk (by rcases em_hak_01 (A := A) (I := I) (p := p) (q := q) k with h | h <;> rw [h] <;> rfl) (by skip; rw [hk9]; exact em_hal_i) dX8_holdsAll_73
      · skip
        have hk9 : k < ns := xb_lt (by omega) (by omega) (by rw [← hns]; exact c11)
        refine lv_iload_n hx hb dX8_holdsAll_14 rfl (lv_at hl 3 rfl) ?_
        have jn65_1 : ∀ v1 : Int32, v1 = ((if (em_hak A I p q k) = 0 then 0 else if ((A 7) ((nI k).toNatClampNeg)) = p then if em_dsb A I p q ((A 8) ((nI k).toNatClampNeg)) = true then if 1 = ((A 9) ((nI k).toNatClampNeg)) then 1 else 0 else if 0 = ((A 9) ((nI k).toNatClampNeg)) then 1 else 0 else 1) : Int32) → W pg l en ({ frames := 3, cells := 0, slots := 0, locals := 69 } : Room) s m ([.ref (ad b), .int p, .int q] : List Value).toArray below meth c s.heap [] 0 0 Q (F0 m 65 ls [.int v1]) := by
          intro v1 ev1
          replace ev1 := ev1.symm
          refine lv_istore_n (lv' := [(3, .int v1), (0, .ref (ad b)), (1, .int p), (2, .int q), (4, .int (nI k))]) hx hb dX8_holdsAll_65 rfl hl (by decide) rfl (fun ls hl => ?_)
          obtain ⟨x2, ex2⟩ : ∃ zz : Int32, ((nI k) + 1) = zz := ⟨_, rfl⟩
          refine lv_iinc (v := x2) (lv' := [(4, .int x2), (3, .int v1), (0, .ref (ad b)), (1, .int p), (2, .int q)]) hx hb dX8_holdsAll_66 hl (k := 4) rfl (by rw [← ex2]; rfl) (by decide) rfl (fun ls hl => ?_)
          refine lv_goto (tgt := 5) hx hb dX8_holdsAll_69 (by decide) ?_
          exact ih5 (k + 1) (by omega) (by omega) v1 (by subst ev1 ex2; simp only [em_hak, xb_cl (show k < 2 ^ 31 by omega)]; by_cases h9 : em_dsb A I p q (A 8 k) = true <;> simp only [h9, if_true, if_false, Bool.false_eq_true]) x2 (by subst ev1 ex2; exact nI_1 k) ls (lv_sub hl [2, 3, 4, 1, 0] rfl)
        refine lv_if_eq (tgt := 64) hx hb dX8_holdsAll_15 (by decide) (fun c15 => ?_) (fun c15 => ?_)
        · skip
          refine lv_iconst (v := 0) hx hb dX8_holdsAll_64 (by decide) ?_
          exact jn65_1 _ (by rw [if_pos c15])
        · skip
          refine lv_aload_n hx hb dX8_holdsAll_18 rfl (lv_at hl 0 rfl) ?_
          refine xg_get (C := RX8) (T := TX8) (N := 46) S hK hG (fun w h => List.mem_cons_of_mem _ (List.mem_append_right _ (h))) b hM.1 rfl 15 (by decide) k1 (fun _ h9 => h9) rfl dX8_holdsAll_19 ?_
          refine lv_iload hx hb dX8_holdsAll_22 (lv_at hl 4 rfl) ?_
          refine xg_ald S hK hG (b + 8) (show ws[b + 8]? = some (ad (b + 8), .inl (cI, 6, .inl (A 7))) from hM.2.1 7 (by decide)) (i := nI k) (by first | assumption | exact vp_in_nI (by omega) (by decide)) dX8_holdsAll_24 ?_
          refine lv_iload_n hx hb dX8_holdsAll_25 rfl (lv_at hl 1 rfl) ?_
          refine lv_icmp_ne (tgt := 60) hx hb dX8_holdsAll_26 (by decide) (fun c26 => ?_) (fun c26 => ?_)
          · skip
            refine lv_iconst (v := 1) hx hb dX8_holdsAll_60 (by decide) ?_
            refine lv_goto (tgt := 65) hx hb dX8_holdsAll_61 (by decide) ?_
            exact jn65_1 _ (by rw [if_neg c15]; rw [if_neg c26])
          · skip
            refine lv_aload_n hx hb dX8_holdsAll_29 rfl (lv_at hl 0 rfl) ?_
            refine lv_iload_n hx hb dX8_holdsAll_30 rfl (lv_at hl 1 rfl) ?_
            refine lv_iload_n hx hb dX8_holdsAll_31 rfl (lv_at hl 2 rfl) ?_
            refine lv_aload_n hx hb dX8_holdsAll_32 rfl (lv_at hl 0 rfl) ?_
            refine xg_get (C := RX8) (T := TX8) (N := 46) S hK hG (fun w h => List.mem_cons_of_mem _ (List.mem_append_right _ (h))) b hM.1 rfl 16 (by decide) k2 (fun _ h9 => h9) rfl dX8_holdsAll_33 ?_
            refine lv_iload hx hb dX8_holdsAll_36 (lv_at hl 4 rfl) ?_
            refine xg_ald S hK hG (b + 9) (show ws[b + 9]? = some (ad (b + 9), .inl (cI, 6, .inl (A 8))) from hM.2.1 8 (by decide)) (i := nI k) (by first | assumption | exact vp_in_nI (by omega) (by decide)) dX8_holdsAll_38 ?_
            refine xg_ri (va_runV (As := [.int p, .int q, .int ((A 8) ((nI k).toNatClampNeg))]) (rest := []) S (mX8_doesBy l D cI cZ bs ad ws b A I L hM p q ((A 8) ((nI k).toNatClampNeg)) (by first | assumption | omega)) (cwV 3 hts gX8_holdsAll_X8_doesBy rfl rfl rfl (by decide +kernel) ⟨Nat.le_of_ble_eq_true rfl, Nat.le_of_ble_eq_true rfl⟩) (xg_preV hK hG b hM.1 rfl rfl) rfl rfl hl.1 rfl (lv_room (Nat.le_of_ble_eq_true rfl)) dX8_holdsAll_39 ⟨Nat.zero_le _, Nat.zero_le _⟩) (fun r3 hr3 => ?_)
            replace hr3 := hr3.symm; subst hr3
            refine xb_ifeq (tgt := 49) S dX8_holdsAll_42 (by decide) (fun c42 => ?_) (fun c42 => ?_)
            · skip
              refine lv_iconst (v := 0) hx hb dX8_holdsAll_49 (by decide) ?_
              refine lv_aload_n hx hb dX8_holdsAll_50 rfl (lv_at hl 0 rfl) ?_
              refine xg_get (C := RX8) (T := TX8) (N := 46) S hK hG (fun w h => List.mem_cons_of_mem _ (List.mem_append_right _ (h))) b hM.1 rfl 17 (by decide) k3 (fun _ h9 => h9) rfl dX8_holdsAll_51 ?_
              refine lv_iload hx hb dX8_holdsAll_54 (lv_at hl 4 rfl) ?_
              refine xg_ald S hK hG (b + 10) (show ws[b + 10]? = some (ad (b + 10), .inl (cI, 6, .inl (A 9))) from hM.2.1 9 (by decide)) (i := nI k) (by first | assumption | exact vp_in_nI (by omega) (by decide)) dX8_holdsAll_56 ?_
              refine lv_icmp_ne (tgt := 64) hx hb dX8_holdsAll_57 (by decide) (fun c57 => ?_) (fun c57 => ?_)
              · skip
                refine lv_iconst (v := 0) hx hb dX8_holdsAll_64 (by decide) ?_
                exact jn65_1 _ (by rw [if_neg c15]; rw [if_pos c26]; rw [if_neg (Bool.eq_false_iff.mp c42)]; rw [if_neg c57])
              · skip
                refine lv_iconst (v := 1) hx hb dX8_holdsAll_60 (by decide) ?_
                refine lv_goto (tgt := 65) hx hb dX8_holdsAll_61 (by decide) ?_
                exact jn65_1 _ (by rw [if_neg c15]; rw [if_pos c26]; rw [if_neg (Bool.eq_false_iff.mp c42)]; rw [if_pos c57])
            · skip
              refine lv_iconst (v := 1) hx hb dX8_holdsAll_45 (by decide) ?_
              refine lv_goto (tgt := 50) hx hb dX8_holdsAll_46 (by decide) ?_
              refine lv_aload_n hx hb dX8_holdsAll_50 rfl (lv_at hl 0 rfl) ?_
              refine xg_get (C := RX8) (T := TX8) (N := 46) S hK hG (fun w h => List.mem_cons_of_mem _ (List.mem_append_right _ (h))) b hM.1 rfl 17 (by decide) k3 (fun _ h9 => h9) rfl dX8_holdsAll_51 ?_
              refine lv_iload hx hb dX8_holdsAll_54 (lv_at hl 4 rfl) ?_
              refine xg_ald S hK hG (b + 10) (show ws[b + 10]? = some (ad (b + 10), .inl (cI, 6, .inl (A 9))) from hM.2.1 9 (by decide)) (i := nI k) (by first | assumption | exact vp_in_nI (by omega) (by decide)) dX8_holdsAll_56 ?_
              refine lv_icmp_ne (tgt := 64) hx hb dX8_holdsAll_57 (by decide) (fun c57 => ?_) (fun c57 => ?_)
              · skip
                refine lv_iconst (v := 0) hx hb dX8_holdsAll_64 (by decide) ?_
                exact jn65_1 _ (by rw [if_neg c15]; rw [if_pos c26]; rw [if_pos c42]; rw [if_neg c57])
              · skip
                refine lv_iconst (v := 1) hx hb dX8_holdsAll_60 (by decide) ?_
                refine lv_goto (tgt := 65) hx hb dX8_holdsAll_61 (by decide) ?_
                exact jn65_1 _ (by rw [if_neg c15]; rw [if_pos c26]; rw [if_pos c42]; rw [if_pos c57])
  exact lp5 (ns + 1) 0 (by omega) (by omega) 1 (by skip; rfl) 0 (by skip; rfl) ls (lv_sub hl [2, 3, 4, 1, 0] rfl)
set_option maxHeartbeats 4000000 in
set_option maxRecDepth 100000 in
theorem mX8_prides (l : Launch) (D : va_G) (cI cZ : ClassId) (bs : Nat) (ad : Nat → Nat) (ws : va_W) (b : Nat) (A : Nat → Nat → Int32) (I : Nat → Int32) (L : Int64) (hM : xv_M cI cZ ad ws b A I L) (p : Int32) (w9 : Int32) (ns : Nat) (hns : I 18 = nI ns) (hn6 : ns ≤ 6) : Met l yX8_prides wsX8_prides ({ frames := 4, cells := 0, slots := 0, locals := 93 } : Room) (va_Pc [.ref (ad b), .int p, .int w9] (fun U => xg_W D cI cZ bs ws U)) (xg_Ri (fun r : Int32 => r = em_pri A I p w9 ns)) 0 0 xg_F := by
  refine xg_met cX8_prides 7 (some .int) RX8 (by decide) rfl rfl (Nat.le_of_ble_eq_true rfl) ?_
  intro pg en s m below meth c ls S hr hlk hnm hB hl
  have hK := hB.1
  have hG := xg_start hB
  obtain ⟨hx, hb, hml, hown, hts⟩ := id S
  have hl : lv_has ls 7 [(0, .ref (ad b)), (1, .int p), (2, .int w9)] := hl
  obtain ⟨Q, hQ⟩ : ∃ Q, Q = MQ below (xg_Ri (fun r : Int32 => r = em_pri A I p w9 ns)) ([.ref (ad b), .int p, .int w9] : List Value).toArray s 0 0 xg_F := ⟨_, rfl⟩
  rw [← hQ]
  have k0 := hts (.constantLong RX8 231 (2)) (List.mem_of_getElem? (i := 1) rfl)
  refine lv_aload_n hx hb dX8_prides_0 rfl (lv_at hl 0 rfl) ?_
  refine lv_iload_n hx hb dX8_prides_1 rfl (lv_at hl 1 rfl) ?_
  refine xg_ri (va_runV (As := [.int p]) (rest := []) S (mX8_isThere l D cI cZ bs ad ws b A I L hM p) (cwV 1 hts gX8_prides_X8_isThere rfl rfl rfl (by decide +kernel) ⟨Nat.le_of_ble_eq_true rfl, Nat.le_of_ble_eq_true rfl⟩) (xg_preV hK hG b hM.1 rfl rfl) rfl rfl hl.1 rfl (lv_room (Nat.le_of_ble_eq_true rfl)) dX8_prides_2 ⟨Nat.zero_le _, Nat.zero_le _⟩) (fun r1 hr1 => ?_)
  replace hr1 := hr1.symm; subst hr1
  refine xb_ifne (tgt := 10) S dX8_prides_5 (by decide) (fun c5 => ?_) (fun c5 => ?_)
  · skip
    refine lv_iload_n hx hb dX8_prides_10 rfl (lv_at hl 2 rfl) ?_
    refine lv_i2l (v := w9.toInt64) hx hb dX8_prides_11 rfl ?_
    refine lv_lconst (v := 0) hx hb dX8_prides_12 (by decide) ?_
    refine lv_ldc2 (v := 2) hx hb hown k0 dX8_prides_13 ?_
    refine xg_ri (va_runS (As := [.long w9.toInt64, .long 0, .long 2]) (rest := []) S (mX8_in l D cI cZ bs ad ws w9.toInt64 0 2) (va_cwS 3 hts gX8_prides_X8_in rfl rfl rfl (by decide +kernel) ⟨Nat.le_of_ble_eq_true rfl, Nat.le_of_ble_eq_true rfl⟩) (xg_preS hK hG) rfl rfl hl.1 rfl (lv_room (Nat.le_of_ble_eq_true rfl)) dX8_prides_16 ⟨Nat.zero_le _, Nat.zero_le _⟩) (fun r2 hr2 => ?_)
    replace hr2 := hr2.symm; subst hr2
    rw [xw_inL_lit w9 0 2 0 2 (by decide) (by decide)]
    refine xb_ifne (tgt := 25) S dX8_prides_19 (by decide) (fun c19 => ?_) (fun c19 => ?_)
    · skip
      refine lv_iconst (v := 0) hx hb dX8_prides_25 (by decide) ?_
      refine lv_istore_n (lv' := [(3, .int 0), (0, .ref (ad b)), (1, .int p), (2, .int w9)]) hx hb dX8_prides_26 rfl hl (by decide) rfl (fun ls hl => ?_)
      refine lv_bipush (v := (-6)) hx hb dX8_prides_27 (by decide) ?_
      refine lv_istore (lv' := [(4, .int (-6)), (3, .int 0), (0, .ref (ad b)), (1, .int p), (2, .int w9)]) hx hb dX8_prides_29 hl (by decide) rfl (fun ls hl => ?_)
      refine lv_bipush (v := (-6)) hx hb dX8_prides_31 (by decide) ?_
      refine lv_istore (lv' := [(5, .int (-6)), (4, .int (-6)), (3, .int 0), (0, .ref (ad b)), (1, .int p), (2, .int w9)]) hx hb dX8_prides_33 hl (by decide) rfl (fun ls hl => ?_)
      refine lv_iconst (v := 0) hx hb dX8_prides_35 (by decide) ?_
      refine lv_istore (lv' := [(6, .int 0), (5, .int (-6)), (4, .int (-6)), (3, .int 0), (0, .ref (ad b)), (1, .int p), (2, .int w9)]) hx hb dX8_prides_36 hl (by decide) rfl (fun ls hl => ?_)
      -- the loop at 38
      have lp38 : ∀ (fu : Nat) (k : Nat), (k ≤ 10) → (11 ≤ k + fu) → ∀ y38_3 : Int32, y38_3 = (em_prk A I p ns k).1 → ∀ y38_4 : Int32, y38_4 = (em_prk A I p ns k).2.1 → ∀ y38_5 : Int32, y38_5 = (em_prk A I p ns k).2.2 → ∀ y38_6 : Int32, y38_6 = nI k → ∀ (ls : Array Slot), lv_has ls 7 [(0, .ref (ad b)), (1, .int p), (2, .int w9), (3, .int y38_3), (4, .int y38_4), (5, .int y38_5), (6, .int y38_6)] → W pg l en ({ frames := 4, cells := 0, slots := 0, locals := 93 } : Room) s m ([.ref (ad b), .int p, .int w9] : List Value).toArray below meth c s.heap [] 0 0 Q (F0 m 38 ls []) := by
        intro fu
        induction fu with
        | zero =>
          intro k hk hf
          exact absurd hf (by omega)
        | succ fu ih38 =>
          intro k hk hf y38_3 ey38_3 y38_4 ey38_4 y38_5 ey38_5 y38_6 ey38_6
          intro ls hl
          replace ey38_3 := ey38_3.symm; subst ey38_3
          replace ey38_4 := ey38_4.symm; subst ey38_4
          replace ey38_5 := ey38_5.symm; subst ey38_5
          replace ey38_6 := ey38_6.symm; subst ey38_6
          refine lv_iload hx hb dX8_prides_38 (lv_at hl 6 rfl) ?_
          refine lv_bipush (v := 10) hx hb dX8_prides_40 (by decide) ?_
          refine lv_icmp_ge (tgt := 81) hx hb dX8_prides_42 (by decide) (fun c42 => ?_) (fun c42 => ?_)
          · skip
            have hk9 : k = 10 := by have := xb_le (k := k) (n := 10) (by omega) (by decide) c42; omega
            refine lv_iload_n hx hb dX8_prides_81 rfl (lv_at hl 2 rfl) ?_
            refine lv_if_ne (tgt := 89) hx hb dX8_prides_82 (by decide) (fun c82 => ?_) (fun c82 => ?_)
            · skip
              refine lv_iload_n hx hb dX8_prides_89 rfl (lv_at hl 2 rfl) ?_
              refine lv_iconst (v := 1) hx hb dX8_prides_90 (by decide) ?_
              refine lv_icmp_ne (tgt := 99) hx hb dX8_prides_91 (by decide) (fun c91 => ?_) (fun c91 => ?_)
              · skip
                refine lv_iload hx hb dX8_prides_99 (lv_at hl 5 rfl) ?_
                rw [hQ]
                exact xg_eri S hr hlk (by skip; rw [hk9]; unfold em_pri; rw [if_pos c5, if_pos c19]; simp only [c5, c19, c42, c82, c91, xs_10, if_true, if_false]) dX8_prides_101
              · skip
                refine lv_iload hx hb dX8_prides_94 (lv_at hl 4 rfl) ?_
                refine lv_goto (tgt := 101) hx hb dX8_prides_96 (by decide) ?_
                rw [hQ]
                exact xg_eri S hr hlk (by skip; rw [hk9]; unfold em_pri; rw [if_pos c5, if_pos c19]; simp only [c5, c19, c42, c82, c91, xs_10, if_true, if_false]) dX8_prides_101
            · skip
              refine lv_iload_n hx hb dX8_prides_85 rfl (lv_at hl 3 rfl) ?_
              refine lv_goto (tgt := 101) hx hb dX8_prides_86 (by decide) ?_
              rw [hQ]
              exact xg_eri S hr hlk (by skip; rw [hk9]; unfold em_pri; rw [if_pos c5, if_pos c19]; simp only [c5, c19, c42, c82, xs_10, if_true, if_false]) dX8_prides_101
          · skip
            have hk9 : k < 10 := xb_lt (by omega) (by decide) c42
            refine lv_aload_n hx hb dX8_prides_45 rfl (lv_at hl 0 rfl) ?_
            refine lv_iload_n hx hb dX8_prides_46 rfl (lv_at hl 1 rfl) ?_
            refine lv_iload hx hb dX8_prides_47 (lv_at hl 6 rfl) ?_
            refine xg_ri (va_runV (As := [.int p, .int (nI k)]) (rest := []) S (mX8_holdsAll l D cI cZ bs ad ws b A I L hM p (nI k) (em_isT_in c5) ns (by first | assumption | omega) (by first | assumption | omega)) (cwV 2 hts gX8_prides_X8_holdsAll rfl rfl rfl (by decide +kernel) ⟨Nat.le_of_ble_eq_true rfl, Nat.le_of_ble_eq_true rfl⟩) (xg_preV hK hG b hM.1 rfl rfl) rfl rfl hl.1 rfl (lv_room (Nat.le_of_ble_eq_true rfl)) dX8_prides_49 ⟨Nat.zero_le _, Nat.zero_le _⟩) (fun r3 hr3 => ?_)
            replace hr3 := hr3.symm; subst hr3
            refine xb_ifeq (tgt := 75) S dX8_prides_52 (by decide) (fun c52 => ?_) (fun c52 => ?_)
            · skip
              obtain ⟨x4, ex4⟩ : ∃ zz : Int32, ((nI k) + 1) = zz := ⟨_, rfl⟩
              refine lv_iinc (v := x4) (lv' := [(6, .int x4), (0, .ref (ad b)), (1, .int p), (2, .int w9), (3, .int ((em_prk A I p ns k).1)), (4, .int ((em_prk A I p ns k).2.1)), (5, .int ((em_prk A I p ns k).2.2))]) hx hb dX8_prides_75 hl (k := 6) rfl (by rw [← ex4]; rfl) (by decide) rfl (fun ls hl => ?_)
              refine lv_goto (tgt := 38) hx hb dX8_prides_78 (by decide) ?_
              exact ih38 (k + 1) (by omega) (by omega) ((em_prk A I p ns k).1) (by subst ex4; simp only [em_prk, c5, c19, c42, c52, if_true, if_false, Bool.false_eq_true]) ((em_prk A I p ns k).2.1) (by subst ex4; simp only [em_prk, c5, c19, c42, c52, if_true, if_false, Bool.false_eq_true]) ((em_prk A I p ns k).2.2) (by subst ex4; simp only [em_prk, c5, c19, c42, c52, if_true, if_false, Bool.false_eq_true]) x4 (by subst ex4; exact nI_1 k) ls (lv_sub hl [1, 2, 3, 4, 5, 6, 0] rfl)
            · skip
              refine lv_iload_n hx hb dX8_prides_55 rfl (lv_at hl 3 rfl) ?_
              have jn66_5 : ∀ v5 : Int32, v5 = ((if ((em_prk A I p ns k).1) = 0 then nI k else (em_prk A I p ns k).2.1) : Int32) → W pg l en ({ frames := 4, cells := 0, slots := 0, locals := 93 } : Room) s m ([.ref (ad b), .int p, .int w9] : List Value).toArray below meth c s.heap [] 0 0 Q (F0 m 66 ls [.int v5]) := by
                intro v5 ev5
                replace ev5 := ev5.symm
                refine lv_istore (lv' := [(4, .int v5), (0, .ref (ad b)), (1, .int p), (2, .int w9), (3, .int ((em_prk A I p ns k).1)), (5, .int ((em_prk A I p ns k).2.2)), (6, .int (nI k))]) hx hb dX8_prides_66 hl (by decide) rfl (fun ls hl => ?_)
                refine lv_iload hx hb dX8_prides_68 (lv_at hl 6 rfl) ?_
                refine lv_istore (lv' := [(5, .int (nI k)), (4, .int v5), (0, .ref (ad b)), (1, .int p), (2, .int w9), (3, .int ((em_prk A I p ns k).1)), (6, .int (nI k))]) hx hb dX8_prides_70 hl (by decide) rfl (fun ls hl => ?_)
                obtain ⟨x6, ex6⟩ : ∃ zz : Int32, (((em_prk A I p ns k).1) + 1) = zz := ⟨_, rfl⟩
                refine lv_iinc (v := x6) (lv' := [(3, .int x6), (5, .int (nI k)), (4, .int v5), (0, .ref (ad b)), (1, .int p), (2, .int w9), (6, .int (nI k))]) hx hb dX8_prides_72 hl (k := 5) rfl (by rw [← ex6]; rfl) (by decide) rfl (fun ls hl => ?_)
                obtain ⟨x7, ex7⟩ : ∃ zz : Int32, ((nI k) + 1) = zz := ⟨_, rfl⟩
                refine lv_iinc (v := x7) (lv' := [(6, .int x7), (3, .int x6), (5, .int (nI k)), (4, .int v5), (0, .ref (ad b)), (1, .int p), (2, .int w9)]) hx hb dX8_prides_75 hl (k := 6) rfl (by rw [← ex7]; rfl) (by decide) rfl (fun ls hl => ?_)
                refine lv_goto (tgt := 38) hx hb dX8_prides_78 (by decide) ?_
                exact ih38 (k + 1) (by omega) (by omega) x6 (by subst ev5 ex6 ex7; simp only [em_prk, c5, c19, c42, c52, if_true, if_false, Bool.false_eq_true]) v5 (by subst ev5 ex6 ex7; simp only [em_prk, c5, c19, c42, c52, if_true, if_false, Bool.false_eq_true]) (nI k) (by subst ev5 ex6 ex7; simp only [em_prk, c5, c19, c42, c52, if_true, if_false, Bool.false_eq_true]) x7 (by subst ev5 ex6 ex7; exact nI_1 k) ls (lv_sub hl [4, 5, 6, 1, 3, 2, 0] rfl)
              refine lv_if_ne (tgt := 64) hx hb dX8_prides_56 (by decide) (fun c56 => ?_) (fun c56 => ?_)
              · skip
                refine lv_iload hx hb dX8_prides_64 (lv_at hl 4 rfl) ?_
                exact jn66_5 _ (by rw [if_neg c56])
              · skip
                refine lv_iload hx hb dX8_prides_59 (lv_at hl 6 rfl) ?_
                refine lv_goto (tgt := 66) hx hb dX8_prides_61 (by decide) ?_
                exact jn66_5 _ (by rw [if_pos c56])
      exact lp38 11 0 (by omega) (by omega) 0 (by skip; rfl) (-6) (by skip; rfl) (-6) (by skip; rfl) 0 (by skip; rfl) ls (lv_sub hl [4, 5, 6, 3, 2, 1, 0] rfl)
    · skip
      refine lv_bipush (v := (-2)) hx hb dX8_prides_22 (by decide) ?_
      rw [hQ]
      exact xg_eri S hr hlk (by skip; simp only [em_pri, c5, c19, if_true, if_false, Bool.false_eq_true]) dX8_prides_24
  · skip
    refine lv_iconst (v := (-1)) hx hb dX8_prides_8 (by decide) ?_
    rw [hQ]
    exact xg_eri S hr hlk (by skip; simp only [em_pri, c5, if_true, if_false, Bool.false_eq_true]) dX8_prides_9
