set_option maxHeartbeats 4000000 in
set_option maxRecDepth 100000 in
theorem mX8_ties (l : Launch) (D : va_G) (cI cZ : ClassId) (bs : Nat) (ad : Nat → Nat) (ws : va_W) (b : Nat) (A : Nat → Nat → Int32) (I : Nat → Int32) (L : Int64) (hM : xv_M cI cZ ad ws b A I L) (w9 : Int32) (n : Nat) (hn : I 20 = nI n) (hn60 : n ≤ 60) (e : Nat) (he : (em_rfG A I n).2 25 = nI e) (he60 : e ≤ 60) : Met l yX8_ties wsX8_ties ({ frames := 6, cells := 0, slots := 0, locals := 131 } : Room) (va_Pc [.ref (ad b), .int w9] (fun U => xg_W D cI cZ bs ws U)) (va_Qi (fun (r : Int32) (w : va_W) => r = em_tie A I n e w9 ∧ xv_M cI cZ ad w b ((em_tiG A I n w9).1) ((em_tiG A I n w9).2) L ∧ xv_S ws w b 24) (fun w t => xg_W D cI cZ bs w t) (xg_A bs)) 0 0 (xg_A bs) := by
  refine xg_met cX8_ties 7 (some .int) RX8 (by decide) rfl rfl (Nat.le_of_ble_eq_true rfl) ?_
  intro pg en s m below meth c ls S hr hlk hnm hB hl
  have hK := hB.1
  have hG := xg_start hB
  obtain ⟨hx, hb, hml, hown, hts⟩ := id S
  have hl : lv_has ls 7 [(0, .ref (ad b)), (1, .int w9)] := hl
  obtain ⟨Q, hQ⟩ : ∃ Q, Q = MQ below (va_Qi (fun (r : Int32) (w : va_W) => r = em_tie A I n e w9 ∧ xv_M cI cZ ad w b ((em_tiG A I n w9).1) ((em_tiG A I n w9).2) L ∧ xv_S ws w b 24) (fun w t => xg_W D cI cZ bs w t) (xg_A bs)) ([.ref (ad b), .int w9] : List Value).toArray s 0 0 (xg_A bs) := ⟨_, rfl⟩
  rw [← hQ]
  refine lv_iload_n hx hb dX8_ties_0 rfl (lv_at hl 1 rfl) ?_
  refine lv_i2l (v := w9.toInt64) hx hb dX8_ties_1 rfl ?_
  refine lv_lconst (v := 0) hx hb dX8_ties_2 (by decide) ?_
  refine lv_lconst (v := 1) hx hb dX8_ties_3 (by decide) ?_
  refine xg_ri (va_runS (As := [.long w9.toInt64, .long 0, .long 1]) (rest := []) S (mX8_in l D cI cZ bs ad ws w9.toInt64 0 1) (va_cwS 3 hts gX8_ties_X8_in rfl rfl rfl (by decide +kernel) ⟨Nat.le_of_ble_eq_true rfl, Nat.le_of_ble_eq_true rfl⟩) (xg_preS hK hG) rfl rfl hl.1 rfl (lv_room (Nat.le_of_ble_eq_true rfl)) dX8_ties_4 ⟨Nat.zero_le _, Nat.zero_le _⟩) (fun r1 hr1 => ?_)
  replace hr1 := hr1.symm; subst hr1
  rw [xw_inL_lit w9 0 1 0 1 (by decide) (by decide)]
  refine xb_ifne (tgt := 13) S dX8_ties_7 (by decide) (fun c7 => ?_) (fun c7 => ?_)
  · skip
    refine lv_aload_n hx hb dX8_ties_13 rfl (lv_at hl 0 rfl) ?_
    refine xg_mi (va_runV (As := []) (rest := []) S (mX8_refusal l D cI cZ bs ad ws b A I L hM n hn hn60) (cwV 0 hts gX8_ties_X8_refusal rfl rfl rfl (by decide +kernel) ⟨Nat.le_of_ble_eq_true rfl, Nat.le_of_ble_eq_true rfl⟩) (xg_preV hK hG b hM.1 rfl rfl) rfl rfl hl.1 rfl (lv_room (Nat.le_of_ble_eq_true rfl)) dX8_ties_14 ⟨Nat.zero_le _, Nat.zero_le _⟩) hG (fun r2 w3 H locs hr2 hG => ?_)
    obtain ⟨hr2, hvw3_0, hsw3⟩ := hr2
    replace hr2 := hr2.symm; subst hr2
    have hM : xv_M cI cZ ad w3 b ((em_rfG A I n).1) ((em_rfG A I n).2) L := hvw3_0
    obtain ⟨A4, eA4⟩ : ∃ zz : Nat → Nat → Int32, ((em_rfG A I n).1) = zz := ⟨_, rfl⟩
    rw [eA4] at hM
    obtain ⟨I5, eI5⟩ : ∃ zz : Nat → Int32, ((em_rfG A I n).2) = zz := ⟨_, rfl⟩
    rw [eI5] at hM
    have hSw3 : xv_S ws w3 b 24 := hsw3.mono (by omega) (by omega)
    refine lv_topi (fun x6 ex6 => ?_)
    replace ex6 := ex6.symm
    refine lv_istore_n (lv' := [(2, .int x6), (0, .ref (ad b)), (1, .int w9)]) hx hb dX8_ties_17 rfl hl (by decide) rfl (fun ls hl => ?_)
    refine lv_iload_n hx hb dX8_ties_18 rfl (lv_at hl 0 rfl) ?_
    refine lv_bipush (v := (-6)) hx hb dX8_ties_19 (by decide) ?_
    refine lv_icmp_eq (tgt := 26) hx hb dX8_ties_21 (by decide) (fun c21 => ?_) (fun c21 => ?_)
    · skip
      refine lv_bipush (v := (-6)) hx hb dX8_ties_26 (by decide) ?_
      refine lv_istore_n (lv' := [(3, .int (-6)), (2, .int x6), (0, .ref (ad b)), (1, .int w9)]) hx hb dX8_ties_28 rfl hl (by decide) rfl (fun ls hl => ?_)
      refine lv_iconst (v := 0) hx hb dX8_ties_29 (by decide) ?_
      refine lv_istore (lv' := [(4, .int 0), (3, .int (-6)), (2, .int x6), (0, .ref (ad b)), (1, .int w9)]) hx hb dX8_ties_30 hl (by decide) rfl (fun ls hl => ?_)
      refine lv_iconst (v := 0) hx hb dX8_ties_32 (by decide) ?_
      refine lv_istore (lv' := [(5, .int 0), (4, .int 0), (3, .int (-6)), (2, .int x6), (0, .ref (ad b)), (1, .int w9)]) hx hb dX8_ties_33 hl (by decide) rfl (fun ls hl => ?_)
      -- the loop at 35
      have lp35 : ∀ (fu : Nat) (k : Nat), (k ≤ 36) → (37 ≤ k + fu) → ∀ y35_3 : Int32, y35_3 = (em_tik (em_rfG A I n).1 e k).1 → ∀ y35_4 : Int32, y35_4 = (em_tik (em_rfG A I n).1 e k).2 → ∀ y35_5 : Int32, y35_5 = nI k → ∀ (ls : Array Slot), lv_has ls 7 [(0, .ref (ad b)), (1, .int w9), (2, .int x6), (3, .int y35_3), (4, .int y35_4), (5, .int y35_5)] → W pg l en ({ frames := 6, cells := 0, slots := 0, locals := 131 } : Room) s m ([.ref (ad b), .int w9] : List Value).toArray below meth c H locs 0 0 Q (F0 m 35 ls []) := by
        intro fu
        induction fu with
        | zero =>
          intro k hk hf
          exact absurd hf (by omega)
        | succ fu ih35 =>
          intro k hk hf y35_3 ey35_3 y35_4 ey35_4 y35_5 ey35_5
          intro ls hl
          replace ey35_3 := ey35_3.symm; subst ey35_3
          replace ey35_4 := ey35_4.symm; subst ey35_4
          replace ey35_5 := ey35_5.symm; subst ey35_5
          refine lv_iload hx hb dX8_ties_35 (lv_at hl 5 rfl) ?_
          refine lv_bipush (v := 36) hx hb dX8_ties_37 (by decide) ?_
          refine lv_icmp_ge (tgt := 99) hx hb dX8_ties_39 (by decide) (fun c39 => ?_) (fun c39 => ?_)
          · skip
            have hk9 : k = 36 := by have := xb_le (k := k) (n := 36) (by omega) (by decide) c39; omega
            refine lv_iload_n hx hb dX8_ties_99 rfl (lv_at hl 3 rfl) ?_
            refine lv_if_lt (tgt := 107) hx hb dX8_ties_100 (by decide) (fun c100 => ?_) (fun c100 => ?_)
            · skip
              refine lv_iload_n hx hb dX8_ties_107 rfl (lv_at hl 3 rfl) ?_
              refine lv_goto (tgt := 113) hx hb dX8_ties_108 (by decide) ?_
              rw [hQ]
              exact xg_emi S hr hlk hK hG ⟨(by subst eA4 eI5 ex6; subst hk9; unfold em_tie em_tiw; rw [if_pos c7, if_pos c21]; simp only [c7, c21, c39, c100, if_true, if_false]), (by rw [show ((em_tiG A I n w9).1) = A4 from (by subst eA4 eI5 ex6; unfold em_tiG; simp only [c7, if_true, if_false, Bool.false_eq_true])]; rw [show ((em_tiG A I n w9).2) = I5 from (by subst eA4 eI5 ex6; unfold em_tiG; simp only [c7, if_true, if_false, Bool.false_eq_true])]; exact hM), hSw3⟩ dX8_ties_113
            · skip
              refine lv_iload_n hx hb dX8_ties_103 rfl (lv_at hl 1 rfl) ?_
              refine lv_if_ne (tgt := 111) hx hb dX8_ties_104 (by decide) (fun c104 => ?_) (fun c104 => ?_)
              · skip
                refine lv_iload hx hb dX8_ties_111 (lv_at hl 4 rfl) ?_
                rw [hQ]
                exact xg_emi S hr hlk hK hG ⟨(by subst eA4 eI5 ex6; subst hk9; unfold em_tie em_tiw; rw [if_pos c7, if_pos c21]; simp only [c7, c21, c39, c100, c104, if_true, if_false]), (by rw [show ((em_tiG A I n w9).1) = A4 from (by subst eA4 eI5 ex6; unfold em_tiG; simp only [c7, if_true, if_false, Bool.false_eq_true])]; rw [show ((em_tiG A I n w9).2) = I5 from (by subst eA4 eI5 ex6; unfold em_tiG; simp only [c7, if_true, if_false, Bool.false_eq_true])]; exact hM), hSw3⟩ dX8_ties_113
              · skip
                refine lv_iload_n hx hb dX8_ties_107 rfl (lv_at hl 3 rfl) ?_
                refine lv_goto (tgt := 113) hx hb dX8_ties_108 (by decide) ?_
                rw [hQ]
                exact xg_emi S hr hlk hK hG ⟨(by subst eA4 eI5 ex6; subst hk9; unfold em_tie em_tiw; rw [if_pos c7, if_pos c21]; simp only [c7, c21, c39, c100, c104, if_true, if_false]), (by rw [show ((em_tiG A I n w9).1) = A4 from (by subst eA4 eI5 ex6; unfold em_tiG; simp only [c7, if_true, if_false, Bool.false_eq_true])]; rw [show ((em_tiG A I n w9).2) = I5 from (by subst eA4 eI5 ex6; unfold em_tiG; simp only [c7, if_true, if_false, Bool.false_eq_true])]; exact hM), hSw3⟩ dX8_ties_113
          · skip
            have hk9 : k < 36 := xb_lt (by omega) (by decide) c39
            refine lv_aload_n hx hb dX8_ties_42 rfl (lv_at hl 0 rfl) ?_
            refine lv_iload hx hb dX8_ties_43 (lv_at hl 5 rfl) ?_
            refine lv_bipush (v := 6) hx hb dX8_ties_45 (by decide) ?_
            refine lv_idiv hx hb dX8_ties_47 (by decide) ?_
            refine lv_iload hx hb dX8_ties_48 (lv_at hl 5 rfl) ?_
            refine lv_bipush (v := 6) hx hb dX8_ties_50 (by decide) ?_
            refine lv_irem hx hb dX8_ties_52 (by decide) ?_
            refine xg_ri (va_runV (As := [.int ((nI k) / 6), .int ((nI k) - (nI k) / 6 * 6)]) (rest := []) S (mX8_daresOf l D cI cZ bs ad w3 b A4 I5 L hM ((nI k) / 6) ((nI k) - (nI k) / 6 * 6) e (by subst eA4 eI5 ex6; exact he) he60) (cwV 2 hts gX8_ties_X8_daresOf rfl rfl rfl (by decide +kernel) ⟨Nat.le_of_ble_eq_true rfl, Nat.le_of_ble_eq_true rfl⟩) (xg_preV hK hG b hM.1 rfl rfl) rfl rfl hl.1 rfl (lv_room (Nat.le_of_ble_eq_true rfl)) dX8_ties_53 ⟨Nat.zero_le _, Nat.zero_le _⟩) (fun r7 hr7 => ?_)
            replace hr7 := hr7.symm; subst hr7
            refine lv_topi (fun x8 ex8 => ?_)
            replace ex8 := ex8.symm
            refine lv_istore (lv' := [(6, .int x8), (0, .ref (ad b)), (1, .int w9), (2, .int x6), (3, .int ((em_tik (em_rfG A I n).1 e k).1)), (4, .int ((em_tik (em_rfG A I n).1 e k).2)), (5, .int (nI k))]) hx hb dX8_ties_56 hl (by decide) rfl (fun ls hl => ?_)
            refine lv_iload hx hb dX8_ties_58 (lv_at hl 0 rfl) ?_
            refine lv_iload hx hb dX8_ties_60 (lv_at hl 5 rfl) ?_
            have jn83_9 : ∀ v9 : Int32, v9 = ((if x8 ≤ ((em_tik (em_rfG A I n).1 e k).2) then (em_tik (em_rfG A I n).1 e k).1 else (10 * ((nI k) / 6)) + ((nI k) - (nI k) / 6 * 6)) : Int32) → W pg l en ({ frames := 6, cells := 0, slots := 0, locals := 131 } : Room) s m ([.ref (ad b), .int w9] : List Value).toArray below meth c H locs 0 0 Q (F0 m 83 ls [.int v9]) := by
              intro v9 ev9
              replace ev9 := ev9.symm
              refine lv_istore_n (lv' := [(3, .int v9), (6, .int x8), (0, .ref (ad b)), (1, .int w9), (2, .int x6), (4, .int ((em_tik (em_rfG A I n).1 e k).2)), (5, .int (nI k))]) hx hb dX8_ties_83 rfl hl (by decide) rfl (fun ls hl => ?_)
              refine lv_iload hx hb dX8_ties_84 (lv_at hl 5 rfl) ?_
              refine lv_iload hx hb dX8_ties_86 (lv_at hl 1 rfl) ?_
              refine xg_ri (va_runS (As := [.int ((em_tik (em_rfG A I n).1 e k).2), .int x8]) (rest := []) S (mX8_most l D cI cZ bs ad w3 ((em_tik (em_rfG A I n).1 e k).2) x8) (va_cwS 2 hts gX8_ties_X8_most rfl rfl rfl (by decide +kernel) ⟨Nat.le_of_ble_eq_true rfl, Nat.le_of_ble_eq_true rfl⟩) (xg_preS hK hG) rfl rfl hl.1 rfl (lv_room (Nat.le_of_ble_eq_true rfl)) dX8_ties_88 ⟨Nat.zero_le _, Nat.zero_le _⟩) (fun r10 hr10 => ?_)
              replace hr10 := hr10.symm; subst hr10
              refine lv_topi (fun x11 ex11 => ?_)
              replace ex11 := ex11.symm
              refine lv_istore (lv' := [(4, .int x11), (3, .int v9), (6, .int x8), (0, .ref (ad b)), (1, .int w9), (2, .int x6), (5, .int (nI k))]) hx hb dX8_ties_91 hl (by decide) rfl (fun ls hl => ?_)
              obtain ⟨x12, ex12⟩ : ∃ zz : Int32, ((nI k) + 1) = zz := ⟨_, rfl⟩
              refine lv_iinc (v := x12) (lv' := [(5, .int x12), (4, .int x11), (3, .int v9), (6, .int x8), (0, .ref (ad b)), (1, .int w9), (2, .int x6)]) hx hb dX8_ties_93 hl (k := 6) rfl (by rw [← ex12]; rfl) (by decide) rfl (fun ls hl => ?_)
              refine lv_goto (tgt := 35) hx hb dX8_ties_96 (by decide) ?_
              exact ih35 (k + 1) (by omega) (by omega) v9 (by subst eA4 eI5 ex6 ex8 ev9 ex11 ex12; rfl) x11 (by subst eA4 eI5 ex6 ex8 ev9 ex11 ex12; rfl) x12 (by subst eA4 eI5 ex6 ex8 ev9 ex11 ex12; exact nI_1 k) ls (lv_sub hl [4, 5, 6, 2, 1, 0] rfl)
            refine lv_icmp_le (tgt := 82) hx hb dX8_ties_62 (by decide) (fun c62 => ?_) (fun c62 => ?_)
            · skip
              refine lv_iload_n hx hb dX8_ties_82 rfl (lv_at hl 4 rfl) ?_
              exact jn83_9 _ (by rw [if_pos c62])
            · skip
              refine lv_bipush (v := 10) hx hb dX8_ties_65 (by decide) ?_
              refine lv_iload hx hb dX8_ties_67 (lv_at hl 6 rfl) ?_
              refine lv_bipush (v := 6) hx hb dX8_ties_69 (by decide) ?_
              refine lv_idiv hx hb dX8_ties_71 (by decide) ?_
              refine lv_imul hx hb dX8_ties_72 ?_
              refine lv_iload hx hb dX8_ties_73 (lv_at hl 6 rfl) ?_
              refine lv_bipush (v := 6) hx hb dX8_ties_75 (by decide) ?_
              refine lv_irem hx hb dX8_ties_77 (by decide) ?_
              refine lv_iadd hx hb dX8_ties_78 ?_
              refine lv_goto (tgt := 83) hx hb dX8_ties_79 (by decide) ?_
              exact jn83_9 _ (by rw [if_neg c62])
      exact lp35 37 0 (by omega) (by omega) (-6) (by subst eA4 eI5 ex6; rfl) 0 (by subst eA4 eI5 ex6; rfl) 0 (by subst eA4 eI5 ex6; rfl) ls (lv_sub hl [4, 5, 3, 2, 1, 0] rfl)
    · skip
      refine lv_iload_n hx hb dX8_ties_24 rfl (lv_at hl 0 rfl) ?_
      rw [hQ]
      exact xg_emi S hr hlk hK hG ⟨(by subst eA4 eI5 ex6; simp only [em_tie, c7, c21, if_true, if_false, Bool.false_eq_true]), (by rw [show ((em_tiG A I n w9).1) = A4 from (by subst eA4 eI5 ex6; unfold em_tiG; simp only [c7, if_true, if_false, Bool.false_eq_true])]; rw [show ((em_tiG A I n w9).2) = I5 from (by subst eA4 eI5 ex6; unfold em_tiG; simp only [c7, if_true, if_false, Bool.false_eq_true])]; exact hM), hSw3⟩ dX8_ties_25
  · skip
    refine lv_bipush (v := (-2)) hx hb dX8_ties_10 (by decide) ?_
    rw [hQ]
    exact xg_emi S hr hlk hK hG ⟨(by skip; simp only [em_tie, c7, if_true, if_false, Bool.false_eq_true]), (by rw [show ((em_tiG A I n w9).1) = A from (by skip; unfold em_tiG; simp only [c7, if_true, if_false, Bool.false_eq_true])]; rw [show ((em_tiG A I n w9).2) = I from (by skip; unfold em_tiG; simp only [c7, if_true, if_false, Bool.false_eq_true])]; exact hM), xv_S.rf⟩ dX8_ties_12
