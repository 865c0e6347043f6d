set_option maxHeartbeats 4000000 in
set_option maxRecDepth 100000 in
theorem mX8_goSummer (l : Launch) (D : va_G) (cI cZ : ClassId) (bs : Nat) (ad : Nat → Nat) (ws : va_W) (b : Nat) (A : Nat → Nat → Int32) (I : Nat → Int32) (L : Int64) (hM : xv_M cI cZ ad ws b A I L) (e : Nat) (he : I 25 = nI e) (he60 : e ≤ 60) : Met l yX8_goSummer wsX8_goSummer ({ frames := 4, cells := 0, slots := 0, locals := 89 } : Room) (va_Pc [.ref (ad b)] (fun U => xg_W D cI cZ bs ws U)) (va_Qv (fun w : va_W => xv_M cI cZ ad w b ((em_gos A I).1) ((em_gos A I).2) L ∧ xv_S ws w b 24) (fun w t => xg_W D cI cZ bs w t) (xg_A bs)) 0 0 (xg_A bs) := by
  refine xg_met cX8_goSummer 3 none RX8 (by decide) rfl rfl (Nat.le_of_ble_eq_true rfl) ?_
  intro pg en s m below meth c ls S hr hlk hnm hB hl
  have hK := hB.1
  have hG := xg_start hB
  obtain ⟨hx, hb, hml, hown, hts⟩ := id S
  have hl : lv_has ls 3 [(0, .ref (ad b))] := hl
  obtain ⟨Q, hQ⟩ : ∃ Q, Q = MQ below (va_Qv (fun w : va_W => xv_M cI cZ ad w b ((em_gos A I).1) ((em_gos A I).2) L ∧ xv_S ws w b 24) (fun w t => xg_W D cI cZ bs w t) (xg_A bs)) ([.ref (ad b)] : List Value).toArray s 0 0 (xg_A bs) := ⟨_, rfl⟩
  rw [← hQ]
  have k0 := hts (.fieldLink RX8 200 "DareBridgeModel" "badEvent" "I") (List.mem_of_getElem? (i := 1) rfl)
  have k1 := hts (.fieldLink RX8 203 "DareBridgeModel" "badWhy" "I") (List.mem_of_getElem? (i := 2) rfl)
  have k2 := hts (.fieldLink RX8 188 "DareBridgeModel" "did" "I") (List.mem_of_getElem? (i := 3) rfl)
  have k3 := hts (.fieldLink RX8 191 "DareBridgeModel" "refused" "I") (List.mem_of_getElem? (i := 4) rfl)
  have k4 := hts (.fieldLink RX8 194 "DareBridgeModel" "doubled" "I") (List.mem_of_getElem? (i := 5) rfl)
  have k5 := hts (.fieldLink RX8 149 "DareBridgeModel" "events" "I") (List.mem_of_getElem? (i := 6) rfl)
  have k6 := hts (.fieldLink RX8 43 "DareBridgeModel" "sort" "[I") (List.mem_of_getElem? (i := 7) rfl)
  have k7 := hts (.fieldLink RX8 46 "DareBridgeModel" "who" "[I") (List.mem_of_getElem? (i := 8) rfl)
  have k8 := hts (.fieldLink RX8 49 "DareBridgeModel" "whom" "[I") (List.mem_of_getElem? (i := 9) rfl)
  have k9 := hts (.fieldLink RX8 52 "DareBridgeModel" "height" "[I") (List.mem_of_getElem? (i := 10) rfl)
  refine lv_aload_n hx hb dX8_goSummer_0 rfl (lv_at hl 0 rfl) ?_
  refine lv_bipush (v := (-6)) hx hb dX8_goSummer_1 (by decide) ?_
  refine xg_put2 (C := RX8) (T := TX8) (N := 46) (v := .int (-6)) (ty := .int) S hK hG (fun w h => List.mem_cons_of_mem _ (List.mem_append_right _ (h))) tyX8 tyX8_ok nmX8 b hM.1 rfl 26 (by decide) k0 (fun _ h9 => h9) rfl (by decide +kernel) rfl rfl (Nat.le_of_ble_eq_true rfl) dX8_goSummer_3 (fun w1 H locs hw1 hG => ?_)
  have hs2 : xv_S ws w1 b 1 := by rw [hw1]; exact xv_S.set (by omega) (by omega)
  obtain ⟨I3, eI3⟩ : ∃ zz : Nat → Int32, (va_up I 26 (-6)) = zz := ⟨_, rfl⟩
  have hM : xv_M cI cZ ad w1 b A I3 L := by rw [hw1, ← eI3]; exact hM.fld (va_up I 26 (-6)) L rfl
  have hSw1 : xv_S ws w1 b 24 := hs2.mono (by omega) (by omega)
  refine lv_aload_n hx hb dX8_goSummer_6 rfl (lv_at hl 0 rfl) ?_
  refine lv_bipush (v := (-6)) hx hb dX8_goSummer_7 (by decide) ?_
  refine xg_put2 (C := RX8) (T := TX8) (N := 46) (v := .int (-6)) (ty := .int) S hK hG (fun w h => List.mem_cons_of_mem _ (List.mem_append_right _ (h))) tyX8 tyX8_ok nmX8 b hM.1 rfl 27 (by decide) k1 (fun _ h9 => h9) rfl (by decide +kernel) rfl rfl (Nat.le_of_ble_eq_true rfl) dX8_goSummer_9 (fun w4 H locs hw4 hG => ?_)
  have hs5 : xv_S w1 w4 b 1 := by rw [hw4]; exact xv_S.set (by omega) (by omega)
  obtain ⟨I6, eI6⟩ : ∃ zz : Nat → Int32, (va_up I3 27 (-6)) = zz := ⟨_, rfl⟩
  have hM : xv_M cI cZ ad w4 b A I6 L := by rw [hw4, ← eI6]; exact hM.fld (va_up I3 27 (-6)) L rfl
  have hSw4 : xv_S ws w4 b 24 := hSw1.trans (hs5.mono (by omega) (by omega))
  refine lv_aload_n hx hb dX8_goSummer_12 rfl (lv_at hl 0 rfl) ?_
  refine lv_iconst (v := 0) hx hb dX8_goSummer_13 (by decide) ?_
  refine xg_put2 (C := RX8) (T := TX8) (N := 46) (v := .int 0) (ty := .int) S hK hG (fun w h => List.mem_cons_of_mem _ (List.mem_append_right _ (h))) tyX8 tyX8_ok nmX8 b hM.1 rfl 28 (by decide) k2 (fun _ h9 => h9) rfl (by decide +kernel) rfl rfl (Nat.le_of_ble_eq_true rfl) dX8_goSummer_14 (fun w7 H locs hw7 hG => ?_)
  have hs8 : xv_S w4 w7 b 1 := by rw [hw7]; exact xv_S.set (by omega) (by omega)
  obtain ⟨I9, eI9⟩ : ∃ zz : Nat → Int32, (va_up I6 28 0) = zz := ⟨_, rfl⟩
  have hM : xv_M cI cZ ad w7 b A I9 L := by rw [hw7, ← eI9]; exact hM.fld (va_up I6 28 0) L rfl
  have hSw7 : xv_S ws w7 b 24 := hSw4.trans (hs8.mono (by omega) (by omega))
  refine lv_aload_n hx hb dX8_goSummer_17 rfl (lv_at hl 0 rfl) ?_
  refine lv_iconst (v := 0) hx hb dX8_goSummer_18 (by decide) ?_
  refine xg_put2 (C := RX8) (T := TX8) (N := 46) (v := .int 0) (ty := .int) S hK hG (fun w h => List.mem_cons_of_mem _ (List.mem_append_right _ (h))) tyX8 tyX8_ok nmX8 b hM.1 rfl 29 (by decide) k3 (fun _ h9 => h9) rfl (by decide +kernel) rfl rfl (Nat.le_of_ble_eq_true rfl) dX8_goSummer_19 (fun w10 H locs hw10 hG => ?_)
  have hs11 : xv_S w7 w10 b 1 := by rw [hw10]; exact xv_S.set (by omega) (by omega)
  obtain ⟨I12, eI12⟩ : ∃ zz : Nat → Int32, (va_up I9 29 0) = zz := ⟨_, rfl⟩
  have hM : xv_M cI cZ ad w10 b A I12 L := by rw [hw10, ← eI12]; exact hM.fld (va_up I9 29 0) L rfl
  have hSw10 : xv_S ws w10 b 24 := hSw7.trans (hs11.mono (by omega) (by omega))
  refine lv_aload_n hx hb dX8_goSummer_22 rfl (lv_at hl 0 rfl) ?_
  refine lv_iconst (v := 0) hx hb dX8_goSummer_23 (by decide) ?_
  refine xg_put2 (C := RX8) (T := TX8) (N := 46) (v := .int 0) (ty := .int) S hK hG (fun w h => List.mem_cons_of_mem _ (List.mem_append_right _ (h))) tyX8 tyX8_ok nmX8 b hM.1 rfl 30 (by decide) k4 (fun _ h9 => h9) rfl (by decide +kernel) rfl rfl (Nat.le_of_ble_eq_true rfl) dX8_goSummer_24 (fun w13 H locs hw13 hG => ?_)
  have hs14 : xv_S w10 w13 b 1 := by rw [hw13]; exact xv_S.set (by omega) (by omega)
  obtain ⟨I15, eI15⟩ : ∃ zz : Nat → Int32, (va_up I12 30 0) = zz := ⟨_, rfl⟩
  have hM : xv_M cI cZ ad w13 b A I15 L := by rw [hw13, ← eI15]; exact hM.fld (va_up I12 30 0) L rfl
  have hSw13 : xv_S ws w13 b 24 := hSw10.trans (hs14.mono (by omega) (by omega))
  refine lv_iconst (v := 0) hx hb dX8_goSummer_27 (by decide) ?_
  refine lv_istore_n (lv' := [(1, .int 0), (0, .ref (ad b))]) hx hb dX8_goSummer_28 rfl hl (by decide) rfl (fun ls hl => ?_)
  -- the loop at 29
  have lp29 : ∀ (fu : Nat) (k : Nat) (A1 : Nat → Nat → Int32) (I1 : Nat → Int32), (k ≤ e) → (e < k + fu) → (I1 25 = nI e) → (em_gos A I = em_gs (61 - k) k A1 I1) → ∀ y29_1 : Int32, y29_1 = nI k → ∀ (w29 : va_W) (H : Heap) (locs : List Loc), xg_H D bs w29 s.heap H locs → (xv_M cI cZ ad w29 b A1 I1 L) → xv_S ws w29 b 24 → ∀ (ls : Array Slot), lv_has ls 3 [(0, .ref (ad b)), (1, .int y29_1)] → W pg l en ({ frames := 4, cells := 0, slots := 0, locals := 89 } : Room) s m ([.ref (ad b)] : List Value).toArray below meth c H locs 0 0 Q (F0 m 29 ls []) := by
    intro fu
    induction fu with
    | zero =>
      intro k A1 I1 hk hf hI hr2
      exact absurd hf (by omega)
    | succ fu ih =>
      intro k A1 I1 hk hf hI hr2 y29_1 ey29_1
      intro w29 H locs hG hM hSw29
      intro ls hl
      replace ey29_1 := ey29_1.symm; subst ey29_1
      refine lv_iload_n hx hb dX8_goSummer_29 rfl (lv_at hl 1 rfl) ?_
      refine lv_aload_n hx hb dX8_goSummer_30 rfl (lv_at hl 0 rfl) ?_
      refine xg_get (C := RX8) (T := TX8) (N := 46) S hK hG (fun w h => List.mem_cons_of_mem _ (List.mem_append_right _ (h))) b hM.1 rfl 25 (by decide) k5 (fun _ h9 => h9) rfl dX8_goSummer_31 ?_
      refine lv_icmp_ge (tgt := 111) hx hb dX8_goSummer_34 (by decide) (fun c34 => ?_) (fun c34 => ?_)
      · skip
        have hfin : em_gos A I = (A1, I1) := by subst eI3 eI6 eI9 eI12 eI15; rw [hr2, em_gs_S (by omega)]; first | rw [if_pos c34] | rw [if_neg c34, if_pos c41]
        rw [hQ]
        exact xg_emv S hr hlk hK hG ⟨(by rw [hfin]; exact hM), hSw29⟩ dX8_goSummer_111
      · skip
        have hk9 : k < e := xb_lt (by omega) (by omega) (by rw [← hI]; exact c34)
        refine lv_aload_n hx hb dX8_goSummer_37 rfl (lv_at hl 0 rfl) ?_
        refine xg_get (C := RX8) (T := TX8) (N := 46) S hK hG (fun w h => List.mem_cons_of_mem _ (List.mem_append_right _ (h))) b hM.1 rfl 26 (by decide) k0 (fun _ h9 => h9) rfl dX8_goSummer_38 ?_
        refine lv_if_ge (tgt := 111) hx hb dX8_goSummer_41 (by decide) (fun c41 => ?_) (fun c41 => ?_)
        · skip
          have hfin : em_gos A I = (A1, I1) := by subst eI3 eI6 eI9 eI12 eI15; rw [hr2, em_gs_S (by omega)]; first | rw [if_pos c34] | rw [if_neg c34, if_pos c41]
          rw [hQ]
          exact xg_emv S hr hlk hK hG ⟨(by rw [hfin]; exact hM), hSw29⟩ dX8_goSummer_111
        · skip
          refine lv_aload_n hx hb dX8_goSummer_44 rfl (lv_at hl 0 rfl) ?_
          refine xg_get (C := RX8) (T := TX8) (N := 46) S hK hG (fun w h => List.mem_cons_of_mem _ (List.mem_append_right _ (h))) b hM.1 rfl 21 (by decide) k6 (fun _ h9 => h9) rfl dX8_goSummer_45 ?_
          refine lv_iload_n hx hb dX8_goSummer_48 rfl (lv_at hl 1 rfl) ?_
          refine xg_ald S hK hG (b + 12) (show w29[b + 12]? = some (ad (b + 12), .inl (cI, 60, .inl (A1 11))) from hM.2.1 11 (by decide)) (i := nI k) (by first | assumption | exact vp_in_nI (by omega) (by decide)) dX8_goSummer_49 ?_
          refine lv_if_ne (tgt := 60) hx hb dX8_goSummer_50 (by decide) (fun c50 => ?_) (fun c50 => ?_)
          · skip
            refine lv_aload_n hx hb dX8_goSummer_60 rfl (lv_at hl 0 rfl) ?_
            refine lv_aload_n hx hb dX8_goSummer_61 rfl (lv_at hl 0 rfl) ?_
            refine xg_get (C := RX8) (T := TX8) (N := 46) S hK hG (fun w h => List.mem_cons_of_mem _ (List.mem_append_right _ (h))) b hM.1 rfl 22 (by decide) k7 (fun _ h9 => h9) rfl dX8_goSummer_62 ?_
            refine lv_iload_n hx hb dX8_goSummer_65 rfl (lv_at hl 1 rfl) ?_
            refine xg_ald S hK hG (b + 13) (show w29[b + 13]? = some (ad (b + 13), .inl (cI, 60, .inl (A1 12))) from hM.2.1 12 (by decide)) (i := nI k) (by first | assumption | exact vp_in_nI (by omega) (by decide)) dX8_goSummer_66 ?_
            refine lv_aload_n hx hb dX8_goSummer_67 rfl (lv_at hl 0 rfl) ?_
            refine xg_get (C := RX8) (T := TX8) (N := 46) S hK hG (fun w h => List.mem_cons_of_mem _ (List.mem_append_right _ (h))) b hM.1 rfl 23 (by decide) k8 (fun _ h9 => h9) rfl dX8_goSummer_68 ?_
            refine lv_iload_n hx hb dX8_goSummer_71 rfl (lv_at hl 1 rfl) ?_
            refine xg_ald S hK hG (b + 14) (show w29[b + 14]? = some (ad (b + 14), .inl (cI, 60, .inl (A1 13))) from hM.2.1 13 (by decide)) (i := nI k) (by first | assumption | exact vp_in_nI (by omega) (by decide)) dX8_goSummer_72 ?_
            refine lv_aload_n hx hb dX8_goSummer_73 rfl (lv_at hl 0 rfl) ?_
            refine xg_get (C := RX8) (T := TX8) (N := 46) S hK hG (fun w h => List.mem_cons_of_mem _ (List.mem_append_right _ (h))) b hM.1 rfl 24 (by decide) k9 (fun _ h9 => h9) rfl dX8_goSummer_74 ?_
            refine lv_iload_n hx hb dX8_goSummer_77 rfl (lv_at hl 1 rfl) ?_
            refine xg_ald S hK hG (b + 15) (show w29[b + 15]? = some (ad (b + 15), .inl (cI, 60, .inl (A1 14))) from hM.2.1 14 (by decide)) (i := nI k) (by first | assumption | exact vp_in_nI (by omega) (by decide)) dX8_goSummer_78 ?_
            refine xg_ri (va_runV (As := [.int ((A1 12) ((nI k).toNatClampNeg)), .int ((A1 13) ((nI k).toNatClampNeg)), .int ((A1 14) ((nI k).toNatClampNeg))]) (rest := []) S (mX8_whyNot l D cI cZ bs ad w29 b A1 I1 L hM ((A1 12) ((nI k).toNatClampNeg)) ((A1 13) ((nI k).toNatClampNeg)) ((A1 14) ((nI k).toNatClampNeg))) (cwV 3 hts gX8_goSummer_X8_whyNot rfl rfl rfl (by decide +kernel) ⟨Nat.le_of_ble_eq_true rfl, Nat.le_of_ble_eq_true rfl⟩) (xg_preV hK hG b hM.1 rfl rfl) rfl rfl hl.1 rfl (lv_room (Nat.le_of_ble_eq_true rfl)) dX8_goSummer_79 ⟨Nat.zero_le _, Nat.zero_le _⟩) (fun r16 hr16 => ?_)
            replace hr16 := hr16.symm; subst hr16
            refine lv_topi (fun x17 ex17 => ?_)
            replace ex17 := ex17.symm
            refine lv_istore_n (lv' := [(2, .int x17), (0, .ref (ad b)), (1, .int (nI k))]) hx hb dX8_goSummer_82 rfl hl (by decide) rfl (fun ls hl => ?_)
            refine lv_iload_n hx hb dX8_goSummer_83 rfl (lv_at hl 0 rfl) ?_
            refine lv_if_le (tgt := 100) hx hb dX8_goSummer_84 (by decide) (fun c84 => ?_) (fun c84 => ?_)
            · skip
              refine lv_aload_n hx hb dX8_goSummer_100 rfl (lv_at hl 1 rfl) ?_
              refine lv_iload_n hx hb dX8_goSummer_101 rfl (lv_at hl 2 rfl) ?_
              refine xg_mv (va_runV (As := [.int (nI k)]) (rest := []) S (mX8_happen l D cI cZ bs ad w29 b A1 I1 L hM (nI k) (vp_in_nI (by omega) (by decide)) (by subst eI3 eI6 eI9 eI12 eI15 ex17; exact (em_why_le c84).1) (by subst eI3 eI6 eI9 eI12 eI15 ex17; exact (em_why_le c84).2)) (cwV 1 hts gX8_goSummer_X8_happen rfl rfl rfl (by decide +kernel) ⟨Nat.le_of_ble_eq_true rfl, Nat.le_of_ble_eq_true rfl⟩) (xg_preV hK hG b hM.1 rfl rfl) rfl rfl hl.1 rfl (lv_room (Nat.le_of_ble_eq_true rfl)) dX8_goSummer_102 ⟨Nat.zero_le _, Nat.zero_le _⟩) hG (fun w19 H locs hr18 hG => ?_)
              obtain ⟨hvw19_0, hsw19⟩ := hr18
              have hM : xv_M cI cZ ad w19 b (em_hpA A1 I1 (nI k).toNatClampNeg) (em_hpI A1 I1 (nI k).toNatClampNeg) L := hvw19_0
              obtain ⟨A20, eA20⟩ : ∃ zz : Nat → Nat → Int32, (em_hpA A1 I1 (nI k).toNatClampNeg) = zz := ⟨_, rfl⟩
              rw [eA20] at hM
              obtain ⟨I21, eI21⟩ : ∃ zz : Nat → Int32, (em_hpI A1 I1 (nI k).toNatClampNeg) = zz := ⟨_, rfl⟩
              rw [eI21] at hM
              have hSw19 : xv_S ws w19 b 24 := hSw29.trans (hsw19.mono (by omega) (by omega))
              obtain ⟨x22, ex22⟩ : ∃ zz : Int32, ((nI k) + 1) = zz := ⟨_, rfl⟩
              refine lv_iinc (v := x22) (lv' := [(1, .int x22), (2, .int x17), (0, .ref (ad b))]) hx hb dX8_goSummer_105 hl (k := 2) rfl (by rw [← ex22]; rfl) (by decide) rfl (fun ls hl => ?_)
              refine lv_goto (tgt := 29) hx hb dX8_goSummer_108 (by decide) ?_
              exact ih (k + 1) A20 I21 (by omega) (by omega) (by subst eI3 eI6 eI9 eI12 eI15 ex17 eA20 eI21 ex22; first | exact hI | (rw [em_hpI_ne (by decide) (by decide) (by decide) (by decide)]; exact hI) | (rw [va_up_ne _ _ (by decide), va_up_ne _ _ (by decide)]; exact hI)) (by subst eI3 eI6 eI9 eI12 eI15 ex17 eA20 eI21 ex22; simp only [xb_cl (show k < 2 ^ 31 by omega)] at *; rw [hr2, em_gs_S (by omega), if_neg c34, if_neg c41]; first | rw [if_pos c50] | rw [if_neg c50, if_pos c84] | rw [if_neg c50, if_neg c84]) x22 (by subst eI3 eI6 eI9 eI12 eI15 ex17 eA20 eI21 ex22; exact nI_1 k) w19 _ _ hG hM hSw19 ls (lv_sub hl [2, 0] rfl)
            · skip
              refine lv_aload_n hx hb dX8_goSummer_87 rfl (lv_at hl 1 rfl) ?_
              refine lv_iload_n hx hb dX8_goSummer_88 rfl (lv_at hl 2 rfl) ?_
              refine xg_put2 (C := RX8) (T := TX8) (N := 46) (v := .int (nI k)) (ty := .int) S hK hG (fun w h => List.mem_cons_of_mem _ (List.mem_append_right _ (h))) tyX8 tyX8_ok nmX8 b hM.1 rfl 26 (by decide) k0 (fun _ h9 => h9) rfl (by decide +kernel) rfl rfl (Nat.le_of_ble_eq_true rfl) dX8_goSummer_89 (fun w23 H locs hw23 hG => ?_)
              have hs24 : xv_S w29 w23 b 1 := by rw [hw23]; exact xv_S.set (by omega) (by omega)
              obtain ⟨I25, eI25⟩ : ∃ zz : Nat → Int32, (va_up I1 26 (nI k)) = zz := ⟨_, rfl⟩
              have hM : xv_M cI cZ ad w23 b A1 I25 L := by rw [hw23, ← eI25]; exact hM.fld (va_up I1 26 (nI k)) L rfl
              have hSw23 : xv_S ws w23 b 24 := hSw29.trans (hs24.mono (by omega) (by omega))
              refine lv_aload_n hx hb dX8_goSummer_92 rfl (lv_at hl 1 rfl) ?_
              refine lv_iload_n hx hb dX8_goSummer_93 rfl (lv_at hl 0 rfl) ?_
              refine xg_put2 (C := RX8) (T := TX8) (N := 46) (v := .int x17) (ty := .int) S hK hG (fun w h => List.mem_cons_of_mem _ (List.mem_append_right _ (h))) tyX8 tyX8_ok nmX8 b hM.1 rfl 27 (by decide) k1 (fun _ h9 => h9) rfl (by decide +kernel) rfl rfl (Nat.le_of_ble_eq_true rfl) dX8_goSummer_94 (fun w26 H locs hw26 hG => ?_)
              have hs27 : xv_S w23 w26 b 1 := by rw [hw26]; exact xv_S.set (by omega) (by omega)
              obtain ⟨I28, eI28⟩ : ∃ zz : Nat → Int32, (va_up I25 27 x17) = zz := ⟨_, rfl⟩
              have hM : xv_M cI cZ ad w26 b A1 I28 L := by rw [hw26, ← eI28]; exact hM.fld (va_up I25 27 x17) L rfl
              have hSw26 : xv_S ws w26 b 24 := hSw23.trans (hs27.mono (by omega) (by omega))
              refine lv_goto (tgt := 105) hx hb dX8_goSummer_97 (by decide) ?_
              obtain ⟨x29, ex29⟩ : ∃ zz : Int32, ((nI k) + 1) = zz := ⟨_, rfl⟩
              refine lv_iinc (v := x29) (lv' := [(1, .int x29), (2, .int x17), (0, .ref (ad b))]) hx hb dX8_goSummer_105 hl (k := 2) rfl (by rw [← ex29]; rfl) (by decide) rfl (fun ls hl => ?_)
              refine lv_goto (tgt := 29) hx hb dX8_goSummer_108 (by decide) ?_
              exact ih (k + 1) A1 I28 (by omega) (by omega) (by subst eI3 eI6 eI9 eI12 eI15 ex17 eI25 eI28 ex29; first | exact hI | (rw [em_hpI_ne (by decide) (by decide) (by decide) (by decide)]; exact hI) | (rw [va_up_ne _ _ (by decide), va_up_ne _ _ (by decide)]; exact hI)) (by subst eI3 eI6 eI9 eI12 eI15 ex17 eI25 eI28 ex29; simp only [xb_cl (show k < 2 ^ 31 by omega)] at *; rw [hr2, em_gs_S (by omega), if_neg c34, if_neg c41]; first | rw [if_pos c50] | rw [if_neg c50, if_pos c84] | rw [if_neg c50, if_neg c84]) x29 (by subst eI3 eI6 eI9 eI12 eI15 ex17 eI25 eI28 ex29; exact nI_1 k) w26 _ _ hG hM hSw26 ls (lv_sub hl [2, 0] rfl)
          · skip
            refine lv_aload_n hx hb dX8_goSummer_53 rfl (lv_at hl 0 rfl) ?_
            refine xg_mv (va_runV (As := []) (rest := []) S (mX8_passNight l D cI cZ bs ad w29 b A1 I1 L hM) (cwV 0 hts gX8_goSummer_X8_passNight rfl rfl rfl (by decide +kernel) ⟨Nat.le_of_ble_eq_true rfl, Nat.le_of_ble_eq_true rfl⟩) (xg_preV hK hG b hM.1 rfl rfl) rfl rfl hl.1 rfl (lv_room (Nat.le_of_ble_eq_true rfl)) dX8_goSummer_54 ⟨Nat.zero_le _, Nat.zero_le _⟩) hG (fun w31 H locs hr30 hG => ?_)
            obtain ⟨hvw31_0, hsw31⟩ := hr30
            have hM : xv_M cI cZ ad w31 b (em_nik A1 (I1 11) 6) I1 L := hvw31_0
            obtain ⟨A32, eA32⟩ : ∃ zz : Nat → Nat → Int32, (em_nik A1 (I1 11) 6) = zz := ⟨_, rfl⟩
            rw [eA32] at hM
            have hSw31 : xv_S ws w31 b 24 := hSw29.trans (hsw31.mono (by omega) (by omega))
            refine lv_goto (tgt := 105) hx hb dX8_goSummer_57 (by decide) ?_
            obtain ⟨x33, ex33⟩ : ∃ zz : Int32, ((nI k) + 1) = zz := ⟨_, rfl⟩
            refine lv_iinc (v := x33) (lv' := [(1, .int x33), (0, .ref (ad b))]) hx hb dX8_goSummer_105 hl (k := 1) rfl (by rw [← ex33]; rfl) (by decide) rfl (fun ls hl => ?_)
            refine lv_goto (tgt := 29) hx hb dX8_goSummer_108 (by decide) ?_
            exact ih (k + 1) A32 I1 (by omega) (by omega) (by subst eI3 eI6 eI9 eI12 eI15 eA32 ex33; first | exact hI | (rw [em_hpI_ne (by decide) (by decide) (by decide) (by decide)]; exact hI) | (rw [va_up_ne _ _ (by decide), va_up_ne _ _ (by decide)]; exact hI)) (by subst eI3 eI6 eI9 eI12 eI15 eA32 ex33; simp only [xb_cl (show k < 2 ^ 31 by omega)] at *; rw [hr2, em_gs_S (by omega), if_neg c34, if_neg c41]; first | rw [if_pos c50] | rw [if_neg c50, if_pos c84] | rw [if_neg c50, if_neg c84]) x33 (by subst eI3 eI6 eI9 eI12 eI15 eA32 ex33; exact nI_1 k) w31 _ _ hG hM hSw31 ls (lv_sub hl [1, 0] rfl)
  exact lp29 (e + 1) 0 A I15 (by omega) (by omega) (by subst eI3 eI6 eI9 eI12 eI15; simp [va_up_ne, he]) (by subst eI3 eI6 eI9 eI12 eI15; exact em_gos_0) 0 (by subst eI3 eI6 eI9 eI12 eI15; rfl) w13 _ _ hG hM hSw13 ls (lv_sub hl [1, 0] rfl)
