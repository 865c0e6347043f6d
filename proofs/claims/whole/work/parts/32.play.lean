set_option maxHeartbeats 4000000 in
set_option maxRecDepth 100000 in
theorem mX4_play (l : Launch) (D : va_G) (cI cZ : ClassId) (bs : Nat) (ad : Nat → Nat) (ws : va_W) (b : Nat) (b2 : Nat) (b3 : Nat) (ev : Int32) (wh : Int32) (dn : Int32) (rf : Int32) (db : Int32) (he : Int32) (hO : ws[b]? = some (ad b, .inr (4, [.ref (ad (b + 1)), .ref (ad (b + 14)), .ref (ad (b + 15)), .int ev, .int wh, .int dn, .int rf, .int db, .int he]))) (T : Nat → Nat → Int32) (hT : xv_T cI ad ws (b + 1) T) (f : Nat → Int32) (hR : ws[b + 14]? = some (ad (b + 14), .inl (cI, 36, .inl f))) (u : Int64) (v : Int64) (hCh : ws[b + 15]? = some (ad (b + 15), .inr (0, [.long u, .long v]))) (n : Int32) (hPo : ws[b2]? = some (ad b2, .inr (3, [.ref (ad (b2 + 1)), .int n]))) (g : Nat → Int32) (hP : ws[b2 + 1]? = some (ad (b2 + 1), .inl (cI, 60, .inl g))) (U : Nat → Nat → Int32) (hU : xv_T cI ad ws b3 U) (nn : Nat) (hnn : n = nI nn) (hn60 : nn ≤ 60) (hbc : b + 16 ≤ b2 ∨ b2 + 2 ≤ b) (hbd : b + 16 ≤ b3 ∨ b3 + 13 ≤ b) : Met l yX4_play wsX4_play ({ frames := 4, cells := 0, slots := 0, locals := 96 } : Room) (va_Pc [.ref (ad b), .ref (ad b2), .ref (ad b3)] (fun U => xg_W D cI cZ bs ws U)) (va_Qv (fun w : va_W => w[b]? = some (ad b, .inr (4, [.ref (ad (b + 1)), .ref (ad (b + 14)), .ref (ad (b + 15)), .int ((ds_sum U g nn).1), .int ((ds_sum U g nn).2.1), .int ((ds_sum U g nn).2.2.2.2.2.1), .int ((ds_sum U g nn).2.2.2.2.2.2.1), .int ((ds_sum U g nn).2.2.2.2.2.2.2), .int ((ds_sum U g nn).2.2.2.2.1.1)])) ∧ xv_T cI ad w (b + 1) ((ds_sum U g nn).2.2.1) ∧ w[b + 14]? = some (ad (b + 14), .inl (cI, 36, .inl ((ds_sum U g nn).2.2.2.1))) ∧ w[b + 15]? = some (ad (b + 15), .inr (0, [.long ((ds_sum U g nn).2.2.2.2.1.2.1), .long ((ds_sum U g nn).2.2.2.2.1.2.2)])) ∧ w[b2]? = some (ad b2, .inr (3, [.ref (ad (b2 + 1)), .int n])) ∧ w[b2 + 1]? = some (ad (b2 + 1), .inl (cI, 60, .inl g)) ∧ xv_T cI ad w b3 U ∧ xv_S ws w b 16) (fun w t => xg_W D cI cZ bs w t) (xg_A bs)) 0 0 (xg_A bs) := by
  refine xg_met cX4_play 4 none RX4 (by decide) rfl rfl (Nat.le_of_ble_eq_true rfl) ?_
  intro pg en s m below meth c ls S hr hlk hnm hB hl
  have hK := hB.1
  have hG := xg_start hB
  obtain ⟨hx, hb, hml, hown, hts⟩ := id S
  have hl : lv_has ls 4 [(0, .ref (ad b)), (1, .ref (ad b2)), (2, .ref (ad b3))] := hl
  obtain ⟨Q, hQ⟩ : ∃ Q, Q = MQ below (va_Qv (fun w : va_W => w[b]? = some (ad b, .inr (4, [.ref (ad (b + 1)), .ref (ad (b + 14)), .ref (ad (b + 15)), .int ((ds_sum U g nn).1), .int ((ds_sum U g nn).2.1), .int ((ds_sum U g nn).2.2.2.2.2.1), .int ((ds_sum U g nn).2.2.2.2.2.2.1), .int ((ds_sum U g nn).2.2.2.2.2.2.2), .int ((ds_sum U g nn).2.2.2.2.1.1)])) ∧ xv_T cI ad w (b + 1) ((ds_sum U g nn).2.2.1) ∧ w[b + 14]? = some (ad (b + 14), .inl (cI, 36, .inl ((ds_sum U g nn).2.2.2.1))) ∧ w[b + 15]? = some (ad (b + 15), .inr (0, [.long ((ds_sum U g nn).2.2.2.2.1.2.1), .long ((ds_sum U g nn).2.2.2.2.1.2.2)])) ∧ w[b2]? = some (ad b2, .inr (3, [.ref (ad (b2 + 1)), .int n])) ∧ w[b2 + 1]? = some (ad (b2 + 1), .inl (cI, 60, .inl g)) ∧ xv_T cI ad w b3 U ∧ xv_S ws w b 16) (fun w t => xg_W D cI cZ bs w t) (xg_A bs)) ([.ref (ad b), .ref (ad b2), .ref (ad b3)] : List Value).toArray s 0 0 (xg_A bs) := ⟨_, rfl⟩
  rw [← hQ]
  have k0 := hts (.fieldLink RX4 33 "DareBridge$Pad" "count" "I") (List.mem_of_getElem? (i := 1) rfl)
  have k1 := hts (.fieldLink RX4 39 "DareBridge$Pad" "signs" "[I") (List.mem_of_getElem? (i := 2) rfl)
  have k2 := hts (.initialized RX7) (List.mem_of_getElem? (i := 36) rfl)
  have k3 := hts (.static yX7_at) (List.mem_of_getElem? (i := 39) rfl)
  have k4 := hts (.fieldLink RX4 53 "DareBridge$Summer" "why" "I") (List.mem_of_getElem? (i := 4) rfl)
  have k5 := hts (.fieldLink RX4 56 "DareBridge$Summer" "events" "I") (List.mem_of_getElem? (i := 5) rfl)
  have k6 := hts (.fieldLink RX4 12 "DareBridge$Summer" "after" "LDareBridge$Town;") (List.mem_of_getElem? (i := 3) rfl)
  refine lv_aload_n hx hb dX4_play_0 rfl (lv_at hl 1 rfl) ?_
  refine lv_ifnonnull (tgt := 5) hx hb dX4_play_1 (by decide) ?_
  refine lv_aload_n hx hb dX4_play_5 rfl (lv_at hl 0 rfl) ?_
  refine lv_aload_n hx hb dX4_play_6 rfl (lv_at hl 2 rfl) ?_
  refine xg_mv (va_runV (As := [.ref (ad b3)]) (rest := []) S (mX4_begin l D cI cZ bs ad ws b b3 ev wh dn rf db he hO T hT f hR u v hCh U hU (by omega)) (cwV 1 hts gX4_play_X4_begin rfl rfl rfl (by decide +kernel) ⟨Nat.le_of_ble_eq_true rfl, Nat.le_of_ble_eq_true rfl⟩) (xg_preV hK hG b hO rfl rfl) rfl rfl hl.1 rfl (lv_room (Nat.le_of_ble_eq_true rfl)) dX4_play_7 ⟨Nat.zero_le _, Nat.zero_le _⟩) hG (fun w2 H locs hr1 hG => ?_)
  obtain ⟨hvw2_0, hvw2_1, hvw2_2, hvw2_3, hvw2_4, hsw2⟩ := hr1
  have hO : w2[b]? = some (ad b, .inr (4, [.ref (ad (b + 1)), .ref (ad (b + 14)), .ref (ad (b + 15)), .int 0, .int 0, .int 0, .int 0, .int 0, .int 0])) := hvw2_0
  have hT : xv_T cI ad w2 (b + 1) U := hvw2_1
  have hCh : w2[b + 15]? = some (ad (b + 15), .inr (0, [.long 1, .long 1])) := hvw2_3
  have hU : xv_T cI ad w2 b3 U := hvw2_4
  obtain ⟨f3, ef3⟩ : ∃ zz : Nat → Int32, ds_z = zz := ⟨_, rfl⟩
  have hR : w2[b + 14]? = some (ad (b + 14), .inl (cI, 36, .inl f3)) := by rw [← ef3]; exact hvw2_2
  have hPo : w2[b2]? = some (ad b2, .inr (3, [.ref (ad (b2 + 1)), .int n])) := hsw2.at hPo (by omega)
  have hP : w2[b2 + 1]? = some (ad (b2 + 1), .inl (cI, 60, .inl g)) := hsw2.at hP (by omega)
  have hSw2 : xv_S ws w2 b 16 := hsw2.mono (by omega) (by omega)
  refine lv_iconst (v := 0) hx hb dX4_play_10 (by decide) ?_
  refine lv_istore_n (lv' := [(3, .int 0), (0, .ref (ad b)), (1, .ref (ad b2)), (2, .ref (ad b3))]) hx hb dX4_play_11 rfl hl (by decide) rfl (fun ls hl => ?_)
  -- the loop at 12
  have lp12 : ∀ (fu : Nat) (k : Nat) (i : Nat) (e1 : Int32) (d1 : Int32) (r1 : Int32) (b1 : Int32) (h1 : Int32) (T1 : Nat → Nat → Int32) (f1 : Nat → Int32) (u1 : Int64) (v1 : Int64), (k ≤ 60) → (k ≤ i) → (i ≤ 65) → (61 ≤ k + fu) → (ds_sum U g nn = ds_ply g nn (61 - k) i e1 (T1, f1, (h1, u1, v1), (d1, r1, b1))) → ∀ y12_3 : Int32, y12_3 = nI i → ∀ z12_hO_4 : Int32, z12_hO_4 = 0 → ∀ (w12 : va_W) (H : Heap) (locs : List Loc), xg_H D bs w12 s.heap H locs → (w12[b]? = some (ad b, .inr (4, [.ref (ad (b + 1)), .ref (ad (b + 14)), .ref (ad (b + 15)), .int e1, .int z12_hO_4, .int d1, .int r1, .int b1, .int h1]))) → (xv_T cI ad w12 (b + 1) T1) → (w12[b + 14]? = some (ad (b + 14), .inl (cI, 36, .inl f1))) → (w12[b + 15]? = some (ad (b + 15), .inr (0, [.long u1, .long v1]))) → (w12[b2]? = some (ad b2, .inr (3, [.ref (ad (b2 + 1)), .int n]))) → (w12[b2 + 1]? = some (ad (b2 + 1), .inl (cI, 60, .inl g))) → (xv_T cI ad w12 b3 U) → xv_S ws w12 b 16 → ∀ (ls : Array Slot), lv_has ls 4 [(0, .ref (ad b)), (1, .ref (ad b2)), (2, .ref (ad b3)), (3, .int y12_3)] → W pg l en ({ frames := 4, cells := 0, slots := 0, locals := 96 } : Room) s m ([.ref (ad b), .ref (ad b2), .ref (ad b3)] : List Value).toArray below meth c H locs 0 0 Q (F0 m 12 ls []) := by
    intro fu
    induction fu with
    | zero =>
      intro k i e1 d1 r1 b1 h1 T1 f1 u1 v1 hk hki hi hf hr2
      exact absurd hf (by omega)
    | succ fu ih =>
      intro k i e1 d1 r1 b1 h1 T1 f1 u1 v1 hk hki hi hf hr2 y12_3 ey12_3 z12_hO_4 ez12_hO_4
      intro w12 H locs hG hO hT hR hCh hPo hP hU hSw12
      intro ls hl
      replace ey12_3 := ey12_3.symm; subst ey12_3
      replace ez12_hO_4 := ez12_hO_4.symm; subst ez12_hO_4
      refine lv_iload_n hx hb dX4_play_12 rfl (lv_at hl 3 rfl) ?_
      refine lv_aload_n hx hb dX4_play_13 rfl (lv_at hl 1 rfl) ?_
      refine xg_get (C := RX3) (T := TX3) (N := 2) S hK hG (fun w h => List.mem_cons_of_mem _ (List.mem_append_left _ (List.mem_append_left _ (List.mem_append_left _ (List.mem_append_right _ (h)))))) b2 hPo rfl 1 (by decide) k0 (fun _ h9 => h9) rfl dX4_play_14 ?_
      refine lv_icmp_ge (tgt := 79) hx hb dX4_play_17 (by decide) (fun c17 => ?_) (fun c17 => ?_)
      · skip
        have hk9 : nn ≤ i := xb_le (by omega) (by omega) (by rw [← hnn]; exact c17)
        have hfin : ds_sum U g nn = (e1, 0, (T1, f1, (h1, u1, v1), (d1, r1, b1))) := by rw [hr2, ds_ply_S (by omega), if_pos hk9]
        rw [hQ]
        exact xg_emv S hr hlk hK hG ⟨(by rw [hfin]; exact hO), (by rw [hfin]; exact hT), (by rw [hfin]; exact hR), (by rw [hfin]; exact hCh), hPo, hP, hU, hSw12⟩ dX4_play_79
      · skip
        have hk9 : i < nn := xb_lt (by omega) (by omega) (by rw [← hnn]; exact c17)
        refine lv_aload_n hx hb dX4_play_20 rfl (lv_at hl 1 rfl) ?_
        refine xg_get (C := RX3) (T := TX3) (N := 2) S hK hG (fun w h => List.mem_cons_of_mem _ (List.mem_append_left _ (List.mem_append_left _ (List.mem_append_left _ (List.mem_append_right _ (h)))))) b2 hPo rfl 0 (by decide) k1 (fun _ h9 => h9) rfl dX4_play_21 ?_
        refine lv_iload_n hx hb dX4_play_24 rfl (lv_at hl 3 rfl) ?_
        refine xg_ri (va_runSN (As := [.ref (ad (b2 + 1)), .int (nI i)]) (rest := []) S (mX7_at l D cI cZ bs ad w12 (b2 + 1) 60 g hP (nI i) (by decide)) ⟨(va_cnB 2 hts gX4_play_X7_at_n42 rfl rfl rfl (hK.2.1 _ xg_nest_15) k2 (by decide +kernel) ⟨Nat.le_of_ble_eq_true rfl, Nat.le_of_ble_eq_true rfl⟩), k3, trivial⟩ (xg_preS hK hG) rfl rfl hl.1 rfl (lv_room (Nat.le_of_ble_eq_true rfl)) dX4_play_25 ⟨Nat.zero_le _, Nat.zero_le _⟩) (fun r4 hr4 => ?_)
        replace hr4 := hr4.symm; subst hr4
        refine lv_bipush (v := 46) hx hb dX4_play_28 (by decide) ?_
        refine lv_icmp_ne (tgt := 46) hx hb dX4_play_30 (by decide) (fun c30 => ?_) (fun c30 => ?_)
        · skip
          refine lv_aload_n hx hb dX4_play_46 rfl (lv_at hl 0 rfl) ?_
          refine lv_aload_n hx hb dX4_play_47 rfl (lv_at hl 1 rfl) ?_
          refine xg_get (C := RX3) (T := TX3) (N := 2) S hK hG (fun w h => List.mem_cons_of_mem _ (List.mem_append_left _ (List.mem_append_left _ (List.mem_append_left _ (List.mem_append_right _ (h)))))) b2 hPo rfl 0 (by decide) k1 (fun _ h9 => h9) rfl dX4_play_48 ?_
          refine lv_iload_n hx hb dX4_play_51 rfl (lv_at hl 3 rfl) ?_
          refine xg_mv (va_runV (As := [.ref (ad (b2 + 1)), .int (nI i)]) (rest := []) S (mX4_playDare l D cI cZ bs ad w12 b (b2 + 1) e1 0 d1 r1 b1 h1 hO T1 hT f1 hR u1 v1 hCh g hP (nI i) (by omega)) (cwV 2 hts gX4_play_X4_playDare rfl rfl rfl (by decide +kernel) ⟨Nat.le_of_ble_eq_true rfl, Nat.le_of_ble_eq_true rfl⟩) (xg_preV hK hG b hO rfl rfl) rfl rfl hl.1 rfl (lv_room (Nat.le_of_ble_eq_true rfl)) dX4_play_52 ⟨Nat.zero_le _, Nat.zero_le _⟩) hG (fun w6 H locs hr5 hG => ?_)
          obtain ⟨hvw6_0, hvw6_1, hvw6_2, hvw6_3, hvw6_4, hsw6⟩ := hr5
          have hO : w6[b]? = some (ad b, .inr (4, [.ref (ad (b + 1)), .ref (ad (b + 14)), .ref (ad (b + 15)), .int e1, .int (ds_why T1 g (nI i)), .int ((ds_dar g (nI i) (T1, f1, (h1, u1, v1), (d1, r1, b1))).2.2.2.1), .int ((ds_dar g (nI i) (T1, f1, (h1, u1, v1), (d1, r1, b1))).2.2.2.2.1), .int ((ds_dar g (nI i) (T1, f1, (h1, u1, v1), (d1, r1, b1))).2.2.2.2.2), .int ((ds_dar g (nI i) (T1, f1, (h1, u1, v1), (d1, r1, b1))).2.2.1.1)])) := hvw6_0
          obtain ⟨x7, ex7⟩ : ∃ zz : Int32, ds_why T1 g (nI i) = zz := ⟨_, rfl⟩
          rw [ex7] at hO
          obtain ⟨x8, ex8⟩ : ∃ zz : Int32, (ds_dar g (nI i) (T1, f1, (h1, u1, v1), (d1, r1, b1))).2.2.2.1 = zz := ⟨_, rfl⟩
          rw [ex8] at hO
          obtain ⟨x9, ex9⟩ : ∃ zz : Int32, (ds_dar g (nI i) (T1, f1, (h1, u1, v1), (d1, r1, b1))).2.2.2.2.1 = zz := ⟨_, rfl⟩
          rw [ex9] at hO
          obtain ⟨x10, ex10⟩ : ∃ zz : Int32, (ds_dar g (nI i) (T1, f1, (h1, u1, v1), (d1, r1, b1))).2.2.2.2.2 = zz := ⟨_, rfl⟩
          rw [ex10] at hO
          obtain ⟨x11, ex11⟩ : ∃ zz : Int32, (ds_dar g (nI i) (T1, f1, (h1, u1, v1), (d1, r1, b1))).2.2.1.1 = zz := ⟨_, rfl⟩
          rw [ex11] at hO
          have hT : xv_T cI ad w6 (b + 1) ((ds_dar g (nI i) (T1, f1, (h1, u1, v1), (d1, r1, b1))).1) := hvw6_1
          obtain ⟨T12, eT12⟩ : ∃ zz : Nat → Nat → Int32, (ds_dar g (nI i) (T1, f1, (h1, u1, v1), (d1, r1, b1))).1 = zz := ⟨_, rfl⟩
          rw [eT12] at hT
          have hCh : w6[b + 15]? = some (ad (b + 15), .inr (0, [.long ((ds_dar g (nI i) (T1, f1, (h1, u1, v1), (d1, r1, b1))).2.2.1.2.1), .long ((ds_dar g (nI i) (T1, f1, (h1, u1, v1), (d1, r1, b1))).2.2.1.2.2)])) := hvw6_3
          obtain ⟨x13, ex13⟩ : ∃ zz : Int64, (ds_dar g (nI i) (T1, f1, (h1, u1, v1), (d1, r1, b1))).2.2.1.2.1 = zz := ⟨_, rfl⟩
          rw [ex13] at hCh
          obtain ⟨x14, ex14⟩ : ∃ zz : Int64, (ds_dar g (nI i) (T1, f1, (h1, u1, v1), (d1, r1, b1))).2.2.1.2.2 = zz := ⟨_, rfl⟩
          rw [ex14] at hCh
          have hP : w6[b2 + 1]? = some (ad (b2 + 1), .inl (cI, 60, .inl g)) := hvw6_4
          obtain ⟨f15, ef15⟩ : ∃ zz : Nat → Int32, (ds_dar g (nI i) (T1, f1, (h1, u1, v1), (d1, r1, b1))).2.1 = zz := ⟨_, rfl⟩
          have hR : w6[b + 14]? = some (ad (b + 14), .inl (cI, 36, .inl f15)) := by rw [← ef15]; exact hvw6_2
          have hPo : w6[b2]? = some (ad b2, .inr (3, [.ref (ad (b2 + 1)), .int n])) := hsw6.at hPo (by omega)
          have hU : xv_T cI ad w6 b3 U := hU.of_S hsw6 (by omega)
          have hSw6 : xv_S ws w6 b 16 := hSw12.trans (hsw6.mono (by omega) (by omega))
          obtain ⟨x16, ex16⟩ : ∃ zz : Int32, (nI i) + 5 = zz := ⟨_, rfl⟩
          refine lv_iinc (v := x16) (lv' := [(3, .int x16), (0, .ref (ad b)), (1, .ref (ad b2)), (2, .ref (ad b3))]) hx hb dX4_play_55 hl (k := 3) rfl (by rw [← ex16]; rfl) (by decide) rfl (fun ls hl => ?_)
          refine lv_aload_n hx hb dX4_play_58 rfl (lv_at hl 1 rfl) ?_
          refine xg_get (C := RX4) (T := TX4) (N := 9) S hK hG (fun w h => List.mem_cons_of_mem _ (List.mem_append_left _ (List.mem_append_left _ (List.mem_append_right _ (h))))) b hO rfl 4 (by decide) k4 (fun _ h9 => h9) rfl dX4_play_59 ?_
          refine lv_if_eq (tgt := 66) hx hb dX4_play_62 (by decide) (fun c62 => ?_) (fun c62 => ?_)
          · skip
            refine lv_aload_n hx hb dX4_play_66 rfl (lv_at hl 1 rfl) ?_
            refine lv_dup hx hb dX4_play_67 rfl ?_
            refine xg_get (C := RX4) (T := TX4) (N := 9) S hK hG (fun w h => List.mem_cons_of_mem _ (List.mem_append_left _ (List.mem_append_left _ (List.mem_append_right _ (h))))) b hO rfl 3 (by decide) k5 (fun _ h9 => h9) rfl dX4_play_68 ?_
            refine lv_iconst (v := 1) hx hb dX4_play_71 (by decide) ?_
            refine lv_iadd hx hb dX4_play_72 ?_
            refine xg_put2 (C := RX4) (T := TX4) (N := 9) (v := .int (e1 + 1)) (ty := .int) S hK hG (fun w h => List.mem_cons_of_mem _ (List.mem_append_left _ (List.mem_append_left _ (List.mem_append_right _ (h))))) tyX4 tyX4_ok nmX4 b hO rfl 3 (by decide) k5 (fun _ h9 => h9) rfl (by decide +kernel) rfl rfl (Nat.le_of_ble_eq_true rfl) dX4_play_73 (fun w17 H locs hw17 hG => ?_)
            have hs18 : xv_S w6 w17 b 1 := by rw [hw17]; exact xv_S.set (by omega) (by omega)
            obtain ⟨x19, ex19⟩ : ∃ zz : Int32, e1 + 1 = zz := ⟨_, rfl⟩
            have hO : w17[b]? = some (ad b, .inr (4, [.ref (ad (b + 1)), .ref (ad (b + 14)), .ref (ad (b + 15)), .int x19, .int x7, .int x8, .int x9, .int x10, .int x11])) := by rw [hw17, ← ex19]; exact xv_self hO
            have hT : xv_T cI ad w17 (b + 1) T12 := hT.of_S hs18 (by omega)
            have hR : w17[b + 14]? = some (ad (b + 14), .inl (cI, 36, .inl f15)) := hs18.at hR (by omega)
            have hCh : w17[b + 15]? = some (ad (b + 15), .inr (0, [.long x13, .long x14])) := hs18.at hCh (by omega)
            have hPo : w17[b2]? = some (ad b2, .inr (3, [.ref (ad (b2 + 1)), .int n])) := hs18.at hPo (by omega)
            have hP : w17[b2 + 1]? = some (ad (b2 + 1), .inl (cI, 60, .inl g)) := hs18.at hP (by omega)
            have hU : xv_T cI ad w17 b3 U := hU.of_S hs18 (by omega)
            have hSw17 : xv_S ws w17 b 16 := hSw6.trans (hs18.mono (by omega) (by omega))
            refine lv_goto (tgt := 12) hx hb dX4_play_76 (by decide) ?_
            exact ih (k + 1) (i + 5) x19 x8 x9 x10 x11 T12 f15 x13 x14 (by omega) (by omega) (by omega) (by omega) (by rw [hr2, ds_ply_S (by omega), if_neg (by omega)]; subst ef3 ex7 ex8 ex9 ex10 ex11 eT12 ex13 ex14 ef15 ex16 ex19; rw [if_neg c30, if_pos c62]) x16 (by subst ef3 ex7 ex8 ex9 ex10 ex11 eT12 ex13 ex14 ef15 ex16 ex19; exact xb_add5 i) x7 (by subst ef3 ex7 ex8 ex9 ex10 ex11 eT12 ex13 ex14 ef15 ex16 ex19; exact c62) w17 _ _ hG hO hT hR hCh hPo hP hU hSw17 ls (lv_sub hl [1, 2, 3, 0] rfl)
          · skip
            have hfin : ds_sum U g nn = (e1, x7, (T12, f15, (x11, x13, x14), (x8, x9, x10))) := by subst ef3 ex7 ex8 ex9 ex10 ex11 eT12 ex13 ex14 ef15 ex16; rw [show ds_dar g (nI i) (T1, f1, (h1, u1, v1), (d1, r1, b1)) = (T1, f1, (h1, u1, v1), (d1, r1, b1)) from if_neg c62, hr2, ds_ply_S (by omega), if_neg (by omega), if_neg c30, if_neg c62]
            rw [hQ]
            exact xg_emv S hr hlk hK hG ⟨(by rw [hfin]; exact hO), (by rw [hfin]; exact hT), (by rw [hfin]; exact hR), (by rw [hfin]; exact hCh), hPo, hP, hU, hSw6⟩ dX4_play_65
        · skip
          refine lv_aload_n hx hb dX4_play_33 rfl (lv_at hl 0 rfl) ?_
          refine xg_get (C := RX4) (T := TX4) (N := 9) S hK hG (fun w h => List.mem_cons_of_mem _ (List.mem_append_left _ (List.mem_append_left _ (List.mem_append_right _ (h))))) b hO rfl 0 (by decide) k6 (fun _ h9 => h9) rfl dX4_play_34 ?_
          refine xg_mv (va_runV (As := []) (rest := []) S (mX5_night l D cI cZ bs ad w12 (b + 1) T1 hT) (cwV 0 hts gX4_play_X5_night rfl rfl rfl (by decide +kernel) ⟨Nat.le_of_ble_eq_true rfl, Nat.le_of_ble_eq_true rfl⟩) (xg_preV hK hG (b + 1) hT.1 rfl rfl) rfl rfl hl.1 rfl (lv_room (Nat.le_of_ble_eq_true rfl)) dX4_play_37 ⟨Nat.zero_le _, Nat.zero_le _⟩) hG (fun w21 H locs hr20 hG => ?_)
          obtain ⟨hvw21_0, hsw21⟩ := hr20
          have hT : xv_T cI ad w21 (b + 1) (dt_nit T1) := hvw21_0
          obtain ⟨T22, eT22⟩ : ∃ zz : Nat → Nat → Int32, dt_nit T1 = zz := ⟨_, rfl⟩
          rw [eT22] at hT
          have hO : w21[b]? = some (ad b, .inr (4, [.ref (ad (b + 1)), .ref (ad (b + 14)), .ref (ad (b + 15)), .int e1, .int 0, .int d1, .int r1, .int b1, .int h1])) := hsw21.at hO (by omega)
          have hR : w21[b + 14]? = some (ad (b + 14), .inl (cI, 36, .inl f1)) := hsw21.at hR (by omega)
          have hCh : w21[b + 15]? = some (ad (b + 15), .inr (0, [.long u1, .long v1])) := hsw21.at hCh (by omega)
          have hPo : w21[b2]? = some (ad b2, .inr (3, [.ref (ad (b2 + 1)), .int n])) := hsw21.at hPo (by omega)
          have hP : w21[b2 + 1]? = some (ad (b2 + 1), .inl (cI, 60, .inl g)) := hsw21.at hP (by omega)
          have hU : xv_T cI ad w21 b3 U := hU.of_S hsw21 (by omega)
          have hSw21 : xv_S ws w21 b 16 := hSw12.trans (hsw21.mono (by omega) (by omega))
          obtain ⟨x23, ex23⟩ : ∃ zz : Int32, (nI i) + 1 = zz := ⟨_, rfl⟩
          refine lv_iinc (v := x23) (lv' := [(3, .int x23), (0, .ref (ad b)), (1, .ref (ad b2)), (2, .ref (ad b3))]) hx hb dX4_play_40 hl (k := 3) rfl (by rw [← ex23]; rfl) (by decide) rfl (fun ls hl => ?_)
          refine lv_goto (tgt := 58) hx hb dX4_play_43 (by decide) ?_
          refine lv_aload_n hx hb dX4_play_58 rfl (lv_at hl 1 rfl) ?_
          refine xg_get (C := RX4) (T := TX4) (N := 9) S hK hG (fun w h => List.mem_cons_of_mem _ (List.mem_append_left _ (List.mem_append_left _ (List.mem_append_right _ (h))))) b hO rfl 4 (by decide) k4 (fun _ h9 => h9) rfl dX4_play_59 ?_
          refine lv_if_eq (tgt := 66) hx hb dX4_play_62 (by decide) (fun c62 => ?_) (fun c62 => ?_)
          · skip
            refine lv_aload_n hx hb dX4_play_66 rfl (lv_at hl 1 rfl) ?_
            refine lv_dup hx hb dX4_play_67 rfl ?_
            refine xg_get (C := RX4) (T := TX4) (N := 9) S hK hG (fun w h => List.mem_cons_of_mem _ (List.mem_append_left _ (List.mem_append_left _ (List.mem_append_right _ (h))))) b hO rfl 3 (by decide) k5 (fun _ h9 => h9) rfl dX4_play_68 ?_
            refine lv_iconst (v := 1) hx hb dX4_play_71 (by decide) ?_
            refine lv_iadd hx hb dX4_play_72 ?_
            refine xg_put2 (C := RX4) (T := TX4) (N := 9) (v := .int (e1 + 1)) (ty := .int) S hK hG (fun w h => List.mem_cons_of_mem _ (List.mem_append_left _ (List.mem_append_left _ (List.mem_append_right _ (h))))) tyX4 tyX4_ok nmX4 b hO rfl 3 (by decide) k5 (fun _ h9 => h9) rfl (by decide +kernel) rfl rfl (Nat.le_of_ble_eq_true rfl) dX4_play_73 (fun w24 H locs hw24 hG => ?_)
            have hs25 : xv_S w21 w24 b 1 := by rw [hw24]; exact xv_S.set (by omega) (by omega)
            obtain ⟨x26, ex26⟩ : ∃ zz : Int32, e1 + 1 = zz := ⟨_, rfl⟩
            have hO : w24[b]? = some (ad b, .inr (4, [.ref (ad (b + 1)), .ref (ad (b + 14)), .ref (ad (b + 15)), .int x26, .int 0, .int d1, .int r1, .int b1, .int h1])) := by rw [hw24, ← ex26]; exact xv_self hO
            have hT : xv_T cI ad w24 (b + 1) T22 := hT.of_S hs25 (by omega)
            have hR : w24[b + 14]? = some (ad (b + 14), .inl (cI, 36, .inl f1)) := hs25.at hR (by omega)
            have hCh : w24[b + 15]? = some (ad (b + 15), .inr (0, [.long u1, .long v1])) := hs25.at hCh (by omega)
            have hPo : w24[b2]? = some (ad b2, .inr (3, [.ref (ad (b2 + 1)), .int n])) := hs25.at hPo (by omega)
            have hP : w24[b2 + 1]? = some (ad (b2 + 1), .inl (cI, 60, .inl g)) := hs25.at hP (by omega)
            have hU : xv_T cI ad w24 b3 U := hU.of_S hs25 (by omega)
            have hSw24 : xv_S ws w24 b 16 := hSw21.trans (hs25.mono (by omega) (by omega))
            refine lv_goto (tgt := 12) hx hb dX4_play_76 (by decide) ?_
            exact ih (k + 1) (i + 1) x26 d1 r1 b1 h1 T22 f1 u1 v1 (by omega) (by omega) (by omega) (by omega) (by rw [hr2, ds_ply_S (by omega), if_neg (by omega)]; subst ef3 eT22 ex23 ex26; rw [if_pos c30]) x23 (by subst ef3 eT22 ex23 ex26; exact nI_1 i) 0 rfl w24 _ _ hG hO hT hR hCh hPo hP hU hSw24 ls (lv_sub hl [1, 2, 3, 0] rfl)
          · skip
            exact absurd rfl c62
  exact lp12 61 0 0 0 0 0 0 0 U f3 1 1 (by omega) (by omega) (by omega) (by omega) (by subst ef3; exact ds_sum_0) 0 rfl 0 (by subst ef3; rfl) w2 _ _ hG hO hT hR hCh hPo hP hU hSw2 ls (lv_sub hl [1, 2, 3, 0] rfl)
