set_option maxHeartbeats 4000000 in
set_option maxRecDepth 100000 in
theorem mX0_begin (l : Launch) (D : va_G) (cI cZ : ClassId) (bs : Nat) (ad : Nat → Nat) (ws : va_W) (b : Nat) (u : Int64) (v : Int64) (hCh : ws[b]? = some (ad b, .inr (0, [.long u, .long v]))) : Met l yX0_begin wsX0_begin ({ frames := 0, cells := 0, slots := 0, locals := 0 } : Room) (va_Pc [.ref (ad b)] (fun U => xg_W D cI cZ bs ws U)) (va_Qv (fun w : va_W => w[b]? = some (ad b, .inr (0, [.long 1, .long 1])) ∧ xv_S ws w b 1) (fun w t => xg_W D cI cZ bs w t) (xg_A bs)) 0 0 (xg_A bs) := by
  refine xg_met cX0_begin 1 none RX0 (by decide) rfl rfl (Nat.le_of_ble_eq_true rfl) ?_
  intro pg en s m below meth c ls S hr hlk hnm hB hl
  have hK := hB.1
  have hG := xg_start hB
  obtain ⟨hx, hb, hml, hown, hts⟩ := id S
  have hl : lv_has ls 1 [(0, .ref (ad b))] := hl
  obtain ⟨Q, hQ⟩ : ∃ Q, Q = MQ below (va_Qv (fun w : va_W => w[b]? = some (ad b, .inr (0, [.long 1, .long 1])) ∧ xv_S ws w b 1) (fun w t => xg_W D cI cZ bs w t) (xg_A bs)) ([.ref (ad b)] : List Value).toArray s 0 0 (xg_A bs) := ⟨_, rfl⟩
  rw [← hQ]
  have k0 := hts (.fieldLink RX0 7 "DareBridge$Chance" "upper" "J") (List.mem_of_getElem? (i := 1) rfl)
  have k1 := hts (.fieldLink RX0 13 "DareBridge$Chance" "lower" "J") (List.mem_of_getElem? (i := 2) rfl)
  refine lv_aload_n hx hb dX0_begin_0 rfl (lv_at hl 0 rfl) ?_
  refine lv_lconst (v := 1) hx hb dX0_begin_1 (by decide) ?_
  refine xg_put2 (C := RX0) (T := TX0) (N := 2) (v := .long 1) (ty := .long) S hK hG (fun w h => List.mem_cons_of_mem _ (List.mem_append_right _ (h))) tyX0 tyX0_ok nmX0 b hCh rfl 0 (by decide) k0 (fun _ h9 => h9) rfl (by decide +kernel) rfl rfl (Nat.le_of_ble_eq_true rfl) dX0_begin_2 (fun w1 H locs hw1 hG => ?_)
  have hs2 : xv_S ws w1 b 1 := by rw [hw1]; exact xv_S.set (by omega) (by omega)
  have hCh : w1[b]? = some (ad b, .inr (0, [.long 1, .long v])) := by rw [hw1]; exact xv_self hCh
  have hSw1 : xv_S ws w1 b 1 := hs2.mono (by omega) (by omega)
  refine lv_aload_n hx hb dX0_begin_5 rfl (lv_at hl 0 rfl) ?_
  refine lv_lconst (v := 1) hx hb dX0_begin_6 (by decide) ?_
  refine xg_put2 (C := RX0) (T := TX0) (N := 2) (v := .long 1) (ty := .long) S hK hG (fun w h => List.mem_cons_of_mem _ (List.mem_append_right _ (h))) tyX0 tyX0_ok nmX0 b hCh rfl 1 (by decide) k1 (fun _ h9 => h9) rfl (by decide +kernel) rfl rfl (Nat.le_of_ble_eq_true rfl) dX0_begin_7 (fun w3 H locs hw3 hG => ?_)
  have hs4 : xv_S w1 w3 b 1 := by rw [hw3]; exact xv_S.set (by omega) (by omega)
  have hCh : w3[b]? = some (ad b, .inr (0, [.long 1, .long 1])) := by rw [hw3]; exact xv_self hCh
  have hSw3 : xv_S ws w3 b 1 := hSw1.trans (hs4.mono (by omega) (by omega))
  rw [hQ]
  exact xg_emv S hr hlk hK hG ⟨hCh, hSw3⟩ dX0_begin_10
set_option maxHeartbeats 4000000 in
set_option maxRecDepth 100000 in
theorem mX0_goesWell (l : Launch) (D : va_G) (cI cZ : ClassId) (bs : Nat) (ad : Nat → Nat) (ws : va_W) (b : Nat) (u : Int64) (v : Int64) (hCh : ws[b]? = some (ad b, .inr (0, [.long u, .long v]))) (x : Int32) : Met l yX0_goesWell wsX0_goesWell ({ frames := 0, cells := 0, slots := 0, locals := 0 } : Room) (va_Pc [.ref (ad b), .int x] (fun U => xg_W D cI cZ bs ws U)) (va_Qv (fun w : va_W => w[b]? = some (ad b, .inr (0, [.long (u * (10 - x).toInt64), .long (v * 10)])) ∧ xv_S ws w b 1) (fun w t => xg_W D cI cZ bs w t) (xg_A bs)) 0 0 (xg_A bs) := by
  refine xg_met cX0_goesWell 2 none RX0 (by decide) rfl rfl (Nat.le_of_ble_eq_true rfl) ?_
  intro pg en s m below meth c ls S hr hlk hnm hB hl
  have hK := hB.1
  have hG := xg_start hB
  obtain ⟨hx, hb, hml, hown, hts⟩ := id S
  have hl : lv_has ls 2 [(0, .ref (ad b)), (1, .int x)] := hl
  obtain ⟨Q, hQ⟩ : ∃ Q, Q = MQ below (va_Qv (fun w : va_W => w[b]? = some (ad b, .inr (0, [.long (u * (10 - x).toInt64), .long (v * 10)])) ∧ xv_S ws w b 1) (fun w t => xg_W D cI cZ bs w t) (xg_A bs)) ([.ref (ad b), .int x] : List Value).toArray s 0 0 (xg_A bs) := ⟨_, rfl⟩
  rw [← hQ]
  have k0 := hts (.fieldLink RX0 7 "DareBridge$Chance" "upper" "J") (List.mem_of_getElem? (i := 1) rfl)
  have k1 := hts (.fieldLink RX0 13 "DareBridge$Chance" "lower" "J") (List.mem_of_getElem? (i := 2) rfl)
  have k2 := hts (.constantLong RX0 16 (10)) (List.mem_of_getElem? (i := 3) rfl)
  refine lv_aload_n hx hb dX0_goesWell_0 rfl (lv_at hl 0 rfl) ?_
  refine lv_dup hx hb dX0_goesWell_1 rfl ?_
  refine xg_get (C := RX0) (T := TX0) (N := 2) S hK hG (fun w h => List.mem_cons_of_mem _ (List.mem_append_right _ (h))) b hCh rfl 0 (by decide) k0 (fun _ h9 => h9) rfl dX0_goesWell_2 ?_
  refine lv_bipush (v := 10) hx hb dX0_goesWell_5 (by decide) ?_
  refine lv_iload_n hx hb dX0_goesWell_7 rfl (lv_at hl 1 rfl) ?_
  refine lv_isub hx hb dX0_goesWell_8 ?_
  refine lv_i2l (v := (10 - x).toInt64) hx hb dX0_goesWell_9 rfl ?_
  refine lv_lmul hx hb dX0_goesWell_10 ?_
  refine xg_put2 (C := RX0) (T := TX0) (N := 2) (v := .long (u * ((10 - x).toInt64))) (ty := .long) S hK hG (fun w h => List.mem_cons_of_mem _ (List.mem_append_right _ (h))) tyX0 tyX0_ok nmX0 b hCh rfl 0 (by decide) k0 (fun _ h9 => h9) rfl (by decide +kernel) rfl rfl (Nat.le_of_ble_eq_true rfl) dX0_goesWell_11 (fun w1 H locs hw1 hG => ?_)
  have hs2 : xv_S ws w1 b 1 := by rw [hw1]; exact xv_S.set (by omega) (by omega)
  obtain ⟨x3, ex3⟩ : ∃ zz : Int64, u * ((10 - x).toInt64) = zz := ⟨_, rfl⟩
  have hCh : w1[b]? = some (ad b, .inr (0, [.long x3, .long v])) := by rw [hw1, ← ex3]; exact xv_self hCh
  have hSw1 : xv_S ws w1 b 1 := hs2.mono (by omega) (by omega)
  refine lv_aload_n hx hb dX0_goesWell_14 rfl (lv_at hl 0 rfl) ?_
  refine lv_dup hx hb dX0_goesWell_15 rfl ?_
  refine xg_get (C := RX0) (T := TX0) (N := 2) S hK hG (fun w h => List.mem_cons_of_mem _ (List.mem_append_right _ (h))) b hCh rfl 1 (by decide) k1 (fun _ h9 => h9) rfl dX0_goesWell_16 ?_
  refine lv_ldc2 (v := 10) hx hb hown k2 dX0_goesWell_19 ?_
  refine lv_lmul hx hb dX0_goesWell_22 ?_
  refine xg_put2 (C := RX0) (T := TX0) (N := 2) (v := .long (v * 10)) (ty := .long) S hK hG (fun w h => List.mem_cons_of_mem _ (List.mem_append_right _ (h))) tyX0 tyX0_ok nmX0 b hCh rfl 1 (by decide) k1 (fun _ h9 => h9) rfl (by decide +kernel) rfl rfl (Nat.le_of_ble_eq_true rfl) dX0_goesWell_23 (fun w4 H locs hw4 hG => ?_)
  have hs5 : xv_S w1 w4 b 1 := by rw [hw4]; exact xv_S.set (by omega) (by omega)
  obtain ⟨x6, ex6⟩ : ∃ zz : Int64, v * 10 = zz := ⟨_, rfl⟩
  have hCh : w4[b]? = some (ad b, .inr (0, [.long x3, .long x6])) := by rw [hw4, ← ex6]; exact xv_self hCh
  have hSw4 : xv_S ws w4 b 1 := hSw1.trans (hs5.mono (by omega) (by omega))
  rw [hQ]
  exact xg_emv S hr hlk hK hG ⟨(by rw [show (u * (10 - x).toInt64) = x3 from (by subst ex3 ex6; rfl)]; rw [show (v * 10) = x6 from (by subst ex3 ex6; rfl)]; exact hCh), hSw4⟩ dX0_goesWell_26
set_option maxHeartbeats 4000000 in
set_option maxRecDepth 100000 in
theorem mX0_isAtLeast (l : Launch) (D : va_G) (cI cZ : ClassId) (bs : Nat) (ad : Nat → Nat) (ws : va_W) (b : Nat) (u : Int64) (v : Int64) (hCh : ws[b]? = some (ad b, .inr (0, [.long u, .long v]))) (x : Int32) (y : Int32) : Met l yX0_isAtLeast wsX0_isAtLeast ({ frames := 0, cells := 0, slots := 0, locals := 0 } : Room) (va_Pc [.ref (ad b), .int x, .int y] (fun U => xg_W D cI cZ bs ws U)) (xg_Ri (fun r : Int32 => r = xb_i (!decide (u * y.toInt64 < x.toInt64 * v)))) 0 0 xg_F := by
  refine xg_met cX0_isAtLeast 3 (some .boolean) RX0 (by decide) rfl rfl (Nat.le_of_ble_eq_true rfl) ?_
  intro pg en s m below meth c ls S hr hlk hnm hB hl
  have hK := hB.1
  have hG := xg_start hB
  obtain ⟨hx, hb, hml, hown, hts⟩ := id S
  have hl : lv_has ls 3 [(0, .ref (ad b)), (1, .int x), (2, .int y)] := hl
  obtain ⟨Q, hQ⟩ : ∃ Q, Q = MQ below (xg_Ri (fun r : Int32 => r = xb_i (!decide (u * y.toInt64 < x.toInt64 * v)))) ([.ref (ad b), .int x, .int y] : List Value).toArray s 0 0 xg_F := ⟨_, rfl⟩
  rw [← hQ]
  have k0 := hts (.fieldLink RX0 7 "DareBridge$Chance" "upper" "J") (List.mem_of_getElem? (i := 1) rfl)
  have k1 := hts (.fieldLink RX0 13 "DareBridge$Chance" "lower" "J") (List.mem_of_getElem? (i := 2) rfl)
  refine lv_aload_n hx hb dX0_isAtLeast_0 rfl (lv_at hl 0 rfl) ?_
  refine xg_get (C := RX0) (T := TX0) (N := 2) S hK hG (fun w h => List.mem_cons_of_mem _ (List.mem_append_right _ (h))) b hCh rfl 0 (by decide) k0 (fun _ h9 => h9) rfl dX0_isAtLeast_1 ?_
  refine lv_iload_n hx hb dX0_isAtLeast_4 rfl (lv_at hl 2 rfl) ?_
  refine lv_i2l (v := y.toInt64) hx hb dX0_isAtLeast_5 rfl ?_
  refine lv_lmul hx hb dX0_isAtLeast_6 ?_
  refine lv_iload_n hx hb dX0_isAtLeast_7 rfl (lv_at hl 1 rfl) ?_
  refine lv_i2l (v := x.toInt64) hx hb dX0_isAtLeast_8 rfl ?_
  refine lv_aload_n hx hb dX0_isAtLeast_9 rfl (lv_at hl 0 rfl) ?_
  refine xg_get (C := RX0) (T := TX0) (N := 2) S hK hG (fun w h => List.mem_cons_of_mem _ (List.mem_append_right _ (h))) b hCh rfl 1 (by decide) k1 (fun _ h9 => h9) rfl dX0_isAtLeast_10 ?_
  refine lv_lmul hx hb dX0_isAtLeast_13 ?_
  refine xb_lcmp S dX0_isAtLeast_14 ?_
  refine xb_llt (tgt := 22) S dX0_isAtLeast_15 (by decide) (fun c15 => ?_) (fun c15 => ?_)
  · skip
    refine lv_iconst (v := 0) hx hb dX0_isAtLeast_22 (by decide) ?_
    rw [hQ]
    exact xg_erz S hr hlk rfl (by skip; simp [xb_i, c15]) dX0_isAtLeast_23
  · skip
    refine lv_iconst (v := 1) hx hb dX0_isAtLeast_18 (by decide) ?_
    refine lv_goto (tgt := 23) hx hb dX0_isAtLeast_19 (by decide) ?_
    rw [hQ]
    exact xg_erz S hr hlk rfl (by skip; simp [xb_i, c15]) dX0_isAtLeast_23
set_option maxHeartbeats 4000000 in
set_option maxRecDepth 100000 in
theorem mX0_lowest (l : Launch) (D : va_G) (cI cZ : ClassId) (bs : Nat) (ad : Nat → Nat) (ws : va_W) (b : Nat) (u : Int64) (v : Int64) (hCh : ws[b]? = some (ad b, .inr (0, [.long u, .long v]))) (x : Int32) : Met l yX0_lowest wsX0_lowest ({ frames := 0, cells := 0, slots := 0, locals := 0 } : Room) (va_Pc [.ref (ad b), .int x] (fun U => xg_W D cI cZ bs ws U)) (xg_Rl (fun r : Int64 => r = dc_low u v x)) 0 0 xg_F := by
  refine xg_met cX0_lowest 9 (some .long) RX0 (by decide) rfl rfl (Nat.le_of_ble_eq_true rfl) ?_
  intro pg en s m below meth c ls S hr hlk hnm hB hl
  have hK := hB.1
  have hG := xg_start hB
  obtain ⟨hx, hb, hml, hown, hts⟩ := id S
  have hl : lv_has ls 9 [(0, .ref (ad b)), (1, .int x)] := hl
  obtain ⟨Q, hQ⟩ : ∃ Q, Q = MQ below (xg_Rl (fun r : Int64 => r = dc_low u v x)) ([.ref (ad b), .int x] : List Value).toArray s 0 0 xg_F := ⟨_, rfl⟩
  rw [← hQ]
  have k0 := hts (.fieldLink RX0 13 "DareBridge$Chance" "lower" "J") (List.mem_of_getElem? (i := 1) rfl)
  have k1 := hts (.fieldLink RX0 7 "DareBridge$Chance" "upper" "J") (List.mem_of_getElem? (i := 2) rfl)
  refine lv_aload_n hx hb dX0_lowest_0 rfl (lv_at hl 0 rfl) ?_
  refine xg_get (C := RX0) (T := TX0) (N := 2) S hK hG (fun w h => List.mem_cons_of_mem _ (List.mem_append_right _ (h))) b hCh rfl 1 (by decide) k0 (fun _ h9 => h9) rfl dX0_lowest_1 ?_
  refine lv_lstore_n (lv' := [(2, .long v), (0, .ref (ad b)), (1, .int x)]) hx hb dX0_lowest_4 rfl hl (by decide) rfl (fun ls hl => ?_)
  refine lv_aload_n hx hb dX0_lowest_5 rfl (lv_at hl 1 rfl) ?_
  refine xg_get (C := RX0) (T := TX0) (N := 2) S hK hG (fun w h => List.mem_cons_of_mem _ (List.mem_append_right _ (h))) b hCh rfl 0 (by decide) k1 (fun _ h9 => h9) rfl dX0_lowest_6 ?_
  refine lv_lstore (lv' := [(4, .long u), (2, .long v), (0, .ref (ad b)), (1, .int x)]) hx hb dX0_lowest_9 hl (by decide) rfl (fun ls hl => ?_)
  refine lv_iconst (v := 0) hx hb dX0_lowest_11 (by decide) ?_
  refine lv_istore (lv' := [(6, .int 0), (4, .long u), (2, .long v), (0, .ref (ad b)), (1, .int x)]) hx hb dX0_lowest_12 hl (by decide) rfl (fun ls hl => ?_)
  -- the loop at 14
  have lp14 : ∀ (fu : Nat) (k : Nat) (sh : Int64) (re : Int64), (k ≤ 100) → (101 ≤ k + fu) → (xw_gc 100 v u = xw_gc (100 - k) sh re) → ∀ y14_6 : Int32, y14_6 = nI k → ∀ (ls : Array Slot), lv_has ls 9 [(0, .ref (ad b)), (1, .int x), (2, .long sh), (4, .long re), (6, .int y14_6)] → W pg l en ({ frames := 0, cells := 0, slots := 0, locals := 0 } : Room) s m ([.ref (ad b), .int x] : List Value).toArray below meth c s.heap [] 0 0 Q (F0 m 14 ls []) := by
    intro fu
    induction fu with
    | zero =>
      intro k sh re hk hf hr2
      exact absurd hf (by omega)
    | succ fu ih =>
      intro k sh re hk hf hr2 y14_6 ey14_6
      intro ls hl
      replace ey14_6 := ey14_6.symm; subst ey14_6
      refine lv_iload hx hb dX0_lowest_14 (lv_at hl 4 rfl) ?_
      refine lv_bipush (v := 100) hx hb dX0_lowest_16 (by decide) ?_
      refine lv_icmp_ge (tgt := 47) hx hb dX0_lowest_18 (by decide) (fun c18 => ?_) (fun c18 => ?_)
      · skip
        have hk9 : k = 100 := by have := xb_le (k := k) (n := 100) (by omega) (by decide) c18; omega
        have hgc : xw_gc 100 v u = sh := by rw [hr2, hk9]; rfl
        refine lv_iload_n hx hb dX0_lowest_47 rfl (lv_at hl 1 rfl) ?_
        have jn62_1 : ∀ v1 : Int64, v1 = (if x = 0 then u else v) → W pg l en ({ frames := 0, cells := 0, slots := 0, locals := 0 } : Room) s m ([.ref (ad b), .int x] : List Value).toArray below meth c s.heap [] 0 0 Q (F0 m 62 ls [.long v1]) := by
          intro v1 ev1
          replace ev1 := ev1.symm
          refine lv_lstore (lv' := [(6, .long v1), (0, .ref (ad b)), (1, .int x), (2, .long sh), (4, .long re)]) hx hb dX0_lowest_62 hl (by decide) rfl (fun ls hl => ?_)
          refine lv_lload_n hx hb dX0_lowest_64 rfl (lv_at hl 3 rfl) ?_
          refine lv_lconst (v := 0) hx hb dX0_lowest_65 (by decide) ?_
          refine xb_lcmp S dX0_lowest_66 ?_
          refine xb_lne (tgt := 75) S dX0_lowest_67 (by decide) (fun c67 => ?_) (fun c67 => ?_)
          · skip
            refine lv_lload hx hb dX0_lowest_75 (lv_at hl 0 rfl) ?_
            refine lv_lload_n hx hb dX0_lowest_77 rfl (lv_at hl 3 rfl) ?_
            refine lv_ldiv hx hb dX0_lowest_78 c67 ?_
            rw [hQ]
            exact xg_erl S hr hlk (by subst ev1; first | (unfold dc_low; rw [hgc, if_pos c67]) | (unfold dc_low; rw [hgc, if_neg c67])) dX0_lowest_79
          · skip
            refine lv_lload hx hb dX0_lowest_70 (lv_at hl 0 rfl) ?_
            refine lv_goto (tgt := 79) hx hb dX0_lowest_72 (by decide) ?_
            rw [hQ]
            exact xg_erl S hr hlk (by subst ev1; first | (unfold dc_low; rw [hgc, if_pos c67]) | (unfold dc_low; rw [hgc, if_neg c67])) dX0_lowest_79
        refine lv_if_ne (tgt := 58) hx hb dX0_lowest_48 (by decide) (fun c48 => ?_) (fun c48 => ?_)
        · skip
          refine lv_aload_n hx hb dX0_lowest_58 rfl (lv_at hl 0 rfl) ?_
          refine xg_get (C := RX0) (T := TX0) (N := 2) S hK hG (fun w h => List.mem_cons_of_mem _ (List.mem_append_right _ (h))) b hCh rfl 1 (by decide) k0 (fun _ h9 => h9) rfl dX0_lowest_59 ?_
          exact jn62_1 _ (by rw [if_neg c48])
        · skip
          refine lv_aload_n hx hb dX0_lowest_51 rfl (lv_at hl 0 rfl) ?_
          refine xg_get (C := RX0) (T := TX0) (N := 2) S hK hG (fun w h => List.mem_cons_of_mem _ (List.mem_append_right _ (h))) b hCh rfl 0 (by decide) k1 (fun _ h9 => h9) rfl dX0_lowest_52 ?_
          refine lv_goto (tgt := 62) hx hb dX0_lowest_55 (by decide) ?_
          exact jn62_1 _ (by rw [if_pos c48])
      · skip
        have hk9 : k < 100 := xb_lt (by omega) (by decide) c18
        refine lv_lload hx hb dX0_lowest_21 (lv_at hl 3 rfl) ?_
        refine lv_lconst (v := 0) hx hb dX0_lowest_23 (by decide) ?_
        refine xb_lcmp S dX0_lowest_24 ?_
        refine xb_leq (tgt := 47) S dX0_lowest_25 (by decide) (fun c25 => ?_) (fun c25 => ?_)
        · skip
          have hgc : xw_gc 100 v u = sh := by rw [hr2, xw_gc_S hk9, if_pos c25]
          refine lv_iload_n hx hb dX0_lowest_47 rfl (lv_at hl 1 rfl) ?_
          have jn62_2 : ∀ v2 : Int64, v2 = (if x = 0 then u else v) → W pg l en ({ frames := 0, cells := 0, slots := 0, locals := 0 } : Room) s m ([.ref (ad b), .int x] : List Value).toArray below meth c s.heap [] 0 0 Q (F0 m 62 ls [.long v2]) := by
            intro v2 ev2
            replace ev2 := ev2.symm
            refine lv_lstore (lv' := [(6, .long v2), (0, .ref (ad b)), (1, .int x), (2, .long sh), (4, .long re)]) hx hb dX0_lowest_62 hl (by decide) rfl (fun ls hl => ?_)
            refine lv_lload_n hx hb dX0_lowest_64 rfl (lv_at hl 3 rfl) ?_
            refine lv_lconst (v := 0) hx hb dX0_lowest_65 (by decide) ?_
            refine xb_lcmp S dX0_lowest_66 ?_
            refine xb_lne (tgt := 75) S dX0_lowest_67 (by decide) (fun c67 => ?_) (fun c67 => ?_)
            · skip
              refine lv_lload hx hb dX0_lowest_75 (lv_at hl 0 rfl) ?_
              refine lv_lload_n hx hb dX0_lowest_77 rfl (lv_at hl 3 rfl) ?_
              refine lv_ldiv hx hb dX0_lowest_78 c67 ?_
              rw [hQ]
              exact xg_erl S hr hlk (by subst ev2; first | (unfold dc_low; rw [hgc, if_pos c67]) | (unfold dc_low; rw [hgc, if_neg c67])) dX0_lowest_79
            · skip
              refine lv_lload hx hb dX0_lowest_70 (lv_at hl 0 rfl) ?_
              refine lv_goto (tgt := 79) hx hb dX0_lowest_72 (by decide) ?_
              rw [hQ]
              exact xg_erl S hr hlk (by subst ev2; first | (unfold dc_low; rw [hgc, if_pos c67]) | (unfold dc_low; rw [hgc, if_neg c67])) dX0_lowest_79
          refine lv_if_ne (tgt := 58) hx hb dX0_lowest_48 (by decide) (fun c48 => ?_) (fun c48 => ?_)
          · skip
            refine lv_aload_n hx hb dX0_lowest_58 rfl (lv_at hl 0 rfl) ?_
            refine xg_get (C := RX0) (T := TX0) (N := 2) S hK hG (fun w h => List.mem_cons_of_mem _ (List.mem_append_right _ (h))) b hCh rfl 1 (by decide) k0 (fun _ h9 => h9) rfl dX0_lowest_59 ?_
            exact jn62_2 _ (by rw [if_neg c48])
          · skip
            refine lv_aload_n hx hb dX0_lowest_51 rfl (lv_at hl 0 rfl) ?_
            refine xg_get (C := RX0) (T := TX0) (N := 2) S hK hG (fun w h => List.mem_cons_of_mem _ (List.mem_append_right _ (h))) b hCh rfl 0 (by decide) k1 (fun _ h9 => h9) rfl dX0_lowest_52 ?_
            refine lv_goto (tgt := 62) hx hb dX0_lowest_55 (by decide) ?_
            exact jn62_2 _ (by rw [if_pos c48])
        · skip
          refine lv_lload_n hx hb dX0_lowest_28 rfl (lv_at hl 2 rfl) ?_
          refine lv_lload hx hb dX0_lowest_29 (lv_at hl 3 rfl) ?_
          refine lv_lrem hx hb dX0_lowest_31 c25 ?_
          refine lv_topl (fun x3 ex3 => ?_)
          replace ex3 := ex3.symm
          refine lv_lstore (lv' := [(7, .long x3), (0, .ref (ad b)), (1, .int x), (2, .long sh), (4, .long re), (6, .int (nI k))]) hx hb dX0_lowest_32 hl (by decide) rfl (fun ls hl => ?_)
          refine lv_lload hx hb dX0_lowest_34 (lv_at hl 4 rfl) ?_
          refine lv_lstore_n (lv' := [(2, .long re), (7, .long x3), (0, .ref (ad b)), (1, .int x), (4, .long re), (6, .int (nI k))]) hx hb dX0_lowest_36 rfl hl (by decide) rfl (fun ls hl => ?_)
          refine lv_lload hx hb dX0_lowest_37 (lv_at hl 1 rfl) ?_
          refine lv_lstore (lv' := [(4, .long x3), (2, .long re), (7, .long x3), (0, .ref (ad b)), (1, .int x), (6, .int (nI k))]) hx hb dX0_lowest_39 hl (by decide) rfl (fun ls hl => ?_)
          obtain ⟨x4, ex4⟩ : ∃ zz : Int32, (nI k) + 1 = zz := ⟨_, rfl⟩
          refine lv_iinc (v := x4) (lv' := [(6, .int x4), (4, .long x3), (2, .long re), (7, .long x3), (0, .ref (ad b)), (1, .int x)]) hx hb dX0_lowest_41 hl (k := 5) rfl (by rw [← ex4]; rfl) (by decide) rfl (fun ls hl => ?_)
          refine lv_goto (tgt := 14) hx hb dX0_lowest_44 (by decide) ?_
          exact ih (k + 1) re x3 (by omega) (by omega) (by rw [hr2, xw_gc_S hk9, if_neg c25]; subst ex3 ex4; rfl) x4 (by subst ex3 ex4; exact nI_1 k) ls (lv_sub hl [4, 5, 2, 1, 0] rfl)
  exact lp14 101 0 v u (by omega) (by omega) rfl 0 (by skip; rfl) ls (lv_sub hl [3, 4, 2, 1, 0] rfl)
