set_option maxHeartbeats 4000000 in
set_option maxRecDepth 100000 in
theorem mX0_init (l : Launch) (D : va_G) (cI cZ : ClassId) (bs : Nat) (pre : va_W) (a : Nat) : Met l yX0_init wsX0_init ({ frames := 1, cells := 0, slots := 0, locals := 24 } : Room) (va_Pc [.ref a] (fun U => xg_W D cI cZ bs (pre ++ [(a, .inr (0, [.long 0, .long 0]))]) U)) (va_Qv (fun w : va_W => ∃ q : Nat → Nat, q 0 = a ∧ w = pre ++ xi_0 cI q) (fun w t => xg_W D cI cZ bs w t) (xg_A bs)) 0 0 (xg_A bs) := by
  refine xg_met cX0_init 1 none RX0 (by decide) rfl rfl (Nat.le_of_ble_eq_true rfl) ?_
  intro pg en s m below meth c ls S hr hlk hnm hB hl
  have hK := hB.1
  have hG := xg_start hB
  obtain ⟨hx, hb, hml, hown, hts⟩ := id S
  have hl : lv_has ls 1 [(0, .ref a)] := hl
  have hnm : meth.name = "<init>" := hnm
  obtain ⟨Q, hQ⟩ : ∃ Q, Q = MQ below (va_Qv (fun w : va_W => ∃ q : Nat → Nat, q 0 = a ∧ w = pre ++ xi_0 cI q) (fun w t => xg_W D cI cZ bs w t) (xg_A bs)) ([.ref a] : List Value).toArray s 0 0 (xg_A bs) := ⟨_, rfl⟩
  rw [← hQ]
  have k0 := hts (.methodLink RX0 1 objectInit) (List.mem_of_getElem? (i := 1) rfl)
  have k1 := hts (.instanceMethod objectInit) (List.mem_of_getElem? (i := 2) rfl)
  have k2 := hts (.code objectInit ⟨#[0xb1]⟩ 1 none) (List.mem_of_getElem? (i := 3) rfl)
  have k3 := hts (.fieldLink RX0 7 "DareBridge$Chance" "upper" "J") (List.mem_of_getElem? (i := 4) rfl)
  have k4 := hts (.fieldLink RX0 13 "DareBridge$Chance" "lower" "J") (List.mem_of_getElem? (i := 5) rfl)
  refine lv_aload_n hx hb dX0_init_0 rfl (lv_at hl 0 rfl) ?_
  refine W.objInit hx hb hown k0 k1 k2 rfl (by rw [hml]; exact hl.1) rfl dX0_init_1 (Nat.le_of_ble_eq_true rfl) (Nat.le_of_ble_eq_true rfl) ?_
  refine W.eq (g2 := F0 m 4 ls []) rfl ?_
  refine lv_aload_n hx hb dX0_init_4 rfl (lv_at hl 0 rfl) ?_
  refine lv_lconst (v := 1) hx hb dX0_init_5 (by decide) ?_
  refine xi_put (ty := .long) (v := .long 1) (C := RX0) (T := TX0) (N := 2) S hK hG (fun w h => List.mem_cons_of_mem _ (List.mem_append_right _ (h))) tyX0 tyX0_ok nmX0 rfl 0 (by decide) k3 (fun _ h9 => h9) rfl (by decide +kernel) rfl rfl (Nat.le_of_ble_eq_true rfl) dX0_init_6 (fun H locs hG => ?_)
  have hG : xg_H D bs (pre ++ (a, .inr (0, [.long 1, .long 0])) :: ([])) s.heap H locs := hG
  refine lv_aload_n hx hb dX0_init_9 rfl (lv_at hl 0 rfl) ?_
  refine lv_lconst (v := 1) hx hb dX0_init_10 (by decide) ?_
  refine xi_put (ty := .long) (v := .long 1) (C := RX0) (T := TX0) (N := 2) S hK hG (fun w h => List.mem_cons_of_mem _ (List.mem_append_right _ (h))) tyX0 tyX0_ok nmX0 rfl 1 (by decide) k4 (fun _ h9 => h9) rfl (by decide +kernel) rfl rfl (Nat.le_of_ble_eq_true rfl) dX0_init_11 (fun H locs hG => ?_)
  have hG : xg_H D bs (pre ++ (a, .inr (0, [.long 1, .long 1])) :: ([])) s.heap H locs := hG
  rw [hQ]
  exact xg_emv S hr hlk hK hG ⟨fun k => if k = 0 then a else 0, rfl, rfl⟩ dX0_init_14
set_option maxHeartbeats 4000000 in
set_option maxRecDepth 100000 in
theorem mX1_init (l : Launch) (D : va_G) (cI cZ : ClassId) (bs : Nat) (pre : va_W) (a : Nat) : Met l yX1_init wsX1_init ({ frames := 2, cells := 1, slots := 2, locals := 44 } : Room) (va_Pc [.ref a] (fun U => xg_W D cI cZ bs (pre ++ [(a, .inr (1, [.null, .int 0, .int 0, .int 0]))]) U)) (va_Qv (fun w : va_W => ∃ q : Nat → Nat, q 0 = a ∧ w = pre ++ xi_1 cI q) (fun w t => xg_W D cI cZ bs w t) (xg_A bs)) 1 2 (xg_A bs) := by
  refine xg_met cX1_init 1 none RX1 (by decide) rfl rfl (Nat.le_of_ble_eq_true rfl) ?_
  intro pg en s m below meth c ls S hr hlk hnm hB hl
  have hK := hB.1
  have hG := xg_start hB
  obtain ⟨hx, hb, hml, hown, hts⟩ := id S
  have hl : lv_has ls 1 [(0, .ref a)] := hl
  have hnm : meth.name = "<init>" := hnm
  obtain ⟨Q, hQ⟩ : ∃ Q, Q = MQ below (va_Qv (fun w : va_W => ∃ q : Nat → Nat, q 0 = a ∧ w = pre ++ xi_1 cI q) (fun w t => xg_W D cI cZ bs w t) (xg_A bs)) ([.ref a] : List Value).toArray s 1 2 (xg_A bs) := ⟨_, rfl⟩
  rw [← hQ]
  have k0 := hts (.methodLink RX1 3 objectInit) (List.mem_of_getElem? (i := 1) rfl)
  have k1 := hts (.instanceMethod objectInit) (List.mem_of_getElem? (i := 2) rfl)
  have k2 := hts (.code objectInit ⟨#[0xb1]⟩ 1 none) (List.mem_of_getElem? (i := 3) rfl)
  have k3 := hts (.classLink RX1 9 RX0) (List.mem_of_getElem? (i := 4) rfl)
  have k4 := hts (.instantiable RX0 2) (List.mem_of_getElem? (i := 5) rfl)
  have k5 := hts (.initialized RX0) (List.mem_of_getElem? (i := 6) rfl)
  have k6 := hts (.instanceMethod yX0_init) (List.mem_of_getElem? (i := 8) rfl)
  have k7 := hts (.fieldLink RX1 12 "DareBridge$Climb" "luck" "LDareBridge$Chance;") (List.mem_of_getElem? (i := 7) rfl)
  refine lv_aload_n hx hb dX1_init_0 rfl (lv_at hl 0 rfl) ?_
  refine W.objInit hx hb hown k0 k1 k2 rfl (by rw [hml]; exact hl.1) rfl dX1_init_1 (Nat.le_of_ble_eq_true rfl) (Nat.le_of_ble_eq_true rfl) ?_
  refine W.eq (g2 := F0 m 4 ls []) rfl ?_
  refine lv_aload_n hx hb dX1_init_4 rfl (lv_at hl 0 rfl) ?_
  refine xi_new (ci := 0) (fs := [.long 0, .long 0]) (C := RX0) (T := TX0) (N := 2) S hK hG (fun w h => List.mem_cons_of_mem _ (List.mem_append_left _ (List.mem_append_right _ (h)))) tyX0 tyX0_ok k3 k4 k5 rfl (fun j hj => by rcases (show j = 0 ∨ j = 1 by omega) with rfl | rfl <;> rfl) (Nat.le_of_ble_eq_true rfl) (Nat.le_of_ble_eq_true rfl) dX1_init_5 (fun q1 H hG => ?_)
  refine W.widen (k := 1) (n := 2) (Nat.le_of_ble_eq_true rfl) (Nat.le_of_ble_eq_true rfl) ?_
  refine lv_dup hx hb dX1_init_8 rfl ?_
  refine xg_mv (va_runIN (As := []) (rest := [.ref q1, .ref a]) S (mX0_init l D cI cZ bs (pre ++ (a, .inr (1, [.null, .int 0, .int 0, .int 0])) :: ([])) q1) ⟨(va_cnB 0 hts gX1_init_X0_init_n11 rfl rfl rfl (hK.2.1 _ xg_nest_6) k5 (by decide +kernel) ⟨Nat.le_of_ble_eq_true rfl, Nat.le_of_ble_eq_true rfl⟩), rfl, k6⟩ (xg_preS hK hG) rfl rfl hl.1 rfl (lv_room (Nat.le_of_ble_eq_true rfl)) dX1_init_9 ⟨Nat.le_of_ble_eq_true rfl, Nat.le_of_ble_eq_true rfl⟩) hG (fun w H locs hw hG => ?_)
  obtain ⟨f2, ef2, rfl⟩ := hw
  refine W.widen (k := 1) (n := 2) (Nat.le_of_ble_eq_true rfl) (Nat.le_of_ble_eq_true rfl) ?_
  rw [← ef2]
  replace hG := xi_asc hG
  have hG : xg_H D bs (pre ++ (a, .inr (1, [.null, .int 0, .int 0, .int 0])) :: (xi_0 cI f2)) s.heap H locs := hG
  refine xi_putF (ty := .object "DareBridge$Chance") (v := .ref (f2 0)) (C := RX1) (T := TX1) (N := 4) S hK hG (fun w h => List.mem_cons_of_mem _ (List.mem_append_right _ (h))) tyX1 tyX1_ok nmX1 rfl 0 (by decide) k7 (fun _ h9 => h9) rfl hnm rfl (by decide +kernel) rfl rfl (Nat.le_of_ble_eq_true rfl) dX1_init_12 (fun H locs hG => ?_)
  have hG : xg_H D bs (pre ++ (a, .inr (1, [.ref (f2 0), .int 0, .int 0, .int 0])) :: (xi_0 cI f2)) s.heap H locs := hG
  rw [hQ]
  exact xg_emv S hr hlk hK hG ⟨fun k => if k = 0 then a else if k < 2 then f2 (k - 1) else 0, rfl, rfl⟩ dX1_init_15
set_option maxHeartbeats 4000000 in
set_option maxRecDepth 100000 in
theorem mX2_init (l : Launch) (D : va_G) (cI cZ : ClassId) (bs : Nat) (pre : va_W) (a : Nat) : Met l yX2_init wsX2_init ({ frames := 1, cells := 0, slots := 0, locals := 24 } : Room) (va_Pc [.ref a] (fun U => xg_W D cI cZ bs (pre ++ [(a, .inr (2, [.int 0, .int 0, .int 0]))]) U)) (va_Qv (fun w : va_W => ∃ q : Nat → Nat, q 0 = a ∧ w = pre ++ xi_2 cI q) (fun w t => xg_W D cI cZ bs w t) (xg_A bs)) 0 0 (xg_A bs) := by
  refine xg_met cX2_init 1 none RX2 (by decide) rfl rfl (Nat.le_of_ble_eq_true rfl) ?_
  intro pg en s m below meth c ls S hr hlk hnm hB hl
  have hK := hB.1
  have hG := xg_start hB
  obtain ⟨hx, hb, hml, hown, hts⟩ := id S
  have hl : lv_has ls 1 [(0, .ref a)] := hl
  have hnm : meth.name = "<init>" := hnm
  obtain ⟨Q, hQ⟩ : ∃ Q, Q = MQ below (va_Qv (fun w : va_W => ∃ q : Nat → Nat, q 0 = a ∧ w = pre ++ xi_2 cI q) (fun w t => xg_W D cI cZ bs w t) (xg_A bs)) ([.ref a] : List Value).toArray s 0 0 (xg_A bs) := ⟨_, rfl⟩
  rw [← hQ]
  have k0 := hts (.methodLink RX2 3 objectInit) (List.mem_of_getElem? (i := 1) rfl)
  have k1 := hts (.instanceMethod objectInit) (List.mem_of_getElem? (i := 2) rfl)
  have k2 := hts (.code objectInit ⟨#[0xb1]⟩ 1 none) (List.mem_of_getElem? (i := 3) rfl)
  refine lv_aload_n hx hb dX2_init_0 rfl (lv_at hl 0 rfl) ?_
  refine W.objInit hx hb hown k0 k1 k2 rfl (by rw [hml]; exact hl.1) rfl dX2_init_1 (Nat.le_of_ble_eq_true rfl) (Nat.le_of_ble_eq_true rfl) ?_
  refine W.eq (g2 := F0 m 4 ls []) rfl ?_
  rw [hQ]
  exact xg_emv S hr hlk hK hG ⟨fun k => if k = 0 then a else 0, rfl, rfl⟩ dX2_init_4
set_option maxHeartbeats 4000000 in
set_option maxRecDepth 100000 in
theorem mX3_init (l : Launch) (D : va_G) (cI cZ : ClassId) (bs : Nat) (pre : va_W) (a : Nat) : Met l yX3_init wsX3_init ({ frames := 1, cells := 1, slots := 60, locals := 24 } : Room) (va_Pc [.ref a] (fun U => xg_W D cI cZ bs (pre ++ [(a, .inr (3, [.null, .int 0]))]) U)) (va_Qv (fun w : va_W => ∃ q : Nat → Nat, q 0 = a ∧ w = pre ++ xi_3 cI q) (fun w t => xg_W D cI cZ bs w t) (xg_A bs)) 1 60 (xg_A bs) := by
  refine xg_met cX3_init 1 none RX3 (by decide) rfl rfl (Nat.le_of_ble_eq_true rfl) ?_
  intro pg en s m below meth c ls S hr hlk hnm hB hl
  have hK := hB.1
  have hG := xg_start hB
  obtain ⟨hx, hb, hml, hown, hts⟩ := id S
  have hl : lv_has ls 1 [(0, .ref a)] := hl
  have hnm : meth.name = "<init>" := hnm
  obtain ⟨Q, hQ⟩ : ∃ Q, Q = MQ below (va_Qv (fun w : va_W => ∃ q : Nat → Nat, q 0 = a ∧ w = pre ++ xi_3 cI q) (fun w t => xg_W D cI cZ bs w t) (xg_A bs)) ([.ref a] : List Value).toArray s 1 60 (xg_A bs) := ⟨_, rfl⟩
  rw [← hQ]
  have k0 := hts (.methodLink RX3 3 objectInit) (List.mem_of_getElem? (i := 1) rfl)
  have k1 := hts (.instanceMethod objectInit) (List.mem_of_getElem? (i := 2) rfl)
  have k2 := hts (.code objectInit ⟨#[0xb1]⟩ 1 none) (List.mem_of_getElem? (i := 3) rfl)
  have k3 := hts (.arrayClass .int) (List.mem_of_getElem? (i := 4) rfl)
  have k4 := hts (.fieldLink RX3 9 "DareBridge$Pad" "signs" "[I") (List.mem_of_getElem? (i := 5) rfl)
  have k5 := hts (.fieldLink RX3 15 "DareBridge$Pad" "count" "I") (List.mem_of_getElem? (i := 6) rfl)
  refine lv_aload_n hx hb dX3_init_0 rfl (lv_at hl 0 rfl) ?_
  refine W.objInit hx hb hown k0 k1 k2 rfl (by rw [hml]; exact hl.1) rfl dX3_init_1 (Nat.le_of_ble_eq_true rfl) (Nat.le_of_ble_eq_true rfl) ?_
  refine W.eq (g2 := F0 m 4 ls []) rfl ?_
  refine lv_aload_n hx hb dX3_init_4 rfl (lv_at hl 0 rfl) ?_
  refine lv_bipush (v := 60) hx hb dX3_init_5 (by decide) ?_
  refine xi_newi (n := 60) (N := 60) S hK hG k3 (by decide) rfl (Nat.le_of_ble_eq_true rfl) (Nat.le_of_ble_eq_true rfl) (Nat.le_of_ble_eq_true rfl) dX3_init_7 (fun q1 H hG => ?_)
  refine W.widen (k := 1) (n := 60) (Nat.le_of_ble_eq_true rfl) (Nat.le_of_ble_eq_true rfl) ?_
  have hG : xg_H D bs (pre ++ (a, .inr (3, [.null, .int 0])) :: ([(q1, .inl (cI, 60, .inl xi_z))])) s.heap H [] := hG
  refine xi_putF (ty := .array .int) (v := .ref q1) (C := RX3) (T := TX3) (N := 2) S hK hG (fun w h => List.mem_cons_of_mem _ (List.mem_append_right _ (h))) tyX3 tyX3_ok nmX3 rfl 0 (by decide) k4 (fun _ h9 => h9) rfl hnm rfl (by decide +kernel) rfl rfl (Nat.le_of_ble_eq_true rfl) dX3_init_9 (fun H locs hG => ?_)
  have hG : xg_H D bs (pre ++ (a, .inr (3, [.ref q1, .int 0])) :: ([(q1, .inl (cI, 60, .inl xi_z))])) s.heap H locs := hG
  refine lv_aload_n hx hb dX3_init_12 rfl (lv_at hl 0 rfl) ?_
  refine lv_iconst (v := 0) hx hb dX3_init_13 (by decide) ?_
  refine xi_put (ty := .int) (v := .int 0) (C := RX3) (T := TX3) (N := 2) S hK hG (fun w h => List.mem_cons_of_mem _ (List.mem_append_right _ (h))) tyX3 tyX3_ok nmX3 rfl 1 (by decide) k5 (fun _ h9 => h9) rfl (by decide +kernel) rfl rfl (Nat.le_of_ble_eq_true rfl) dX3_init_14 (fun H locs hG => ?_)
  have hG : xg_H D bs (pre ++ (a, .inr (3, [.ref q1, .int 0])) :: ([(q1, .inl (cI, 60, .inl xi_z))])) s.heap H locs := hG
  rw [hQ]
  exact xg_emv S hr hlk hK hG ⟨fun k => if k = 0 then a else if k < 2 then q1 else 0, rfl, rfl⟩ dX3_init_17
set_option maxHeartbeats 4000000 in
set_option maxRecDepth 100000 in
theorem mX5_init (l : Launch) (D : va_G) (cI cZ : ClassId) (bs : Nat) (pre : va_W) (a : Nat) : Met l yX5_init wsX5_init ({ frames := 2, cells := 12, slots := 73, locals := 44 } : Room) (va_Pc [.ref a] (fun U => xg_W D cI cZ bs (pre ++ [(a, .inr (5, [.null, .null, .null, .null, .null, .null, .null, .null, .null, .null, .null, .null, .int 0]))]) U)) (va_Qv (fun w : va_W => ∃ q : Nat → Nat, q 0 = a ∧ w = pre ++ xi_5 cI q) (fun w t => xg_W D cI cZ bs w t) (xg_A bs)) 12 73 (xg_A bs) := by
  refine xg_met cX5_init 1 none RX5 (by decide) rfl rfl (Nat.le_of_ble_eq_true rfl) ?_
  intro pg en s m below meth c ls S hr hlk hnm hB hl
  have hK := hB.1
  have hG := xg_start hB
  obtain ⟨hx, hb, hml, hown, hts⟩ := id S
  have hl : lv_has ls 1 [(0, .ref a)] := hl
  have hnm : meth.name = "<init>" := hnm
  obtain ⟨Q, hQ⟩ : ∃ Q, Q = MQ below (va_Qv (fun w : va_W => ∃ q : Nat → Nat, q 0 = a ∧ w = pre ++ xi_5 cI q) (fun w t => xg_W D cI cZ bs w t) (xg_A bs)) ([.ref a] : List Value).toArray s 12 73 (xg_A bs) := ⟨_, rfl⟩
  rw [← hQ]
  have k0 := hts (.methodLink RX5 3 objectInit) (List.mem_of_getElem? (i := 1) rfl)
  have k1 := hts (.instanceMethod objectInit) (List.mem_of_getElem? (i := 2) rfl)
  have k2 := hts (.code objectInit ⟨#[0xb1]⟩ 1 none) (List.mem_of_getElem? (i := 3) rfl)
  have k3 := hts (.arrayClass .int) (List.mem_of_getElem? (i := 4) rfl)
  have k4 := hts (.fieldLink RX5 9 "DareBridge$Town" "rules" "[I") (List.mem_of_getElem? (i := 5) rfl)
  have k5 := hts (.fieldLink RX5 15 "DareBridge$Town" "there" "[I") (List.mem_of_getElem? (i := 6) rfl)
  have k6 := hts (.fieldLink RX5 18 "DareBridge$Town" "skill" "[I") (List.mem_of_getElem? (i := 7) rfl)
  have k7 := hts (.fieldLink RX5 21 "DareBridge$Town" "fear" "[I") (List.mem_of_getElem? (i := 8) rfl)
  have k8 := hts (.fieldLink RX5 24 "DareBridge$Town" "pride" "[I") (List.mem_of_getElem? (i := 9) rfl)
  have k9 := hts (.fieldLink RX5 27 "DareBridge$Town" "wish" "[I") (List.mem_of_getElem? (i := 10) rfl)
  have k10 := hts (.fieldLink RX5 30 "DareBridge$Town" "high" "[I") (List.mem_of_getElem? (i := 11) rfl)
  have k11 := hts (.fieldLink RX5 33 "DareBridge$Town" "fame" "[I") (List.mem_of_getElem? (i := 12) rfl)
  have k12 := hts (.fieldLink RX5 36 "DareBridge$Town" "plaster" "[I") (List.mem_of_getElem? (i := 13) rfl)
  have k13 := hts (.fieldLink RX5 39 "DareBridge$Town" "sightOf" "[I") (List.mem_of_getElem? (i := 14) rfl)
  have k14 := hts (.fieldLink RX5 42 "DareBridge$Town" "sightHeight" "[I") (List.mem_of_getElem? (i := 15) rfl)
  have k15 := hts (.fieldLink RX5 45 "DareBridge$Town" "sightDid" "[I") (List.mem_of_getElem? (i := 16) rfl)
  have k16 := hts (.fieldLink RX5 48 "DareBridge$Town" "sights" "I") (List.mem_of_getElem? (i := 17) rfl)
  have k17 := hts (.initialized RX7) (List.mem_of_getElem? (i := 19) rfl)
  have k18 := hts (.static yX7_copyRow) (List.mem_of_getElem? (i := 18) rfl)
  refine lv_aload_n hx hb dX5_init_0 rfl (lv_at hl 0 rfl) ?_
  refine W.objInit hx hb hown k0 k1 k2 rfl (by rw [hml]; exact hl.1) rfl dX5_init_1 (Nat.le_of_ble_eq_true rfl) (Nat.le_of_ble_eq_true rfl) ?_
  refine W.eq (g2 := F0 m 4 ls []) rfl ?_
  refine lv_aload_n hx hb dX5_init_4 rfl (lv_at hl 0 rfl) ?_
  refine lv_bipush (v := 7) hx hb dX5_init_5 (by decide) ?_
  refine xi_newi (n := 7) (N := 7) S hK hG k3 (by decide) rfl (Nat.le_of_ble_eq_true rfl) (Nat.le_of_ble_eq_true rfl) (Nat.le_of_ble_eq_true rfl) dX5_init_7 (fun q1 H hG => ?_)
  refine W.widen (k := 1) (n := 7) (Nat.le_of_ble_eq_true rfl) (Nat.le_of_ble_eq_true rfl) ?_
  have hG : xg_H D bs (pre ++ (a, .inr (5, [.null, .null, .null, .null, .null, .null, .null, .null, .null, .null, .null, .null, .int 0])) :: ([(q1, .inl (cI, 7, .inl xi_z))])) s.heap H [] := hG
  refine xi_putF (ty := .array .int) (v := .ref q1) (C := RX5) (T := TX5) (N := 13) S hK hG (fun w h => List.mem_cons_of_mem _ (List.mem_append_right _ (h))) tyX5 tyX5_ok nmX5 rfl 0 (by decide) k4 (fun _ h9 => h9) rfl hnm rfl (by decide +kernel) rfl rfl (Nat.le_of_ble_eq_true rfl) dX5_init_9 (fun H locs hG => ?_)
  have hG : xg_H D bs (pre ++ (a, .inr (5, [.ref q1, .null, .null, .null, .null, .null, .null, .null, .null, .null, .null, .null, .int 0])) :: ([(q1, .inl (cI, 7, .inl xi_z))])) s.heap H locs := hG
  refine lv_aload_n hx hb dX5_init_12 rfl (lv_at hl 0 rfl) ?_
  refine lv_bipush (v := 6) hx hb dX5_init_13 (by decide) ?_
  refine xi_newi (n := 6) (N := 6) S hK hG k3 (by decide) rfl (Nat.le_of_ble_eq_true rfl) (Nat.le_of_ble_eq_true rfl) (Nat.le_of_ble_eq_true rfl) dX5_init_15 (fun q2 H hG => ?_)
  refine W.widen (k := 2) (n := 13) (Nat.le_of_ble_eq_true rfl) (Nat.le_of_ble_eq_true rfl) ?_
  have hG : xg_H D bs (pre ++ (a, .inr (5, [.ref q1, .null, .null, .null, .null, .null, .null, .null, .null, .null, .null, .null, .int 0])) :: ([(q1, .inl (cI, 7, .inl xi_z)), (q2, .inl (cI, 6, .inl xi_z))])) s.heap H locs := hG
  refine xi_putF (ty := .array .int) (v := .ref q2) (C := RX5) (T := TX5) (N := 13) S hK hG (fun w h => List.mem_cons_of_mem _ (List.mem_append_right _ (h))) tyX5 tyX5_ok nmX5 rfl 1 (by decide) k5 (fun _ h9 => h9) rfl hnm rfl (by decide +kernel) rfl rfl (Nat.le_of_ble_eq_true rfl) dX5_init_17 (fun H locs hG => ?_)
  have hG : xg_H D bs (pre ++ (a, .inr (5, [.ref q1, .ref q2, .null, .null, .null, .null, .null, .null, .null, .null, .null, .null, .int 0])) :: ([(q1, .inl (cI, 7, .inl xi_z)), (q2, .inl (cI, 6, .inl xi_z))])) s.heap H locs := hG
  refine lv_aload_n hx hb dX5_init_20 rfl (lv_at hl 0 rfl) ?_
  refine lv_bipush (v := 6) hx hb dX5_init_21 (by decide) ?_
  refine xi_newi (n := 6) (N := 6) S hK hG k3 (by decide) rfl (Nat.le_of_ble_eq_true rfl) (Nat.le_of_ble_eq_true rfl) (Nat.le_of_ble_eq_true rfl) dX5_init_23 (fun q3 H hG => ?_)
  refine W.widen (k := 3) (n := 19) (Nat.le_of_ble_eq_true rfl) (Nat.le_of_ble_eq_true rfl) ?_
  have hG : xg_H D bs (pre ++ (a, .inr (5, [.ref q1, .ref q2, .null, .null, .null, .null, .null, .null, .null, .null, .null, .null, .int 0])) :: ([(q1, .inl (cI, 7, .inl xi_z)), (q2, .inl (cI, 6, .inl xi_z)), (q3, .inl (cI, 6, .inl xi_z))])) s.heap H locs := hG
  refine xi_putF (ty := .array .int) (v := .ref q3) (C := RX5) (T := TX5) (N := 13) S hK hG (fun w h => List.mem_cons_of_mem _ (List.mem_append_right _ (h))) tyX5 tyX5_ok nmX5 rfl 2 (by decide) k6 (fun _ h9 => h9) rfl hnm rfl (by decide +kernel) rfl rfl (Nat.le_of_ble_eq_true rfl) dX5_init_25 (fun H locs hG => ?_)
  have hG : xg_H D bs (pre ++ (a, .inr (5, [.ref q1, .ref q2, .ref q3, .null, .null, .null, .null, .null, .null, .null, .null, .null, .int 0])) :: ([(q1, .inl (cI, 7, .inl xi_z)), (q2, .inl (cI, 6, .inl xi_z)), (q3, .inl (cI, 6, .inl xi_z))])) s.heap H locs := hG
  refine lv_aload_n hx hb dX5_init_28 rfl (lv_at hl 0 rfl) ?_
  refine lv_bipush (v := 6) hx hb dX5_init_29 (by decide) ?_
  refine xi_newi (n := 6) (N := 6) S hK hG k3 (by decide) rfl (Nat.le_of_ble_eq_true rfl) (Nat.le_of_ble_eq_true rfl) (Nat.le_of_ble_eq_true rfl) dX5_init_31 (fun q4 H hG => ?_)
  refine W.widen (k := 4) (n := 25) (Nat.le_of_ble_eq_true rfl) (Nat.le_of_ble_eq_true rfl) ?_
  have hG : xg_H D bs (pre ++ (a, .inr (5, [.ref q1, .ref q2, .ref q3, .null, .null, .null, .null, .null, .null, .null, .null, .null, .int 0])) :: ([(q1, .inl (cI, 7, .inl xi_z)), (q2, .inl (cI, 6, .inl xi_z)), (q3, .inl (cI, 6, .inl xi_z)), (q4, .inl (cI, 6, .inl xi_z))])) s.heap H locs := hG
  refine xi_putF (ty := .array .int) (v := .ref q4) (C := RX5) (T := TX5) (N := 13) S hK hG (fun w h => List.mem_cons_of_mem _ (List.mem_append_right _ (h))) tyX5 tyX5_ok nmX5 rfl 3 (by decide) k7 (fun _ h9 => h9) rfl hnm rfl (by decide +kernel) rfl rfl (Nat.le_of_ble_eq_true rfl) dX5_init_33 (fun H locs hG => ?_)
  have hG : xg_H D bs (pre ++ (a, .inr (5, [.ref q1, .ref q2, .ref q3, .ref q4, .null, .null, .null, .null, .null, .null, .null, .null, .int 0])) :: ([(q1, .inl (cI, 7, .inl xi_z)), (q2, .inl (cI, 6, .inl xi_z)), (q3, .inl (cI, 6, .inl xi_z)), (q4, .inl (cI, 6, .inl xi_z))])) s.heap H locs := hG
  refine lv_aload_n hx hb dX5_init_36 rfl (lv_at hl 0 rfl) ?_
  refine lv_bipush (v := 6) hx hb dX5_init_37 (by decide) ?_
  refine xi_newi (n := 6) (N := 6) S hK hG k3 (by decide) rfl (Nat.le_of_ble_eq_true rfl) (Nat.le_of_ble_eq_true rfl) (Nat.le_of_ble_eq_true rfl) dX5_init_39 (fun q5 H hG => ?_)
  refine W.widen (k := 5) (n := 31) (Nat.le_of_ble_eq_true rfl) (Nat.le_of_ble_eq_true rfl) ?_
  have hG : xg_H D bs (pre ++ (a, .inr (5, [.ref q1, .ref q2, .ref q3, .ref q4, .null, .null, .null, .null, .null, .null, .null, .null, .int 0])) :: ([(q1, .inl (cI, 7, .inl xi_z)), (q2, .inl (cI, 6, .inl xi_z)), (q3, .inl (cI, 6, .inl xi_z)), (q4, .inl (cI, 6, .inl xi_z)), (q5, .inl (cI, 6, .inl xi_z))])) s.heap H locs := hG
  refine xi_putF (ty := .array .int) (v := .ref q5) (C := RX5) (T := TX5) (N := 13) S hK hG (fun w h => List.mem_cons_of_mem _ (List.mem_append_right _ (h))) tyX5 tyX5_ok nmX5 rfl 4 (by decide) k8 (fun _ h9 => h9) rfl hnm rfl (by decide +kernel) rfl rfl (Nat.le_of_ble_eq_true rfl) dX5_init_41 (fun H locs hG => ?_)
  have hG : xg_H D bs (pre ++ (a, .inr (5, [.ref q1, .ref q2, .ref q3, .ref q4, .ref q5, .null, .null, .null, .null, .null, .null, .null, .int 0])) :: ([(q1, .inl (cI, 7, .inl xi_z)), (q2, .inl (cI, 6, .inl xi_z)), (q3, .inl (cI, 6, .inl xi_z)), (q4, .inl (cI, 6, .inl xi_z)), (q5, .inl (cI, 6, .inl xi_z))])) s.heap H locs := hG
  refine lv_aload_n hx hb dX5_init_44 rfl (lv_at hl 0 rfl) ?_
  refine lv_bipush (v := 6) hx hb dX5_init_45 (by decide) ?_
  refine xi_newi (n := 6) (N := 6) S hK hG k3 (by decide) rfl (Nat.le_of_ble_eq_true rfl) (Nat.le_of_ble_eq_true rfl) (Nat.le_of_ble_eq_true rfl) dX5_init_47 (fun q6 H hG => ?_)
  refine W.widen (k := 6) (n := 37) (Nat.le_of_ble_eq_true rfl) (Nat.le_of_ble_eq_true rfl) ?_
  have hG : xg_H D bs (pre ++ (a, .inr (5, [.ref q1, .ref q2, .ref q3, .ref q4, .ref q5, .null, .null, .null, .null, .null, .null, .null, .int 0])) :: ([(q1, .inl (cI, 7, .inl xi_z)), (q2, .inl (cI, 6, .inl xi_z)), (q3, .inl (cI, 6, .inl xi_z)), (q4, .inl (cI, 6, .inl xi_z)), (q5, .inl (cI, 6, .inl xi_z)), (q6, .inl (cI, 6, .inl xi_z))])) s.heap H locs := hG
  refine xi_putF (ty := .array .int) (v := .ref q6) (C := RX5) (T := TX5) (N := 13) S hK hG (fun w h => List.mem_cons_of_mem _ (List.mem_append_right _ (h))) tyX5 tyX5_ok nmX5 rfl 5 (by decide) k9 (fun _ h9 => h9) rfl hnm rfl (by decide +kernel) rfl rfl (Nat.le_of_ble_eq_true rfl) dX5_init_49 (fun H locs hG => ?_)
  have hG : xg_H D bs (pre ++ (a, .inr (5, [.ref q1, .ref q2, .ref q3, .ref q4, .ref q5, .ref q6, .null, .null, .null, .null, .null, .null, .int 0])) :: ([(q1, .inl (cI, 7, .inl xi_z)), (q2, .inl (cI, 6, .inl xi_z)), (q3, .inl (cI, 6, .inl xi_z)), (q4, .inl (cI, 6, .inl xi_z)), (q5, .inl (cI, 6, .inl xi_z)), (q6, .inl (cI, 6, .inl xi_z))])) s.heap H locs := hG
  refine lv_aload_n hx hb dX5_init_52 rfl (lv_at hl 0 rfl) ?_
  refine lv_bipush (v := 6) hx hb dX5_init_53 (by decide) ?_
  refine xi_newi (n := 6) (N := 6) S hK hG k3 (by decide) rfl (Nat.le_of_ble_eq_true rfl) (Nat.le_of_ble_eq_true rfl) (Nat.le_of_ble_eq_true rfl) dX5_init_55 (fun q7 H hG => ?_)
  refine W.widen (k := 7) (n := 43) (Nat.le_of_ble_eq_true rfl) (Nat.le_of_ble_eq_true rfl) ?_
  have hG : xg_H D bs (pre ++ (a, .inr (5, [.ref q1, .ref q2, .ref q3, .ref q4, .ref q5, .ref q6, .null, .null, .null, .null, .null, .null, .int 0])) :: ([(q1, .inl (cI, 7, .inl xi_z)), (q2, .inl (cI, 6, .inl xi_z)), (q3, .inl (cI, 6, .inl xi_z)), (q4, .inl (cI, 6, .inl xi_z)), (q5, .inl (cI, 6, .inl xi_z)), (q6, .inl (cI, 6, .inl xi_z)), (q7, .inl (cI, 6, .inl xi_z))])) s.heap H locs := hG
  refine xi_putF (ty := .array .int) (v := .ref q7) (C := RX5) (T := TX5) (N := 13) S hK hG (fun w h => List.mem_cons_of_mem _ (List.mem_append_right _ (h))) tyX5 tyX5_ok nmX5 rfl 6 (by decide) k10 (fun _ h9 => h9) rfl hnm rfl (by decide +kernel) rfl rfl (Nat.le_of_ble_eq_true rfl) dX5_init_57 (fun H locs hG => ?_)
  have hG : xg_H D bs (pre ++ (a, .inr (5, [.ref q1, .ref q2, .ref q3, .ref q4, .ref q5, .ref q6, .ref q7, .null, .null, .null, .null, .null, .int 0])) :: ([(q1, .inl (cI, 7, .inl xi_z)), (q2, .inl (cI, 6, .inl xi_z)), (q3, .inl (cI, 6, .inl xi_z)), (q4, .inl (cI, 6, .inl xi_z)), (q5, .inl (cI, 6, .inl xi_z)), (q6, .inl (cI, 6, .inl xi_z)), (q7, .inl (cI, 6, .inl xi_z))])) s.heap H locs := hG
  refine lv_aload_n hx hb dX5_init_60 rfl (lv_at hl 0 rfl) ?_
  refine lv_bipush (v := 6) hx hb dX5_init_61 (by decide) ?_
  refine xi_newi (n := 6) (N := 6) S hK hG k3 (by decide) rfl (Nat.le_of_ble_eq_true rfl) (Nat.le_of_ble_eq_true rfl) (Nat.le_of_ble_eq_true rfl) dX5_init_63 (fun q8 H hG => ?_)
  refine W.widen (k := 8) (n := 49) (Nat.le_of_ble_eq_true rfl) (Nat.le_of_ble_eq_true rfl) ?_
  have hG : xg_H D bs (pre ++ (a, .inr (5, [.ref q1, .ref q2, .ref q3, .ref q4, .ref q5, .ref q6, .ref q7, .null, .null, .null, .null, .null, .int 0])) :: ([(q1, .inl (cI, 7, .inl xi_z)), (q2, .inl (cI, 6, .inl xi_z)), (q3, .inl (cI, 6, .inl xi_z)), (q4, .inl (cI, 6, .inl xi_z)), (q5, .inl (cI, 6, .inl xi_z)), (q6, .inl (cI, 6, .inl xi_z)), (q7, .inl (cI, 6, .inl xi_z)), (q8, .inl (cI, 6, .inl xi_z))])) s.heap H locs := hG
  refine xi_putF (ty := .array .int) (v := .ref q8) (C := RX5) (T := TX5) (N := 13) S hK hG (fun w h => List.mem_cons_of_mem _ (List.mem_append_right _ (h))) tyX5 tyX5_ok nmX5 rfl 7 (by decide) k11 (fun _ h9 => h9) rfl hnm rfl (by decide +kernel) rfl rfl (Nat.le_of_ble_eq_true rfl) dX5_init_65 (fun H locs hG => ?_)
  have hG : xg_H D bs (pre ++ (a, .inr (5, [.ref q1, .ref q2, .ref q3, .ref q4, .ref q5, .ref q6, .ref q7, .ref q8, .null, .null, .null, .null, .int 0])) :: ([(q1, .inl (cI, 7, .inl xi_z)), (q2, .inl (cI, 6, .inl xi_z)), (q3, .inl (cI, 6, .inl xi_z)), (q4, .inl (cI, 6, .inl xi_z)), (q5, .inl (cI, 6, .inl xi_z)), (q6, .inl (cI, 6, .inl xi_z)), (q7, .inl (cI, 6, .inl xi_z)), (q8, .inl (cI, 6, .inl xi_z))])) s.heap H locs := hG
  refine lv_aload_n hx hb dX5_init_68 rfl (lv_at hl 0 rfl) ?_
  refine lv_bipush (v := 6) hx hb dX5_init_69 (by decide) ?_
  refine xi_newi (n := 6) (N := 6) S hK hG k3 (by decide) rfl (Nat.le_of_ble_eq_true rfl) (Nat.le_of_ble_eq_true rfl) (Nat.le_of_ble_eq_true rfl) dX5_init_71 (fun q9 H hG => ?_)
  refine W.widen (k := 9) (n := 55) (Nat.le_of_ble_eq_true rfl) (Nat.le_of_ble_eq_true rfl) ?_
  have hG : xg_H D bs (pre ++ (a, .inr (5, [.ref q1, .ref q2, .ref q3, .ref q4, .ref q5, .ref q6, .ref q7, .ref q8, .null, .null, .null, .null, .int 0])) :: ([(q1, .inl (cI, 7, .inl xi_z)), (q2, .inl (cI, 6, .inl xi_z)), (q3, .inl (cI, 6, .inl xi_z)), (q4, .inl (cI, 6, .inl xi_z)), (q5, .inl (cI, 6, .inl xi_z)), (q6, .inl (cI, 6, .inl xi_z)), (q7, .inl (cI, 6, .inl xi_z)), (q8, .inl (cI, 6, .inl xi_z)), (q9, .inl (cI, 6, .inl xi_z))])) s.heap H locs := hG
  refine xi_putF (ty := .array .int) (v := .ref q9) (C := RX5) (T := TX5) (N := 13) S hK hG (fun w h => List.mem_cons_of_mem _ (List.mem_append_right _ (h))) tyX5 tyX5_ok nmX5 rfl 8 (by decide) k12 (fun _ h9 => h9) rfl hnm rfl (by decide +kernel) rfl rfl (Nat.le_of_ble_eq_true rfl) dX5_init_73 (fun H locs hG => ?_)
  have hG : xg_H D bs (pre ++ (a, .inr (5, [.ref q1, .ref q2, .ref q3, .ref q4, .ref q5, .ref q6, .ref q7, .ref q8, .ref q9, .null, .null, .null, .int 0])) :: ([(q1, .inl (cI, 7, .inl xi_z)), (q2, .inl (cI, 6, .inl xi_z)), (q3, .inl (cI, 6, .inl xi_z)), (q4, .inl (cI, 6, .inl xi_z)), (q5, .inl (cI, 6, .inl xi_z)), (q6, .inl (cI, 6, .inl xi_z)), (q7, .inl (cI, 6, .inl xi_z)), (q8, .inl (cI, 6, .inl xi_z)), (q9, .inl (cI, 6, .inl xi_z))])) s.heap H locs := hG
  refine lv_aload_n hx hb dX5_init_76 rfl (lv_at hl 0 rfl) ?_
  refine lv_bipush (v := 6) hx hb dX5_init_77 (by decide) ?_
  refine xi_newi (n := 6) (N := 6) S hK hG k3 (by decide) rfl (Nat.le_of_ble_eq_true rfl) (Nat.le_of_ble_eq_true rfl) (Nat.le_of_ble_eq_true rfl) dX5_init_79 (fun q10 H hG => ?_)
  refine W.widen (k := 10) (n := 61) (Nat.le_of_ble_eq_true rfl) (Nat.le_of_ble_eq_true rfl) ?_
  have hG : xg_H D bs (pre ++ (a, .inr (5, [.ref q1, .ref q2, .ref q3, .ref q4, .ref q5, .ref q6, .ref q7, .ref q8, .ref q9, .null, .null, .null, .int 0])) :: ([(q1, .inl (cI, 7, .inl xi_z)), (q2, .inl (cI, 6, .inl xi_z)), (q3, .inl (cI, 6, .inl xi_z)), (q4, .inl (cI, 6, .inl xi_z)), (q5, .inl (cI, 6, .inl xi_z)), (q6, .inl (cI, 6, .inl xi_z)), (q7, .inl (cI, 6, .inl xi_z)), (q8, .inl (cI, 6, .inl xi_z)), (q9, .inl (cI, 6, .inl xi_z)), (q10, .inl (cI, 6, .inl xi_z))])) s.heap H locs := hG
  refine xi_putF (ty := .array .int) (v := .ref q10) (C := RX5) (T := TX5) (N := 13) S hK hG (fun w h => List.mem_cons_of_mem _ (List.mem_append_right _ (h))) tyX5 tyX5_ok nmX5 rfl 9 (by decide) k13 (fun _ h9 => h9) rfl hnm rfl (by decide +kernel) rfl rfl (Nat.le_of_ble_eq_true rfl) dX5_init_81 (fun H locs hG => ?_)
  have hG : xg_H D bs (pre ++ (a, .inr (5, [.ref q1, .ref q2, .ref q3, .ref q4, .ref q5, .ref q6, .ref q7, .ref q8, .ref q9, .ref q10, .null, .null, .int 0])) :: ([(q1, .inl (cI, 7, .inl xi_z)), (q2, .inl (cI, 6, .inl xi_z)), (q3, .inl (cI, 6, .inl xi_z)), (q4, .inl (cI, 6, .inl xi_z)), (q5, .inl (cI, 6, .inl xi_z)), (q6, .inl (cI, 6, .inl xi_z)), (q7, .inl (cI, 6, .inl xi_z)), (q8, .inl (cI, 6, .inl xi_z)), (q9, .inl (cI, 6, .inl xi_z)), (q10, .inl (cI, 6, .inl xi_z))])) s.heap H locs := hG
  refine lv_aload_n hx hb dX5_init_84 rfl (lv_at hl 0 rfl) ?_
  refine lv_bipush (v := 6) hx hb dX5_init_85 (by decide) ?_
  refine xi_newi (n := 6) (N := 6) S hK hG k3 (by decide) rfl (Nat.le_of_ble_eq_true rfl) (Nat.le_of_ble_eq_true rfl) (Nat.le_of_ble_eq_true rfl) dX5_init_87 (fun q11 H hG => ?_)
  refine W.widen (k := 11) (n := 67) (Nat.le_of_ble_eq_true rfl) (Nat.le_of_ble_eq_true rfl) ?_
  have hG : xg_H D bs (pre ++ (a, .inr (5, [.ref q1, .ref q2, .ref q3, .ref q4, .ref q5, .ref q6, .ref q7, .ref q8, .ref q9, .ref q10, .null, .null, .int 0])) :: ([(q1, .inl (cI, 7, .inl xi_z)), (q2, .inl (cI, 6, .inl xi_z)), (q3, .inl (cI, 6, .inl xi_z)), (q4, .inl (cI, 6, .inl xi_z)), (q5, .inl (cI, 6, .inl xi_z)), (q6, .inl (cI, 6, .inl xi_z)), (q7, .inl (cI, 6, .inl xi_z)), (q8, .inl (cI, 6, .inl xi_z)), (q9, .inl (cI, 6, .inl xi_z)), (q10, .inl (cI, 6, .inl xi_z)), (q11, .inl (cI, 6, .inl xi_z))])) s.heap H locs := hG
  refine xi_putF (ty := .array .int) (v := .ref q11) (C := RX5) (T := TX5) (N := 13) S hK hG (fun w h => List.mem_cons_of_mem _ (List.mem_append_right _ (h))) tyX5 tyX5_ok nmX5 rfl 10 (by decide) k14 (fun _ h9 => h9) rfl hnm rfl (by decide +kernel) rfl rfl (Nat.le_of_ble_eq_true rfl) dX5_init_89 (fun H locs hG => ?_)
  have hG : xg_H D bs (pre ++ (a, .inr (5, [.ref q1, .ref q2, .ref q3, .ref q4, .ref q5, .ref q6, .ref q7, .ref q8, .ref q9, .ref q10, .ref q11, .null, .int 0])) :: ([(q1, .inl (cI, 7, .inl xi_z)), (q2, .inl (cI, 6, .inl xi_z)), (q3, .inl (cI, 6, .inl xi_z)), (q4, .inl (cI, 6, .inl xi_z)), (q5, .inl (cI, 6, .inl xi_z)), (q6, .inl (cI, 6, .inl xi_z)), (q7, .inl (cI, 6, .inl xi_z)), (q8, .inl (cI, 6, .inl xi_z)), (q9, .inl (cI, 6, .inl xi_z)), (q10, .inl (cI, 6, .inl xi_z)), (q11, .inl (cI, 6, .inl xi_z))])) s.heap H locs := hG
  refine lv_aload_n hx hb dX5_init_92 rfl (lv_at hl 0 rfl) ?_
  refine lv_bipush (v := 6) hx hb dX5_init_93 (by decide) ?_
  refine xi_newi (n := 6) (N := 6) S hK hG k3 (by decide) rfl (Nat.le_of_ble_eq_true rfl) (Nat.le_of_ble_eq_true rfl) (Nat.le_of_ble_eq_true rfl) dX5_init_95 (fun q12 H hG => ?_)
  refine W.widen (k := 12) (n := 73) (Nat.le_of_ble_eq_true rfl) (Nat.le_of_ble_eq_true rfl) ?_
  have hG : xg_H D bs (pre ++ (a, .inr (5, [.ref q1, .ref q2, .ref q3, .ref q4, .ref q5, .ref q6, .ref q7, .ref q8, .ref q9, .ref q10, .ref q11, .null, .int 0])) :: ([(q1, .inl (cI, 7, .inl xi_z)), (q2, .inl (cI, 6, .inl xi_z)), (q3, .inl (cI, 6, .inl xi_z)), (q4, .inl (cI, 6, .inl xi_z)), (q5, .inl (cI, 6, .inl xi_z)), (q6, .inl (cI, 6, .inl xi_z)), (q7, .inl (cI, 6, .inl xi_z)), (q8, .inl (cI, 6, .inl xi_z)), (q9, .inl (cI, 6, .inl xi_z)), (q10, .inl (cI, 6, .inl xi_z)), (q11, .inl (cI, 6, .inl xi_z)), (q12, .inl (cI, 6, .inl xi_z))])) s.heap H locs := hG
  refine xi_putF (ty := .array .int) (v := .ref q12) (C := RX5) (T := TX5) (N := 13) S hK hG (fun w h => List.mem_cons_of_mem _ (List.mem_append_right _ (h))) tyX5 tyX5_ok nmX5 rfl 11 (by decide) k15 (fun _ h9 => h9) rfl hnm rfl (by decide +kernel) rfl rfl (Nat.le_of_ble_eq_true rfl) dX5_init_97 (fun H locs hG => ?_)
  have hG : xg_H D bs (pre ++ (a, .inr (5, [.ref q1, .ref q2, .ref q3, .ref q4, .ref q5, .ref q6, .ref q7, .ref q8, .ref q9, .ref q10, .ref q11, .ref q12, .int 0])) :: ([(q1, .inl (cI, 7, .inl xi_z)), (q2, .inl (cI, 6, .inl xi_z)), (q3, .inl (cI, 6, .inl xi_z)), (q4, .inl (cI, 6, .inl xi_z)), (q5, .inl (cI, 6, .inl xi_z)), (q6, .inl (cI, 6, .inl xi_z)), (q7, .inl (cI, 6, .inl xi_z)), (q8, .inl (cI, 6, .inl xi_z)), (q9, .inl (cI, 6, .inl xi_z)), (q10, .inl (cI, 6, .inl xi_z)), (q11, .inl (cI, 6, .inl xi_z)), (q12, .inl (cI, 6, .inl xi_z))])) s.heap H locs := hG
  refine lv_aload_n hx hb dX5_init_100 rfl (lv_at hl 0 rfl) ?_
  refine lv_iconst (v := 0) hx hb dX5_init_101 (by decide) ?_
  refine xi_put (ty := .int) (v := .int 0) (C := RX5) (T := TX5) (N := 13) S hK hG (fun w h => List.mem_cons_of_mem _ (List.mem_append_right _ (h))) tyX5 tyX5_ok nmX5 rfl 12 (by decide) k16 (fun _ h9 => h9) rfl (by decide +kernel) rfl rfl (Nat.le_of_ble_eq_true rfl) dX5_init_102 (fun H locs hG => ?_)
  have hG : xg_H D bs (pre ++ (a, .inr (5, [.ref q1, .ref q2, .ref q3, .ref q4, .ref q5, .ref q6, .ref q7, .ref q8, .ref q9, .ref q10, .ref q11, .ref q12, .int 0])) :: ([(q1, .inl (cI, 7, .inl xi_z)), (q2, .inl (cI, 6, .inl xi_z)), (q3, .inl (cI, 6, .inl xi_z)), (q4, .inl (cI, 6, .inl xi_z)), (q5, .inl (cI, 6, .inl xi_z)), (q6, .inl (cI, 6, .inl xi_z)), (q7, .inl (cI, 6, .inl xi_z)), (q8, .inl (cI, 6, .inl xi_z)), (q9, .inl (cI, 6, .inl xi_z)), (q10, .inl (cI, 6, .inl xi_z)), (q11, .inl (cI, 6, .inl xi_z)), (q12, .inl (cI, 6, .inl xi_z))])) s.heap H locs := hG
  obtain ⟨sr, hsr, hZsr, hXsr⟩ := hK.2.2.2.1
  refine va_getsN hx hb hZsr hG.2.2 hown (va_Nw.use rfl (hK.2.1 _ xg_nest_0)) (fun _ h9 => h9) dX5_init_105 ?_
  refine lv_aload_n hx hb dX5_init_108 rfl (lv_at hl 0 rfl) ?_
  refine xg_get (C := RX5) (T := TX5) (N := 13) S hK hG (fun w h => List.mem_cons_of_mem _ (List.mem_append_right _ (h))) pre.length xi_at rfl 0 (by decide) k4 (fun _ h9 => h9) rfl dX5_init_109 ?_
  refine xg_mv (va_runSN (As := [.ref sr, .ref q1]) (rest := []) S (mX7_copyRowX l D cI cZ bs (pre ++ (a, .inr (5, [.ref q1, .ref q2, .ref q3, .ref q4, .ref q5, .ref q6, .ref q7, .ref q8, .ref q9, .ref q10, .ref q11, .ref q12, .int 0])) :: ([(q1, .inl (cI, 7, .inl xi_z)), (q2, .inl (cI, 6, .inl xi_z)), (q3, .inl (cI, 6, .inl xi_z)), (q4, .inl (cI, 6, .inl xi_z)), (q5, .inl (cI, 6, .inl xi_z)), (q6, .inl (cI, 6, .inl xi_z)), (q7, .inl (cI, 6, .inl xi_z)), (q8, .inl (cI, 6, .inl xi_z)), (q9, .inl (cI, 6, .inl xi_z)), (q10, .inl (cI, 6, .inl xi_z)), (q11, .inl (cI, 6, .inl xi_z)), (q12, .inl (cI, 6, .inl xi_z))])) sr 7 xg_f0 hsr (pre.length + 1) q1 xi_z xi_at1 (by decide)) ⟨(va_cnB 2 hts gX5_init_X7_copyRow_n55 rfl rfl rfl (hK.2.1 _ xg_nest_1) k17 (by decide +kernel) ⟨Nat.le_of_ble_eq_true rfl, Nat.le_of_ble_eq_true rfl⟩), k18, trivial⟩ (xi_preSX hK hG hsr hXsr) rfl rfl hl.1 rfl (lv_room (Nat.le_of_ble_eq_true rfl)) dX5_init_112 ⟨Nat.le_of_ble_eq_true rfl, Nat.le_of_ble_eq_true rfl⟩) hG (fun w H locs hw hG => ?_)
  replace hw := hw.trans xi_set1
  subst hw
  have hG : xg_H D bs (pre ++ (a, .inr (5, [.ref q1, .ref q2, .ref q3, .ref q4, .ref q5, .ref q6, .ref q7, .ref q8, .ref q9, .ref q10, .ref q11, .ref q12, .int 0])) :: ([(q1, .inl (cI, 7, .inl xg_f0)), (q2, .inl (cI, 6, .inl xi_z)), (q3, .inl (cI, 6, .inl xi_z)), (q4, .inl (cI, 6, .inl xi_z)), (q5, .inl (cI, 6, .inl xi_z)), (q6, .inl (cI, 6, .inl xi_z)), (q7, .inl (cI, 6, .inl xi_z)), (q8, .inl (cI, 6, .inl xi_z)), (q9, .inl (cI, 6, .inl xi_z)), (q10, .inl (cI, 6, .inl xi_z)), (q11, .inl (cI, 6, .inl xi_z)), (q12, .inl (cI, 6, .inl xi_z))])) s.heap H locs := hG
  rw [hQ]
  exact xg_emv S hr hlk hK hG ⟨fun k => if k = 0 then a else if k < 2 then q1 else if k < 3 then q2 else if k < 4 then q3 else if k < 5 then q4 else if k < 6 then q5 else if k < 7 then q6 else if k < 8 then q7 else if k < 9 then q8 else if k < 10 then q9 else if k < 11 then q10 else if k < 12 then q11 else if k < 13 then q12 else 0, rfl, rfl⟩ dX5_init_115
set_option maxHeartbeats 4000000 in
set_option maxRecDepth 100000 in
theorem mX4_init (l : Launch) (D : va_G) (cI cZ : ClassId) (bs : Nat) (pre : va_W) (a : Nat) : Met l yX4_init wsX4_init ({ frames := 3, cells := 15, slots := 124, locals := 64 } : Room) (va_Pc [.ref a] (fun U => xg_W D cI cZ bs (pre ++ [(a, .inr (4, [.null, .null, .null, .int 0, .int 0, .int 0, .int 0, .int 0, .int 0]))]) U)) (va_Qv (fun w : va_W => ∃ q : Nat → Nat, q 0 = a ∧ w = pre ++ xi_4 cI q) (fun w t => xg_W D cI cZ bs w t) (xg_A bs)) 15 124 (xg_A bs) := by
  refine xg_met cX4_init 1 none RX4 (by decide) rfl rfl (Nat.le_of_ble_eq_true rfl) ?_
  intro pg en s m below meth c ls S hr hlk hnm hB hl
  have hK := hB.1
  have hG := xg_start hB
  obtain ⟨hx, hb, hml, hown, hts⟩ := id S
  have hl : lv_has ls 1 [(0, .ref a)] := hl
  have hnm : meth.name = "<init>" := hnm
  obtain ⟨Q, hQ⟩ : ∃ Q, Q = MQ below (va_Qv (fun w : va_W => ∃ q : Nat → Nat, q 0 = a ∧ w = pre ++ xi_4 cI q) (fun w t => xg_W D cI cZ bs w t) (xg_A bs)) ([.ref a] : List Value).toArray s 15 124 (xg_A bs) := ⟨_, rfl⟩
  rw [← hQ]
  have k0 := hts (.methodLink RX4 3 objectInit) (List.mem_of_getElem? (i := 1) rfl)
  have k1 := hts (.instanceMethod objectInit) (List.mem_of_getElem? (i := 2) rfl)
  have k2 := hts (.code objectInit ⟨#[0xb1]⟩ 1 none) (List.mem_of_getElem? (i := 3) rfl)
  have k3 := hts (.classLink RX4 9 RX5) (List.mem_of_getElem? (i := 4) rfl)
  have k4 := hts (.instantiable RX5 13) (List.mem_of_getElem? (i := 5) rfl)
  have k5 := hts (.initialized RX5) (List.mem_of_getElem? (i := 6) rfl)
  have k6 := hts (.instanceMethod yX5_init) (List.mem_of_getElem? (i := 15) rfl)
  have k7 := hts (.methodLink RX4 11 yX5_init) (List.mem_of_getElem? (i := 14) rfl)
  have k8 := hts (.fieldLink RX4 12 "DareBridge$Summer" "after" "LDareBridge$Town;") (List.mem_of_getElem? (i := 7) rfl)
  have k9 := hts (.arrayClass .int) (List.mem_of_getElem? (i := 8) rfl)
  have k10 := hts (.fieldLink RX4 18 "DareBridge$Summer" "ties" "[I") (List.mem_of_getElem? (i := 9) rfl)
  have k11 := hts (.classLink RX4 22 RX0) (List.mem_of_getElem? (i := 10) rfl)
  have k12 := hts (.instantiable RX0 2) (List.mem_of_getElem? (i := 11) rfl)
  have k13 := hts (.initialized RX0) (List.mem_of_getElem? (i := 12) rfl)
  have k14 := hts (.instanceMethod yX0_init) (List.mem_of_getElem? (i := 40) rfl)
  have k15 := hts (.fieldLink RX4 25 "DareBridge$Summer" "luck" "LDareBridge$Chance;") (List.mem_of_getElem? (i := 13) rfl)
  refine lv_aload_n hx hb dX4_init_0 rfl (lv_at hl 0 rfl) ?_
  refine W.objInit hx hb hown k0 k1 k2 rfl (by rw [hml]; exact hl.1) rfl dX4_init_1 (Nat.le_of_ble_eq_true rfl) (Nat.le_of_ble_eq_true rfl) ?_
  refine W.eq (g2 := F0 m 4 ls []) rfl ?_
  refine lv_aload_n hx hb dX4_init_4 rfl (lv_at hl 0 rfl) ?_
  refine xi_new (ci := 5) (fs := [.null, .null, .null, .null, .null, .null, .null, .null, .null, .null, .null, .null, .int 0]) (C := RX5) (T := TX5) (N := 13) S hK hG (fun w h => List.mem_cons_of_mem _ (List.mem_append_left _ (List.mem_append_left _ (List.mem_append_right _ (h))))) tyX5 tyX5_ok k3 k4 k5 rfl (fun j hj => by rcases (show j = 0 ∨ j = 1 ∨ j = 2 ∨ j = 3 ∨ j = 4 ∨ j = 5 ∨ j = 6 ∨ j = 7 ∨ j = 8 ∨ j = 9 ∨ j = 10 ∨ j = 11 ∨ j = 12 by omega) with rfl | rfl | rfl | rfl | rfl | rfl | rfl | rfl | rfl | rfl | rfl | rfl | rfl <;> rfl) (Nat.le_of_ble_eq_true rfl) (Nat.le_of_ble_eq_true rfl) dX4_init_5 (fun q1 H hG => ?_)
  refine W.widen (k := 1) (n := 13) (Nat.le_of_ble_eq_true rfl) (Nat.le_of_ble_eq_true rfl) ?_
  refine lv_dup hx hb dX4_init_8 rfl ?_
  refine xg_mv (va_runI (As := []) (rest := [.ref q1, .ref a]) S (mX5_init l D cI cZ bs (pre ++ (a, .inr (4, [.null, .null, .null, .int 0, .int 0, .int 0, .int 0, .int 0, .int 0])) :: ([])) q1) (cwI 0 hts gX4_init_X5_init rfl rfl rfl k5 k7 k6 rfl (by decide +kernel) ⟨Nat.le_of_ble_eq_true rfl, Nat.le_of_ble_eq_true rfl⟩) (xg_preS hK hG) rfl rfl hl.1 rfl (lv_room (Nat.le_of_ble_eq_true rfl)) dX4_init_9 ⟨Nat.le_of_ble_eq_true rfl, Nat.le_of_ble_eq_true rfl⟩) hG (fun w H locs hw hG => ?_)
  obtain ⟨f2, ef2, rfl⟩ := hw
  refine W.widen (k := 13) (n := 86) (Nat.le_of_ble_eq_true rfl) (Nat.le_of_ble_eq_true rfl) ?_
  rw [← ef2]
  replace hG := xi_asc hG
  have hG : xg_H D bs (pre ++ (a, .inr (4, [.null, .null, .null, .int 0, .int 0, .int 0, .int 0, .int 0, .int 0])) :: (xi_5 cI f2)) s.heap H locs := hG
  refine xi_putF (ty := .object "DareBridge$Town") (v := .ref (f2 0)) (C := RX4) (T := TX4) (N := 9) S hK hG (fun w h => List.mem_cons_of_mem _ (List.mem_append_left _ (List.mem_append_right _ (h)))) tyX4 tyX4_ok nmX4 rfl 0 (by decide) k8 (fun _ h9 => h9) rfl hnm rfl (by decide +kernel) rfl rfl (Nat.le_of_ble_eq_true rfl) dX4_init_12 (fun H locs hG => ?_)
  have hG : xg_H D bs (pre ++ (a, .inr (4, [.ref (f2 0), .null, .null, .int 0, .int 0, .int 0, .int 0, .int 0, .int 0])) :: (xi_5 cI f2)) s.heap H locs := hG
  refine lv_aload_n hx hb dX4_init_15 rfl (lv_at hl 0 rfl) ?_
  refine lv_bipush (v := 36) hx hb dX4_init_16 (by decide) ?_
  refine xi_newi (n := 36) (N := 36) S hK hG k9 (by decide) rfl (Nat.le_of_ble_eq_true rfl) (Nat.le_of_ble_eq_true rfl) (Nat.le_of_ble_eq_true rfl) dX4_init_18 (fun q3 H hG => ?_)
  refine W.widen (k := 14) (n := 122) (Nat.le_of_ble_eq_true rfl) (Nat.le_of_ble_eq_true rfl) ?_
  have hG : xg_H D bs (pre ++ (a, .inr (4, [.ref (f2 0), .null, .null, .int 0, .int 0, .int 0, .int 0, .int 0, .int 0])) :: (xi_5 cI f2 ++ [(q3, .inl (cI, 36, .inl xi_z))])) s.heap H locs := hG
  refine xi_putF (ty := .array .int) (v := .ref q3) (C := RX4) (T := TX4) (N := 9) S hK hG (fun w h => List.mem_cons_of_mem _ (List.mem_append_left _ (List.mem_append_right _ (h)))) tyX4 tyX4_ok nmX4 rfl 1 (by decide) k10 (fun _ h9 => h9) rfl hnm rfl (by decide +kernel) rfl rfl (Nat.le_of_ble_eq_true rfl) dX4_init_20 (fun H locs hG => ?_)
  have hG : xg_H D bs (pre ++ (a, .inr (4, [.ref (f2 0), .ref q3, .null, .int 0, .int 0, .int 0, .int 0, .int 0, .int 0])) :: (xi_5 cI f2 ++ [(q3, .inl (cI, 36, .inl xi_z))])) s.heap H locs := hG
  refine lv_aload_n hx hb dX4_init_23 rfl (lv_at hl 0 rfl) ?_
  refine xi_new (ci := 0) (fs := [.long 0, .long 0]) (C := RX0) (T := TX0) (N := 2) S hK hG (fun w h => List.mem_cons_of_mem _ (List.mem_append_right _ (h))) tyX0 tyX0_ok k11 k12 k13 rfl (fun j hj => by rcases (show j = 0 ∨ j = 1 by omega) with rfl | rfl <;> rfl) (Nat.le_of_ble_eq_true rfl) (Nat.le_of_ble_eq_true rfl) dX4_init_24 (fun q4 H hG => ?_)
  refine W.widen (k := 15) (n := 124) (Nat.le_of_ble_eq_true rfl) (Nat.le_of_ble_eq_true rfl) ?_
  refine lv_dup hx hb dX4_init_27 rfl ?_
  refine xg_mv (va_runIN (As := []) (rest := [.ref q4, .ref a]) S (mX0_init l D cI cZ bs (pre ++ (a, .inr (4, [.ref (f2 0), .ref q3, .null, .int 0, .int 0, .int 0, .int 0, .int 0, .int 0])) :: (xi_5 cI f2 ++ [(q3, .inl (cI, 36, .inl xi_z))])) q4) ⟨(va_cnB 0 hts gX4_init_X0_init_n24 rfl rfl rfl (hK.2.1 _ xg_nest_4) k13 (by decide +kernel) ⟨Nat.le_of_ble_eq_true rfl, Nat.le_of_ble_eq_true rfl⟩), rfl, k14⟩ (xg_preS hK hG) rfl rfl hl.1 rfl (lv_room (Nat.le_of_ble_eq_true rfl)) dX4_init_28 ⟨Nat.le_of_ble_eq_true rfl, Nat.le_of_ble_eq_true rfl⟩) hG (fun w H locs hw hG => ?_)
  obtain ⟨f5, ef5, rfl⟩ := hw
  refine W.widen (k := 15) (n := 124) (Nat.le_of_ble_eq_true rfl) (Nat.le_of_ble_eq_true rfl) ?_
  rw [← ef5]
  replace hG := xi_asc hG
  have hG : xg_H D bs (pre ++ (a, .inr (4, [.ref (f2 0), .ref q3, .null, .int 0, .int 0, .int 0, .int 0, .int 0, .int 0])) :: (xi_5 cI f2 ++ [(q3, .inl (cI, 36, .inl xi_z))] ++ xi_0 cI f5)) s.heap H locs := hG
  refine xi_putF (ty := .object "DareBridge$Chance") (v := .ref (f5 0)) (C := RX4) (T := TX4) (N := 9) S hK hG (fun w h => List.mem_cons_of_mem _ (List.mem_append_left _ (List.mem_append_right _ (h)))) tyX4 tyX4_ok nmX4 rfl 2 (by decide) k15 (fun _ h9 => h9) rfl hnm rfl (by decide +kernel) rfl rfl (Nat.le_of_ble_eq_true rfl) dX4_init_31 (fun H locs hG => ?_)
  have hG : xg_H D bs (pre ++ (a, .inr (4, [.ref (f2 0), .ref q3, .ref (f5 0), .int 0, .int 0, .int 0, .int 0, .int 0, .int 0])) :: (xi_5 cI f2 ++ [(q3, .inl (cI, 36, .inl xi_z))] ++ xi_0 cI f5)) s.heap H locs := hG
  rw [hQ]
  exact xg_emv S hr hlk hK hG ⟨fun k => if k = 0 then a else if k < 14 then f2 (k - 1) else if k < 15 then q3 else if k < 16 then f5 (k - 15) else 0, rfl, rfl⟩ dX4_init_34
set_option maxHeartbeats 4000000 in
set_option maxRecDepth 100000 in
theorem mX6_init (l : Launch) (D : va_G) (cI cZ : ClassId) (bs : Nat) (pre : va_W) (a : Nat) : Met l yX6_init wsX6_init ({ frames := 3, cells := 13, slots := 86, locals := 64 } : Room) (va_Pc [.ref a] (fun U => xg_W D cI cZ bs (pre ++ [(a, .inr (6, [.null, .int 0, .int 0, .int 0]))]) U)) (va_Qv (fun w : va_W => ∃ q : Nat → Nat, q 0 = a ∧ w = pre ++ xi_6 cI q) (fun w t => xg_W D cI cZ bs w t) (xg_A bs)) 13 86 (xg_A bs) := by
  refine xg_met cX6_init 1 none RX6 (by decide) rfl rfl (Nat.le_of_ble_eq_true rfl) ?_
  intro pg en s m below meth c ls S hr hlk hnm hB hl
  have hK := hB.1
  have hG := xg_start hB
  obtain ⟨hx, hb, hml, hown, hts⟩ := id S
  have hl : lv_has ls 1 [(0, .ref a)] := hl
  have hnm : meth.name = "<init>" := hnm
  obtain ⟨Q, hQ⟩ : ∃ Q, Q = MQ below (va_Qv (fun w : va_W => ∃ q : Nat → Nat, q 0 = a ∧ w = pre ++ xi_6 cI q) (fun w t => xg_W D cI cZ bs w t) (xg_A bs)) ([.ref a] : List Value).toArray s 13 86 (xg_A bs) := ⟨_, rfl⟩
  rw [← hQ]
  have k0 := hts (.methodLink RX6 3 objectInit) (List.mem_of_getElem? (i := 1) rfl)
  have k1 := hts (.instanceMethod objectInit) (List.mem_of_getElem? (i := 2) rfl)
  have k2 := hts (.code objectInit ⟨#[0xb1]⟩ 1 none) (List.mem_of_getElem? (i := 3) rfl)
  have k3 := hts (.classLink RX6 9 RX5) (List.mem_of_getElem? (i := 4) rfl)
  have k4 := hts (.instantiable RX5 13) (List.mem_of_getElem? (i := 5) rfl)
  have k5 := hts (.initialized RX5) (List.mem_of_getElem? (i := 6) rfl)
  have k6 := hts (.instanceMethod yX5_init) (List.mem_of_getElem? (i := 9) rfl)
  have k7 := hts (.methodLink RX6 11 yX5_init) (List.mem_of_getElem? (i := 8) rfl)
  have k8 := hts (.fieldLink RX6 12 "DareBridge$Year" "town" "LDareBridge$Town;") (List.mem_of_getElem? (i := 7) rfl)
  refine lv_aload_n hx hb dX6_init_0 rfl (lv_at hl 0 rfl) ?_
  refine W.objInit hx hb hown k0 k1 k2 rfl (by rw [hml]; exact hl.1) rfl dX6_init_1 (Nat.le_of_ble_eq_true rfl) (Nat.le_of_ble_eq_true rfl) ?_
  refine W.eq (g2 := F0 m 4 ls []) rfl ?_
  refine lv_aload_n hx hb dX6_init_4 rfl (lv_at hl 0 rfl) ?_
  refine xi_new (ci := 5) (fs := [.null, .null, .null, .null, .null, .null, .null, .null, .null, .null, .null, .null, .int 0]) (C := RX5) (T := TX5) (N := 13) S hK hG (fun w h => List.mem_cons_of_mem _ (List.mem_append_left _ (List.mem_append_right _ (h)))) tyX5 tyX5_ok k3 k4 k5 rfl (fun j hj => by rcases (show j = 0 ∨ j = 1 ∨ j = 2 ∨ j = 3 ∨ j = 4 ∨ j = 5 ∨ j = 6 ∨ j = 7 ∨ j = 8 ∨ j = 9 ∨ j = 10 ∨ j = 11 ∨ j = 12 by omega) with rfl | rfl | rfl | rfl | rfl | rfl | rfl | rfl | rfl | rfl | rfl | rfl | rfl <;> rfl) (Nat.le_of_ble_eq_true rfl) (Nat.le_of_ble_eq_true rfl) dX6_init_5 (fun q1 H hG => ?_)
  refine W.widen (k := 1) (n := 13) (Nat.le_of_ble_eq_true rfl) (Nat.le_of_ble_eq_true rfl) ?_
  refine lv_dup hx hb dX6_init_8 rfl ?_
  refine xg_mv (va_runI (As := []) (rest := [.ref q1, .ref a]) S (mX5_init l D cI cZ bs (pre ++ (a, .inr (6, [.null, .int 0, .int 0, .int 0])) :: ([])) q1) (cwI 0 hts gX6_init_X5_init rfl rfl rfl k5 k7 k6 rfl (by decide +kernel) ⟨Nat.le_of_ble_eq_true rfl, Nat.le_of_ble_eq_true rfl⟩) (xg_preS hK hG) rfl rfl hl.1 rfl (lv_room (Nat.le_of_ble_eq_true rfl)) dX6_init_9 ⟨Nat.le_of_ble_eq_true rfl, Nat.le_of_ble_eq_true rfl⟩) hG (fun w H locs hw hG => ?_)
  obtain ⟨f2, ef2, rfl⟩ := hw
  refine W.widen (k := 13) (n := 86) (Nat.le_of_ble_eq_true rfl) (Nat.le_of_ble_eq_true rfl) ?_
  rw [← ef2]
  replace hG := xi_asc hG
  have hG : xg_H D bs (pre ++ (a, .inr (6, [.null, .int 0, .int 0, .int 0])) :: (xi_5 cI f2)) s.heap H locs := hG
  refine xi_putF (ty := .object "DareBridge$Town") (v := .ref (f2 0)) (C := RX6) (T := TX6) (N := 4) S hK hG (fun w h => List.mem_cons_of_mem _ (List.mem_append_right _ (h))) tyX6 tyX6_ok nmX6 rfl 0 (by decide) k8 (fun _ h9 => h9) rfl hnm rfl (by decide +kernel) rfl rfl (Nat.le_of_ble_eq_true rfl) dX6_init_12 (fun H locs hG => ?_)
  have hG : xg_H D bs (pre ++ (a, .inr (6, [.ref (f2 0), .int 0, .int 0, .int 0])) :: (xi_5 cI f2)) s.heap H locs := hG
  rw [hQ]
  exact xg_emv S hr hlk hK hG ⟨fun k => if k = 0 then a else if k < 14 then f2 (k - 1) else 0, rfl, rfl⟩ dX6_init_15
set_option maxHeartbeats 4000000 in
set_option maxRecDepth 100000 in
theorem mX7_init (l : Launch) (D : va_G) (cI cZ : ClassId) (bs : Nat) (pre : va_W) (a : Nat) : Met l yX7_init wsX7_init ({ frames := 4, cells := 74, slots := 552, locals := 84 } : Room) (va_Pc [.ref a] (fun U => xg_W D cI cZ bs (pre ++ [(a, .inr (7, [.null, .null, .null, .int 0, .int 0, .null, .null, .null, .null, .null]))]) U)) (va_Qv (fun w : va_W => ∃ q : Nat → Nat, q 0 = a ∧ w = pre ++ xi_7 cI q) (fun w t => xg_W D cI cZ bs w t) (xg_A bs)) 74 552 (xg_A bs) := by
  refine xg_met cX7_init 1 none RX7 (by decide) rfl rfl (Nat.le_of_ble_eq_true rfl) ?_
  intro pg en s m below meth c ls S hr hlk hnm hB hl
  have hK := hB.1
  have hG := xg_start hB
  obtain ⟨hx, hb, hml, hown, hts⟩ := id S
  have hl : lv_has ls 1 [(0, .ref a)] := hl
  have hnm : meth.name = "<init>" := hnm
  obtain ⟨Q, hQ⟩ : ∃ Q, Q = MQ below (va_Qv (fun w : va_W => ∃ q : Nat → Nat, q 0 = a ∧ w = pre ++ xi_7 cI q) (fun w t => xg_W D cI cZ bs w t) (xg_A bs)) ([.ref a] : List Value).toArray s 74 552 (xg_A bs) := ⟨_, rfl⟩
  rw [← hQ]
  have k0 := hts (.methodLink RX7 1 objectInit) (List.mem_of_getElem? (i := 1) rfl)
  have k1 := hts (.instanceMethod objectInit) (List.mem_of_getElem? (i := 2) rfl)
  have k2 := hts (.code objectInit ⟨#[0xb1]⟩ 1 none) (List.mem_of_getElem? (i := 3) rfl)
  have k3 := hts (.classLink RX7 7 RX5) (List.mem_of_getElem? (i := 4) rfl)
  have k4 := hts (.instantiable RX5 13) (List.mem_of_getElem? (i := 5) rfl)
  have k5 := hts (.initialized RX5) (List.mem_of_getElem? (i := 6) rfl)
  have k6 := hts (.instanceMethod yX5_init) (List.mem_of_getElem? (i := 33) rfl)
  have k7 := hts (.methodLink RX7 9 yX5_init) (List.mem_of_getElem? (i := 32) rfl)
  have k8 := hts (.fieldLink RX7 10 "DareBridge" "now" "LDareBridge$Town;") (List.mem_of_getElem? (i := 7) rfl)
  have k9 := hts (.fieldLink RX7 16 "DareBridge" "firstImage" "LDareBridge$Town;") (List.mem_of_getElem? (i := 8) rfl)
  have k10 := hts (.fieldLink RX7 19 "DareBridge" "secondImage" "LDareBridge$Town;") (List.mem_of_getElem? (i := 9) rfl)
  have k11 := hts (.fieldLink RX7 22 "DareBridge" "firstKept" "Z") (List.mem_of_getElem? (i := 10) rfl)
  have k12 := hts (.fieldLink RX7 26 "DareBridge" "secondKept" "Z") (List.mem_of_getElem? (i := 11) rfl)
  have k13 := hts (.classLink RX7 29 RX3) (List.mem_of_getElem? (i := 12) rfl)
  have k14 := hts (.instantiable RX3 2) (List.mem_of_getElem? (i := 13) rfl)
  have k15 := hts (.initialized RX3) (List.mem_of_getElem? (i := 14) rfl)
  have k16 := hts (.instanceMethod yX3_init) (List.mem_of_getElem? (i := 59) rfl)
  have k17 := hts (.fieldLink RX7 32 "DareBridge" "pad" "LDareBridge$Pad;") (List.mem_of_getElem? (i := 15) rfl)
  have k18 := hts (.classLink RX7 36 RX4) (List.mem_of_getElem? (i := 16) rfl)
  have k19 := hts (.instantiable RX4 9) (List.mem_of_getElem? (i := 17) rfl)
  have k20 := hts (.initialized RX4) (List.mem_of_getElem? (i := 18) rfl)
  have k21 := hts (.instanceMethod yX4_init) (List.mem_of_getElem? (i := 64) rfl)
  have k22 := hts (.fieldLink RX7 39 "DareBridge" "summer" "LDareBridge$Summer;") (List.mem_of_getElem? (i := 19) rfl)
  have k23 := hts (.classLink RX7 43 RX1) (List.mem_of_getElem? (i := 20) rfl)
  have k24 := hts (.instantiable RX1 4) (List.mem_of_getElem? (i := 21) rfl)
  have k25 := hts (.initialized RX1) (List.mem_of_getElem? (i := 22) rfl)
  have k26 := hts (.instanceMethod yX1_init) (List.mem_of_getElem? (i := 80) rfl)
  have k27 := hts (.fieldLink RX7 46 "DareBridge" "climbing" "LDareBridge$Climb;") (List.mem_of_getElem? (i := 23) rfl)
  have k28 := hts (.classLink RX7 50 RX2) (List.mem_of_getElem? (i := 24) rfl)
  have k29 := hts (.instantiable RX2 3) (List.mem_of_getElem? (i := 25) rfl)
  have k30 := hts (.initialized RX2) (List.mem_of_getElem? (i := 26) rfl)
  have k31 := hts (.instanceMethod yX2_init) (List.mem_of_getElem? (i := 85) rfl)
  have k32 := hts (.fieldLink RX7 53 "DareBridge" "doubling" "LDareBridge$Game;") (List.mem_of_getElem? (i := 27) rfl)
  have k33 := hts (.classLink RX7 57 RX6) (List.mem_of_getElem? (i := 28) rfl)
  have k34 := hts (.instantiable RX6 4) (List.mem_of_getElem? (i := 29) rfl)
  have k35 := hts (.initialized RX6) (List.mem_of_getElem? (i := 30) rfl)
  have k36 := hts (.instanceMethod yX6_init) (List.mem_of_getElem? (i := 88) rfl)
  have k37 := hts (.fieldLink RX7 60 "DareBridge" "years" "LDareBridge$Year;") (List.mem_of_getElem? (i := 31) rfl)
  refine lv_aload_n hx hb dX7_init_0 rfl (lv_at hl 0 rfl) ?_
  refine W.objInit hx hb hown k0 k1 k2 rfl (by rw [hml]; exact hl.1) rfl dX7_init_1 (Nat.le_of_ble_eq_true rfl) (Nat.le_of_ble_eq_true rfl) ?_
  refine W.eq (g2 := F0 m 4 ls []) rfl ?_
  refine lv_aload_n hx hb dX7_init_4 rfl (lv_at hl 0 rfl) ?_
  refine xi_new (ci := 5) (fs := [.null, .null, .null, .null, .null, .null, .null, .null, .null, .null, .null, .null, .int 0]) (C := RX5) (T := TX5) (N := 13) S hK hG (fun w h => List.mem_cons_of_mem _ (List.mem_append_left _ (List.mem_append_left _ (List.mem_append_left _ (List.mem_append_left _ (List.mem_append_left _ (List.mem_append_left _ (List.mem_append_left _ (List.mem_append_right _ (h)))))))))) tyX5 tyX5_ok k3 k4 k5 rfl (fun j hj => by rcases (show j = 0 ∨ j = 1 ∨ j = 2 ∨ j = 3 ∨ j = 4 ∨ j = 5 ∨ j = 6 ∨ j = 7 ∨ j = 8 ∨ j = 9 ∨ j = 10 ∨ j = 11 ∨ j = 12 by omega) with rfl | rfl | rfl | rfl | rfl | rfl | rfl | rfl | rfl | rfl | rfl | rfl | rfl <;> rfl) (Nat.le_of_ble_eq_true rfl) (Nat.le_of_ble_eq_true rfl) dX7_init_5 (fun q1 H hG => ?_)
  refine W.widen (k := 1) (n := 13) (Nat.le_of_ble_eq_true rfl) (Nat.le_of_ble_eq_true rfl) ?_
  refine lv_dup hx hb dX7_init_8 rfl ?_
  refine xg_mv (va_runI (As := []) (rest := [.ref q1, .ref a]) S (mX5_init l D cI cZ bs (pre ++ (a, .inr (7, [.null, .null, .null, .int 0, .int 0, .null, .null, .null, .null, .null])) :: ([])) q1) (cwI 0 hts gX7_init_X5_init rfl rfl rfl k5 k7 k6 rfl (by decide +kernel) ⟨Nat.le_of_ble_eq_true rfl, Nat.le_of_ble_eq_true rfl⟩) (xg_preS hK hG) rfl rfl hl.1 rfl (lv_room (Nat.le_of_ble_eq_true rfl)) dX7_init_9 ⟨Nat.le_of_ble_eq_true rfl, Nat.le_of_ble_eq_true rfl⟩) hG (fun w H locs hw hG => ?_)
  obtain ⟨f2, ef2, rfl⟩ := hw
  refine W.widen (k := 13) (n := 86) (Nat.le_of_ble_eq_true rfl) (Nat.le_of_ble_eq_true rfl) ?_
  rw [← ef2]
  replace hG := xi_asc hG
  have hG : xg_H D bs (pre ++ (a, .inr (7, [.null, .null, .null, .int 0, .int 0, .null, .null, .null, .null, .null])) :: (xi_5 cI f2)) s.heap H locs := hG
  refine xi_putF (ty := .object "DareBridge$Town") (v := .ref (f2 0)) (C := RX7) (T := TX7) (N := 10) S hK hG (fun w h => List.mem_cons_of_mem _ (List.mem_append_left _ (List.mem_append_left _ (List.mem_append_left _ (List.mem_append_left _ (List.mem_append_left _ (List.mem_append_left _ (List.mem_append_right _ (h))))))))) tyX7 tyX7_ok nmX7 rfl 0 (by decide) k8 (fun _ h9 => h9) rfl hnm rfl (by decide +kernel) rfl rfl (Nat.le_of_ble_eq_true rfl) dX7_init_12 (fun H locs hG => ?_)
  have hG : xg_H D bs (pre ++ (a, .inr (7, [.ref (f2 0), .null, .null, .int 0, .int 0, .null, .null, .null, .null, .null])) :: (xi_5 cI f2)) s.heap H locs := hG
  refine lv_aload_n hx hb dX7_init_15 rfl (lv_at hl 0 rfl) ?_
  refine xi_new (ci := 5) (fs := [.null, .null, .null, .null, .null, .null, .null, .null, .null, .null, .null, .null, .int 0]) (C := RX5) (T := TX5) (N := 13) S hK hG (fun w h => List.mem_cons_of_mem _ (List.mem_append_left _ (List.mem_append_left _ (List.mem_append_left _ (List.mem_append_left _ (List.mem_append_left _ (List.mem_append_left _ (List.mem_append_left _ (List.mem_append_right _ (h)))))))))) tyX5 tyX5_ok k3 k4 k5 rfl (fun j hj => by rcases (show j = 0 ∨ j = 1 ∨ j = 2 ∨ j = 3 ∨ j = 4 ∨ j = 5 ∨ j = 6 ∨ j = 7 ∨ j = 8 ∨ j = 9 ∨ j = 10 ∨ j = 11 ∨ j = 12 by omega) with rfl | rfl | rfl | rfl | rfl | rfl | rfl | rfl | rfl | rfl | rfl | rfl | rfl <;> rfl) (Nat.le_of_ble_eq_true rfl) (Nat.le_of_ble_eq_true rfl) dX7_init_16 (fun q3 H hG => ?_)
  refine W.widen (k := 14) (n := 99) (Nat.le_of_ble_eq_true rfl) (Nat.le_of_ble_eq_true rfl) ?_
  refine lv_dup hx hb dX7_init_19 rfl ?_
  refine xg_mv (va_runI (As := []) (rest := [.ref q3, .ref a]) S (mX5_init l D cI cZ bs (pre ++ (a, .inr (7, [.ref (f2 0), .null, .null, .int 0, .int 0, .null, .null, .null, .null, .null])) :: (xi_5 cI f2)) q3) (cwI 0 hts gX7_init_X5_init rfl rfl rfl k5 k7 k6 rfl (by decide +kernel) ⟨Nat.le_of_ble_eq_true rfl, Nat.le_of_ble_eq_true rfl⟩) (xg_preS hK hG) rfl rfl hl.1 rfl (lv_room (Nat.le_of_ble_eq_true rfl)) dX7_init_20 ⟨Nat.le_of_ble_eq_true rfl, Nat.le_of_ble_eq_true rfl⟩) hG (fun w H locs hw hG => ?_)
  obtain ⟨f4, ef4, rfl⟩ := hw
  refine W.widen (k := 26) (n := 172) (Nat.le_of_ble_eq_true rfl) (Nat.le_of_ble_eq_true rfl) ?_
  rw [← ef4]
  replace hG := xi_asc hG
  have hG : xg_H D bs (pre ++ (a, .inr (7, [.ref (f2 0), .null, .null, .int 0, .int 0, .null, .null, .null, .null, .null])) :: (xi_5 cI f2 ++ xi_5 cI f4)) s.heap H locs := hG
  refine xi_putF (ty := .object "DareBridge$Town") (v := .ref (f4 0)) (C := RX7) (T := TX7) (N := 10) S hK hG (fun w h => List.mem_cons_of_mem _ (List.mem_append_left _ (List.mem_append_left _ (List.mem_append_left _ (List.mem_append_left _ (List.mem_append_left _ (List.mem_append_left _ (List.mem_append_right _ (h))))))))) tyX7 tyX7_ok nmX7 rfl 1 (by decide) k9 (fun _ h9 => h9) rfl hnm rfl (by decide +kernel) rfl rfl (Nat.le_of_ble_eq_true rfl) dX7_init_23 (fun H locs hG => ?_)
  have hG : xg_H D bs (pre ++ (a, .inr (7, [.ref (f2 0), .ref (f4 0), .null, .int 0, .int 0, .null, .null, .null, .null, .null])) :: (xi_5 cI f2 ++ xi_5 cI f4)) s.heap H locs := hG
  refine lv_aload_n hx hb dX7_init_26 rfl (lv_at hl 0 rfl) ?_
  refine xi_new (ci := 5) (fs := [.null, .null, .null, .null, .null, .null, .null, .null, .null, .null, .null, .null, .int 0]) (C := RX5) (T := TX5) (N := 13) S hK hG (fun w h => List.mem_cons_of_mem _ (List.mem_append_left _ (List.mem_append_left _ (List.mem_append_left _ (List.mem_append_left _ (List.mem_append_left _ (List.mem_append_left _ (List.mem_append_left _ (List.mem_append_right _ (h)))))))))) tyX5 tyX5_ok k3 k4 k5 rfl (fun j hj => by rcases (show j = 0 ∨ j = 1 ∨ j = 2 ∨ j = 3 ∨ j = 4 ∨ j = 5 ∨ j = 6 ∨ j = 7 ∨ j = 8 ∨ j = 9 ∨ j = 10 ∨ j = 11 ∨ j = 12 by omega) with rfl | rfl | rfl | rfl | rfl | rfl | rfl | rfl | rfl | rfl | rfl | rfl | rfl <;> rfl) (Nat.le_of_ble_eq_true rfl) (Nat.le_of_ble_eq_true rfl) dX7_init_27 (fun q5 H hG => ?_)
  refine W.widen (k := 27) (n := 185) (Nat.le_of_ble_eq_true rfl) (Nat.le_of_ble_eq_true rfl) ?_
  refine lv_dup hx hb dX7_init_30 rfl ?_
  refine xg_mv (va_runI (As := []) (rest := [.ref q5, .ref a]) S (mX5_init l D cI cZ bs (pre ++ (a, .inr (7, [.ref (f2 0), .ref (f4 0), .null, .int 0, .int 0, .null, .null, .null, .null, .null])) :: (xi_5 cI f2 ++ xi_5 cI f4)) q5) (cwI 0 hts gX7_init_X5_init rfl rfl rfl k5 k7 k6 rfl (by decide +kernel) ⟨Nat.le_of_ble_eq_true rfl, Nat.le_of_ble_eq_true rfl⟩) (xg_preS hK hG) rfl rfl hl.1 rfl (lv_room (Nat.le_of_ble_eq_true rfl)) dX7_init_31 ⟨Nat.le_of_ble_eq_true rfl, Nat.le_of_ble_eq_true rfl⟩) hG (fun w H locs hw hG => ?_)
  obtain ⟨f6, ef6, rfl⟩ := hw
  refine W.widen (k := 39) (n := 258) (Nat.le_of_ble_eq_true rfl) (Nat.le_of_ble_eq_true rfl) ?_
  rw [← ef6]
  replace hG := xi_asc hG
  have hG : xg_H D bs (pre ++ (a, .inr (7, [.ref (f2 0), .ref (f4 0), .null, .int 0, .int 0, .null, .null, .null, .null, .null])) :: (xi_5 cI f2 ++ xi_5 cI f4 ++ xi_5 cI f6)) s.heap H locs := hG
  refine xi_putF (ty := .object "DareBridge$Town") (v := .ref (f6 0)) (C := RX7) (T := TX7) (N := 10) S hK hG (fun w h => List.mem_cons_of_mem _ (List.mem_append_left _ (List.mem_append_left _ (List.mem_append_left _ (List.mem_append_left _ (List.mem_append_left _ (List.mem_append_left _ (List.mem_append_right _ (h))))))))) tyX7 tyX7_ok nmX7 rfl 2 (by decide) k10 (fun _ h9 => h9) rfl hnm rfl (by decide +kernel) rfl rfl (Nat.le_of_ble_eq_true rfl) dX7_init_34 (fun H locs hG => ?_)
  have hG : xg_H D bs (pre ++ (a, .inr (7, [.ref (f2 0), .ref (f4 0), .ref (f6 0), .int 0, .int 0, .null, .null, .null, .null, .null])) :: (xi_5 cI f2 ++ xi_5 cI f4 ++ xi_5 cI f6)) s.heap H locs := hG
  refine lv_aload_n hx hb dX7_init_37 rfl (lv_at hl 0 rfl) ?_
  refine lv_iconst (v := 0) hx hb dX7_init_38 (by decide) ?_
  refine xi_put (ty := .boolean) (v := .int 0) (C := RX7) (T := TX7) (N := 10) S hK hG (fun w h => List.mem_cons_of_mem _ (List.mem_append_left _ (List.mem_append_left _ (List.mem_append_left _ (List.mem_append_left _ (List.mem_append_left _ (List.mem_append_left _ (List.mem_append_right _ (h))))))))) tyX7 tyX7_ok nmX7 rfl 3 (by decide) k11 (fun _ h9 => h9) rfl (by decide +kernel) rfl rfl (Nat.le_of_ble_eq_true rfl) dX7_init_39 (fun H locs hG => ?_)
  have hG : xg_H D bs (pre ++ (a, .inr (7, [.ref (f2 0), .ref (f4 0), .ref (f6 0), .int 0, .int 0, .null, .null, .null, .null, .null])) :: (xi_5 cI f2 ++ xi_5 cI f4 ++ xi_5 cI f6)) s.heap H locs := hG
  refine lv_aload_n hx hb dX7_init_42 rfl (lv_at hl 0 rfl) ?_
  refine lv_iconst (v := 0) hx hb dX7_init_43 (by decide) ?_
  refine xi_put (ty := .boolean) (v := .int 0) (C := RX7) (T := TX7) (N := 10) S hK hG (fun w h => List.mem_cons_of_mem _ (List.mem_append_left _ (List.mem_append_left _ (List.mem_append_left _ (List.mem_append_left _ (List.mem_append_left _ (List.mem_append_left _ (List.mem_append_right _ (h))))))))) tyX7 tyX7_ok nmX7 rfl 4 (by decide) k12 (fun _ h9 => h9) rfl (by decide +kernel) rfl rfl (Nat.le_of_ble_eq_true rfl) dX7_init_44 (fun H locs hG => ?_)
  have hG : xg_H D bs (pre ++ (a, .inr (7, [.ref (f2 0), .ref (f4 0), .ref (f6 0), .int 0, .int 0, .null, .null, .null, .null, .null])) :: (xi_5 cI f2 ++ xi_5 cI f4 ++ xi_5 cI f6)) s.heap H locs := hG
  refine lv_aload_n hx hb dX7_init_47 rfl (lv_at hl 0 rfl) ?_
  refine xi_new (ci := 3) (fs := [.null, .int 0]) (C := RX3) (T := TX3) (N := 2) S hK hG (fun w h => List.mem_cons_of_mem _ (List.mem_append_left _ (List.mem_append_left _ (List.mem_append_left _ (List.mem_append_left _ (List.mem_append_left _ (List.mem_append_right _ (h)))))))) tyX3 tyX3_ok k13 k14 k15 rfl (fun j hj => by rcases (show j = 0 ∨ j = 1 by omega) with rfl | rfl <;> rfl) (Nat.le_of_ble_eq_true rfl) (Nat.le_of_ble_eq_true rfl) dX7_init_48 (fun q7 H hG => ?_)
  refine W.widen (k := 40) (n := 260) (Nat.le_of_ble_eq_true rfl) (Nat.le_of_ble_eq_true rfl) ?_
  refine lv_dup hx hb dX7_init_51 rfl ?_
  refine xg_mv (va_runIN (As := []) (rest := [.ref q7, .ref a]) S (mX3_init l D cI cZ bs (pre ++ (a, .inr (7, [.ref (f2 0), .ref (f4 0), .ref (f6 0), .int 0, .int 0, .null, .null, .null, .null, .null])) :: (xi_5 cI f2 ++ xi_5 cI f4 ++ xi_5 cI f6)) q7) ⟨(va_cnB 0 hts gX7_init_X3_init_n31 rfl rfl rfl (hK.2.1 _ xg_nest_2) k15 (by decide +kernel) ⟨Nat.le_of_ble_eq_true rfl, Nat.le_of_ble_eq_true rfl⟩), rfl, k16⟩ (xg_preS hK hG) rfl rfl hl.1 rfl (lv_room (Nat.le_of_ble_eq_true rfl)) dX7_init_52 ⟨Nat.le_of_ble_eq_true rfl, Nat.le_of_ble_eq_true rfl⟩) hG (fun w H locs hw hG => ?_)
  obtain ⟨f8, ef8, rfl⟩ := hw
  refine W.widen (k := 41) (n := 320) (Nat.le_of_ble_eq_true rfl) (Nat.le_of_ble_eq_true rfl) ?_
  rw [← ef8]
  replace hG := xi_asc hG
  have hG : xg_H D bs (pre ++ (a, .inr (7, [.ref (f2 0), .ref (f4 0), .ref (f6 0), .int 0, .int 0, .null, .null, .null, .null, .null])) :: (xi_5 cI f2 ++ xi_5 cI f4 ++ xi_5 cI f6 ++ xi_3 cI f8)) s.heap H locs := hG
  refine xi_putF (ty := .object "DareBridge$Pad") (v := .ref (f8 0)) (C := RX7) (T := TX7) (N := 10) S hK hG (fun w h => List.mem_cons_of_mem _ (List.mem_append_left _ (List.mem_append_left _ (List.mem_append_left _ (List.mem_append_left _ (List.mem_append_left _ (List.mem_append_left _ (List.mem_append_right _ (h))))))))) tyX7 tyX7_ok nmX7 rfl 5 (by decide) k17 (fun _ h9 => h9) rfl hnm rfl (by decide +kernel) rfl rfl (Nat.le_of_ble_eq_true rfl) dX7_init_55 (fun H locs hG => ?_)
  have hG : xg_H D bs (pre ++ (a, .inr (7, [.ref (f2 0), .ref (f4 0), .ref (f6 0), .int 0, .int 0, .ref (f8 0), .null, .null, .null, .null])) :: (xi_5 cI f2 ++ xi_5 cI f4 ++ xi_5 cI f6 ++ xi_3 cI f8)) s.heap H locs := hG
  refine lv_aload_n hx hb dX7_init_58 rfl (lv_at hl 0 rfl) ?_
  refine xi_new (ci := 4) (fs := [.null, .null, .null, .int 0, .int 0, .int 0, .int 0, .int 0, .int 0]) (C := RX4) (T := TX4) (N := 9) S hK hG (fun w h => List.mem_cons_of_mem _ (List.mem_append_left _ (List.mem_append_left _ (List.mem_append_left _ (List.mem_append_left _ (List.mem_append_right _ (h))))))) tyX4 tyX4_ok k18 k19 k20 rfl (fun j hj => by rcases (show j = 0 ∨ j = 1 ∨ j = 2 ∨ j = 3 ∨ j = 4 ∨ j = 5 ∨ j = 6 ∨ j = 7 ∨ j = 8 by omega) with rfl | rfl | rfl | rfl | rfl | rfl | rfl | rfl | rfl <;> rfl) (Nat.le_of_ble_eq_true rfl) (Nat.le_of_ble_eq_true rfl) dX7_init_59 (fun q9 H hG => ?_)
  refine W.widen (k := 42) (n := 329) (Nat.le_of_ble_eq_true rfl) (Nat.le_of_ble_eq_true rfl) ?_
  refine lv_dup hx hb dX7_init_62 rfl ?_
  refine xg_mv (va_runIN (As := []) (rest := [.ref q9, .ref a]) S (mX4_init l D cI cZ bs (pre ++ (a, .inr (7, [.ref (f2 0), .ref (f4 0), .ref (f6 0), .int 0, .int 0, .ref (f8 0), .null, .null, .null, .null])) :: (xi_5 cI f2 ++ xi_5 cI f4 ++ xi_5 cI f6 ++ xi_3 cI f8)) q9) ⟨(va_cnB 0 hts gX7_init_X4_init_n38 rfl rfl rfl (hK.2.1 _ xg_nest_3) k20 (by decide +kernel) ⟨Nat.le_of_ble_eq_true rfl, Nat.le_of_ble_eq_true rfl⟩), rfl, k21⟩ (xg_preS hK hG) rfl rfl hl.1 rfl (lv_room (Nat.le_of_ble_eq_true rfl)) dX7_init_63 ⟨Nat.le_of_ble_eq_true rfl, Nat.le_of_ble_eq_true rfl⟩) hG (fun w H locs hw hG => ?_)
  obtain ⟨f10, ef10, rfl⟩ := hw
  refine W.widen (k := 57) (n := 453) (Nat.le_of_ble_eq_true rfl) (Nat.le_of_ble_eq_true rfl) ?_
  rw [← ef10]
  replace hG := xi_asc hG
  have hG : xg_H D bs (pre ++ (a, .inr (7, [.ref (f2 0), .ref (f4 0), .ref (f6 0), .int 0, .int 0, .ref (f8 0), .null, .null, .null, .null])) :: (xi_5 cI f2 ++ xi_5 cI f4 ++ xi_5 cI f6 ++ xi_3 cI f8 ++ xi_4 cI f10)) s.heap H locs := hG
  refine xi_putF (ty := .object "DareBridge$Summer") (v := .ref (f10 0)) (C := RX7) (T := TX7) (N := 10) S hK hG (fun w h => List.mem_cons_of_mem _ (List.mem_append_left _ (List.mem_append_left _ (List.mem_append_left _ (List.mem_append_left _ (List.mem_append_left _ (List.mem_append_left _ (List.mem_append_right _ (h))))))))) tyX7 tyX7_ok nmX7 rfl 6 (by decide) k22 (fun _ h9 => h9) rfl hnm rfl (by decide +kernel) rfl rfl (Nat.le_of_ble_eq_true rfl) dX7_init_66 (fun H locs hG => ?_)
  have hG : xg_H D bs (pre ++ (a, .inr (7, [.ref (f2 0), .ref (f4 0), .ref (f6 0), .int 0, .int 0, .ref (f8 0), .ref (f10 0), .null, .null, .null])) :: (xi_5 cI f2 ++ xi_5 cI f4 ++ xi_5 cI f6 ++ xi_3 cI f8 ++ xi_4 cI f10)) s.heap H locs := hG
  refine lv_aload_n hx hb dX7_init_69 rfl (lv_at hl 0 rfl) ?_
  refine xi_new (ci := 1) (fs := [.null, .int 0, .int 0, .int 0]) (C := RX1) (T := TX1) (N := 4) S hK hG (fun w h => List.mem_cons_of_mem _ (List.mem_append_left _ (List.mem_append_left _ (List.mem_append_left _ (List.mem_append_right _ (h)))))) tyX1 tyX1_ok k23 k24 k25 rfl (fun j hj => by rcases (show j = 0 ∨ j = 1 ∨ j = 2 ∨ j = 3 by omega) with rfl | rfl | rfl | rfl <;> rfl) (Nat.le_of_ble_eq_true rfl) (Nat.le_of_ble_eq_true rfl) dX7_init_70 (fun q11 H hG => ?_)
  refine W.widen (k := 58) (n := 457) (Nat.le_of_ble_eq_true rfl) (Nat.le_of_ble_eq_true rfl) ?_
  refine lv_dup hx hb dX7_init_73 rfl ?_
  refine xg_mv (va_runIN (As := []) (rest := [.ref q11, .ref a]) S (mX1_init l D cI cZ bs (pre ++ (a, .inr (7, [.ref (f2 0), .ref (f4 0), .ref (f6 0), .int 0, .int 0, .ref (f8 0), .ref (f10 0), .null, .null, .null])) :: (xi_5 cI f2 ++ xi_5 cI f4 ++ xi_5 cI f6 ++ xi_3 cI f8 ++ xi_4 cI f10)) q11) ⟨(va_cnB 0 hts gX7_init_X1_init_n45 rfl rfl rfl (hK.2.1 _ xg_nest_5) k25 (by decide +kernel) ⟨Nat.le_of_ble_eq_true rfl, Nat.le_of_ble_eq_true rfl⟩), rfl, k26⟩ (xg_preS hK hG) rfl rfl hl.1 rfl (lv_room (Nat.le_of_ble_eq_true rfl)) dX7_init_74 ⟨Nat.le_of_ble_eq_true rfl, Nat.le_of_ble_eq_true rfl⟩) hG (fun w H locs hw hG => ?_)
  obtain ⟨f12, ef12, rfl⟩ := hw
  refine W.widen (k := 59) (n := 459) (Nat.le_of_ble_eq_true rfl) (Nat.le_of_ble_eq_true rfl) ?_
  rw [← ef12]
  replace hG := xi_asc hG
  have hG : xg_H D bs (pre ++ (a, .inr (7, [.ref (f2 0), .ref (f4 0), .ref (f6 0), .int 0, .int 0, .ref (f8 0), .ref (f10 0), .null, .null, .null])) :: (xi_5 cI f2 ++ xi_5 cI f4 ++ xi_5 cI f6 ++ xi_3 cI f8 ++ xi_4 cI f10 ++ xi_1 cI f12)) s.heap H locs := hG
  refine xi_putF (ty := .object "DareBridge$Climb") (v := .ref (f12 0)) (C := RX7) (T := TX7) (N := 10) S hK hG (fun w h => List.mem_cons_of_mem _ (List.mem_append_left _ (List.mem_append_left _ (List.mem_append_left _ (List.mem_append_left _ (List.mem_append_left _ (List.mem_append_left _ (List.mem_append_right _ (h))))))))) tyX7 tyX7_ok nmX7 rfl 7 (by decide) k27 (fun _ h9 => h9) rfl hnm rfl (by decide +kernel) rfl rfl (Nat.le_of_ble_eq_true rfl) dX7_init_77 (fun H locs hG => ?_)
  have hG : xg_H D bs (pre ++ (a, .inr (7, [.ref (f2 0), .ref (f4 0), .ref (f6 0), .int 0, .int 0, .ref (f8 0), .ref (f10 0), .ref (f12 0), .null, .null])) :: (xi_5 cI f2 ++ xi_5 cI f4 ++ xi_5 cI f6 ++ xi_3 cI f8 ++ xi_4 cI f10 ++ xi_1 cI f12)) s.heap H locs := hG
  refine lv_aload_n hx hb dX7_init_80 rfl (lv_at hl 0 rfl) ?_
  refine xi_new (ci := 2) (fs := [.int 0, .int 0, .int 0]) (C := RX2) (T := TX2) (N := 3) S hK hG (fun w h => List.mem_cons_of_mem _ (List.mem_append_left _ (List.mem_append_left _ (List.mem_append_right _ (h))))) tyX2 tyX2_ok k28 k29 k30 rfl (fun j hj => by rcases (show j = 0 ∨ j = 1 ∨ j = 2 by omega) with rfl | rfl | rfl <;> rfl) (Nat.le_of_ble_eq_true rfl) (Nat.le_of_ble_eq_true rfl) dX7_init_81 (fun q13 H hG => ?_)
  refine W.widen (k := 60) (n := 462) (Nat.le_of_ble_eq_true rfl) (Nat.le_of_ble_eq_true rfl) ?_
  refine lv_dup hx hb dX7_init_84 rfl ?_
  refine xg_mv (va_runIN (As := []) (rest := [.ref q13, .ref a]) S (mX2_init l D cI cZ bs (pre ++ (a, .inr (7, [.ref (f2 0), .ref (f4 0), .ref (f6 0), .int 0, .int 0, .ref (f8 0), .ref (f10 0), .ref (f12 0), .null, .null])) :: (xi_5 cI f2 ++ xi_5 cI f4 ++ xi_5 cI f6 ++ xi_3 cI f8 ++ xi_4 cI f10 ++ xi_1 cI f12)) q13) ⟨(va_cnB 0 hts gX7_init_X2_init_n52 rfl rfl rfl (hK.2.1 _ xg_nest_7) k30 (by decide +kernel) ⟨Nat.le_of_ble_eq_true rfl, Nat.le_of_ble_eq_true rfl⟩), rfl, k31⟩ (xg_preS hK hG) rfl rfl hl.1 rfl (lv_room (Nat.le_of_ble_eq_true rfl)) dX7_init_85 ⟨Nat.le_of_ble_eq_true rfl, Nat.le_of_ble_eq_true rfl⟩) hG (fun w H locs hw hG => ?_)
  obtain ⟨f14, ef14, rfl⟩ := hw
  refine W.widen (k := 60) (n := 462) (Nat.le_of_ble_eq_true rfl) (Nat.le_of_ble_eq_true rfl) ?_
  rw [← ef14]
  replace hG := xi_asc hG
  have hG : xg_H D bs (pre ++ (a, .inr (7, [.ref (f2 0), .ref (f4 0), .ref (f6 0), .int 0, .int 0, .ref (f8 0), .ref (f10 0), .ref (f12 0), .null, .null])) :: (xi_5 cI f2 ++ xi_5 cI f4 ++ xi_5 cI f6 ++ xi_3 cI f8 ++ xi_4 cI f10 ++ xi_1 cI f12 ++ xi_2 cI f14)) s.heap H locs := hG
  refine xi_putF (ty := .object "DareBridge$Game") (v := .ref (f14 0)) (C := RX7) (T := TX7) (N := 10) S hK hG (fun w h => List.mem_cons_of_mem _ (List.mem_append_left _ (List.mem_append_left _ (List.mem_append_left _ (List.mem_append_left _ (List.mem_append_left _ (List.mem_append_left _ (List.mem_append_right _ (h))))))))) tyX7 tyX7_ok nmX7 rfl 8 (by decide) k32 (fun _ h9 => h9) rfl hnm rfl (by decide +kernel) rfl rfl (Nat.le_of_ble_eq_true rfl) dX7_init_88 (fun H locs hG => ?_)
  have hG : xg_H D bs (pre ++ (a, .inr (7, [.ref (f2 0), .ref (f4 0), .ref (f6 0), .int 0, .int 0, .ref (f8 0), .ref (f10 0), .ref (f12 0), .ref (f14 0), .null])) :: (xi_5 cI f2 ++ xi_5 cI f4 ++ xi_5 cI f6 ++ xi_3 cI f8 ++ xi_4 cI f10 ++ xi_1 cI f12 ++ xi_2 cI f14)) s.heap H locs := hG
  refine lv_aload_n hx hb dX7_init_91 rfl (lv_at hl 0 rfl) ?_
  refine xi_new (ci := 6) (fs := [.null, .int 0, .int 0, .int 0]) (C := RX6) (T := TX6) (N := 4) S hK hG (fun w h => List.mem_cons_of_mem _ (List.mem_append_left _ (List.mem_append_right _ (h)))) tyX6 tyX6_ok k33 k34 k35 rfl (fun j hj => by rcases (show j = 0 ∨ j = 1 ∨ j = 2 ∨ j = 3 by omega) with rfl | rfl | rfl | rfl <;> rfl) (Nat.le_of_ble_eq_true rfl) (Nat.le_of_ble_eq_true rfl) dX7_init_92 (fun q15 H hG => ?_)
  refine W.widen (k := 61) (n := 466) (Nat.le_of_ble_eq_true rfl) (Nat.le_of_ble_eq_true rfl) ?_
  refine lv_dup hx hb dX7_init_95 rfl ?_
  refine xg_mv (va_runIN (As := []) (rest := [.ref q15, .ref a]) S (mX6_init l D cI cZ bs (pre ++ (a, .inr (7, [.ref (f2 0), .ref (f4 0), .ref (f6 0), .int 0, .int 0, .ref (f8 0), .ref (f10 0), .ref (f12 0), .ref (f14 0), .null])) :: (xi_5 cI f2 ++ xi_5 cI f4 ++ xi_5 cI f6 ++ xi_3 cI f8 ++ xi_4 cI f10 ++ xi_1 cI f12 ++ xi_2 cI f14)) q15) ⟨(va_cnB 0 hts gX7_init_X6_init_n59 rfl rfl rfl (hK.2.1 _ xg_nest_8) k35 (by decide +kernel) ⟨Nat.le_of_ble_eq_true rfl, Nat.le_of_ble_eq_true rfl⟩), rfl, k36⟩ (xg_preS hK hG) rfl rfl hl.1 rfl (lv_room (Nat.le_of_ble_eq_true rfl)) dX7_init_96 ⟨Nat.le_of_ble_eq_true rfl, Nat.le_of_ble_eq_true rfl⟩) hG (fun w H locs hw hG => ?_)
  obtain ⟨f16, ef16, rfl⟩ := hw
  refine W.widen (k := 74) (n := 552) (Nat.le_of_ble_eq_true rfl) (Nat.le_of_ble_eq_true rfl) ?_
  rw [← ef16]
  replace hG := xi_asc hG
  have hG : xg_H D bs (pre ++ (a, .inr (7, [.ref (f2 0), .ref (f4 0), .ref (f6 0), .int 0, .int 0, .ref (f8 0), .ref (f10 0), .ref (f12 0), .ref (f14 0), .null])) :: (xi_5 cI f2 ++ xi_5 cI f4 ++ xi_5 cI f6 ++ xi_3 cI f8 ++ xi_4 cI f10 ++ xi_1 cI f12 ++ xi_2 cI f14 ++ xi_6 cI f16)) s.heap H locs := hG
  refine xi_putF (ty := .object "DareBridge$Year") (v := .ref (f16 0)) (C := RX7) (T := TX7) (N := 10) S hK hG (fun w h => List.mem_cons_of_mem _ (List.mem_append_left _ (List.mem_append_left _ (List.mem_append_left _ (List.mem_append_left _ (List.mem_append_left _ (List.mem_append_left _ (List.mem_append_right _ (h))))))))) tyX7 tyX7_ok nmX7 rfl 9 (by decide) k37 (fun _ h9 => h9) rfl hnm rfl (by decide +kernel) rfl rfl (Nat.le_of_ble_eq_true rfl) dX7_init_99 (fun H locs hG => ?_)
  have hG : xg_H D bs (pre ++ (a, .inr (7, [.ref (f2 0), .ref (f4 0), .ref (f6 0), .int 0, .int 0, .ref (f8 0), .ref (f10 0), .ref (f12 0), .ref (f14 0), .ref (f16 0)])) :: (xi_5 cI f2 ++ xi_5 cI f4 ++ xi_5 cI f6 ++ xi_3 cI f8 ++ xi_4 cI f10 ++ xi_1 cI f12 ++ xi_2 cI f14 ++ xi_6 cI f16)) s.heap H locs := hG
  rw [hQ]
  exact xg_emv S hr hlk hK hG ⟨fun k => if k = 0 then a else if k < 14 then f2 (k - 1) else if k < 27 then f4 (k - 14) else if k < 40 then f6 (k - 27) else if k < 42 then f8 (k - 40) else if k < 58 then f10 (k - 42) else if k < 60 then f12 (k - 58) else if k < 61 then f14 (k - 60) else if k < 75 then f16 (k - 61) else 0, rfl, rfl⟩ dX7_init_102
set_option maxHeartbeats 4000000 in
set_option maxRecDepth 100000 in
theorem mX8_init (l : Launch) (D : va_G) (cI cZ : ClassId) (bs : Nat) (pre : va_W) (a : Nat) : Met l yX8_init wsX8_init ({ frames := 1, cells := 23, slots := 676, locals := 24 } : Room) (va_Pc [.ref a] (fun U => xg_W D cI cZ bs (pre ++ [(a, .inr (8, [.int 0, .null, .null, .null, .null, .null, .null, .null, .int 0, .int 0, .int 0, .int 0, .int 0, .int 0, .int 0, .null, .null, .null, .int 0, .null, .int 0, .null, .null, .null, .null, .int 0, .int 0, .int 0, .int 0, .int 0, .int 0, .null, .null, .null, .int 0, .int 0, .int 0, .int 0, .long 0, .null, .null, .null, .null, .null, .int 0, .int 0]))]) U)) (va_Qv (fun w : va_W => ∃ q : Nat → Nat, q 0 = a ∧ w = pre ++ xi_8 cI cZ q) (fun w t => xg_W D cI cZ bs w t) (xg_A bs)) 23 676 (xg_A bs) := by
  refine xg_met cX8_init 1 none RX8 (by decide) rfl rfl (Nat.le_of_ble_eq_true rfl) ?_
  intro pg en s m below meth c ls S hr hlk hnm hB hl
  have hK := hB.1
  have hG := xg_start hB
  obtain ⟨hx, hb, hml, hown, hts⟩ := id S
  have hl : lv_has ls 1 [(0, .ref a)] := hl
  have hnm : meth.name = "<init>" := hnm
  obtain ⟨Q, hQ⟩ : ∃ Q, Q = MQ below (va_Qv (fun w : va_W => ∃ q : Nat → Nat, q 0 = a ∧ w = pre ++ xi_8 cI cZ q) (fun w t => xg_W D cI cZ bs w t) (xg_A bs)) ([.ref a] : List Value).toArray s 23 676 (xg_A bs) := ⟨_, rfl⟩
  rw [← hQ]
  have k0 := hts (.methodLink RX8 1 objectInit) (List.mem_of_getElem? (i := 1) rfl)
  have k1 := hts (.instanceMethod objectInit) (List.mem_of_getElem? (i := 2) rfl)
  have k2 := hts (.code objectInit ⟨#[0xb1]⟩ 1 none) (List.mem_of_getElem? (i := 3) rfl)
  have k3 := hts (.arrayClass .int) (List.mem_of_getElem? (i := 4) rfl)
  have k4 := hts (.fieldLink RX8 7 "DareBridgeModel" "skill" "[I") (List.mem_of_getElem? (i := 5) rfl)
  have k5 := hts (.fieldLink RX8 13 "DareBridgeModel" "fear" "[I") (List.mem_of_getElem? (i := 6) rfl)
  have k6 := hts (.fieldLink RX8 16 "DareBridgeModel" "pride" "[I") (List.mem_of_getElem? (i := 7) rfl)
  have k7 := hts (.fieldLink RX8 19 "DareBridgeModel" "wish" "[I") (List.mem_of_getElem? (i := 8) rfl)
  have k8 := hts (.fieldLink RX8 22 "DareBridgeModel" "high" "[I") (List.mem_of_getElem? (i := 9) rfl)
  have k9 := hts (.fieldLink RX8 25 "DareBridgeModel" "fame" "[I") (List.mem_of_getElem? (i := 10) rfl)
  have k10 := hts (.fieldLink RX8 28 "DareBridgeModel" "nights" "[I") (List.mem_of_getElem? (i := 11) rfl)
  have k11 := hts (.fieldLink RX8 31 "DareBridgeModel" "sightOf" "[I") (List.mem_of_getElem? (i := 12) rfl)
  have k12 := hts (.fieldLink RX8 34 "DareBridgeModel" "sightHeight" "[I") (List.mem_of_getElem? (i := 13) rfl)
  have k13 := hts (.fieldLink RX8 37 "DareBridgeModel" "sightDid" "[I") (List.mem_of_getElem? (i := 14) rfl)
  have k14 := hts (.fieldLink RX8 40 "DareBridgeModel" "pad" "[I") (List.mem_of_getElem? (i := 15) rfl)
  have k15 := hts (.fieldLink RX8 43 "DareBridgeModel" "sort" "[I") (List.mem_of_getElem? (i := 16) rfl)
  have k16 := hts (.fieldLink RX8 46 "DareBridgeModel" "who" "[I") (List.mem_of_getElem? (i := 17) rfl)
  have k17 := hts (.fieldLink RX8 49 "DareBridgeModel" "whom" "[I") (List.mem_of_getElem? (i := 18) rfl)
  have k18 := hts (.fieldLink RX8 52 "DareBridgeModel" "height" "[I") (List.mem_of_getElem? (i := 19) rfl)
  have k19 := hts (.fieldLink RX8 55 "DareBridgeModel" "hadHigh" "[I") (List.mem_of_getElem? (i := 20) rfl)
  have k20 := hts (.fieldLink RX8 58 "DareBridgeModel" "hadFame" "[I") (List.mem_of_getElem? (i := 21) rfl)
  have k21 := hts (.fieldLink RX8 61 "DareBridgeModel" "hadNights" "[I") (List.mem_of_getElem? (i := 22) rfl)
  have k22 := hts (.fieldLink RX8 64 "DareBridgeModel" "act" "[I") (List.mem_of_getElem? (i := 23) rfl)
  have k23 := hts (.fieldLink RX8 67 "DareBridgeModel" "toDared" "[I") (List.mem_of_getElem? (i := 24) rfl)
  have k24 := hts (.fieldLink RX8 70 "DareBridgeModel" "toOther" "[I") (List.mem_of_getElem? (i := 25) rfl)
  have k25 := hts (.fieldLink RX8 73 "DareBridgeModel" "kept" "[I") (List.mem_of_getElem? (i := 26) rfl)
  have k26 := hts (.arrayClass .boolean) (List.mem_of_getElem? (i := 27) rfl)
  have k27 := hts (.fieldLink RX8 76 "DareBridgeModel" "isKept" "[Z") (List.mem_of_getElem? (i := 28) rfl)
  have k28 := hts (.fieldLink RX8 80 "DareBridgeModel" "step" "I") (List.mem_of_getElem? (i := 29) rfl)
  have k29 := hts (.fieldLink RX8 84 "DareBridgeModel" "start" "I") (List.mem_of_getElem? (i := 30) rfl)
  have k30 := hts (.fieldLink RX8 87 "DareBridgeModel" "cost" "I") (List.mem_of_getElem? (i := 31) rfl)
  have k31 := hts (.fieldLink RX8 90 "DareBridgeModel" "fade" "I") (List.mem_of_getElem? (i := 32) rfl)
  have k32 := hts (.fieldLink RX8 93 "DareBridgeModel" "plaster" "I") (List.mem_of_getElem? (i := 33) rfl)
  have k33 := hts (.fieldLink RX8 96 "DareBridgeModel" "x" "I") (List.mem_of_getElem? (i := 34) rfl)
  refine lv_aload_n hx hb dX8_init_0 rfl (lv_at hl 0 rfl) ?_
  refine W.objInit hx hb hown k0 k1 k2 rfl (by rw [hml]; exact hl.1) rfl dX8_init_1 (Nat.le_of_ble_eq_true rfl) (Nat.le_of_ble_eq_true rfl) ?_
  refine W.eq (g2 := F0 m 4 ls []) rfl ?_
  refine lv_aload_n hx hb dX8_init_4 rfl (lv_at hl 0 rfl) ?_
  refine lv_bipush (v := 6) hx hb dX8_init_5 (by decide) ?_
  refine xi_newi (n := 6) (N := 6) S hK hG k3 (by decide) rfl (Nat.le_of_ble_eq_true rfl) (Nat.le_of_ble_eq_true rfl) (Nat.le_of_ble_eq_true rfl) dX8_init_7 (fun q1 H hG => ?_)
  refine W.widen (k := 1) (n := 6) (Nat.le_of_ble_eq_true rfl) (Nat.le_of_ble_eq_true rfl) ?_
  have hG : xg_H D bs (pre ++ (a, .inr (8, [.int 0, .null, .null, .null, .null, .null, .null, .null, .int 0, .int 0, .int 0, .int 0, .int 0, .int 0, .int 0, .null, .null, .null, .int 0, .null, .int 0, .null, .null, .null, .null, .int 0, .int 0, .int 0, .int 0, .int 0, .int 0, .null, .null, .null, .int 0, .int 0, .int 0, .int 0, .long 0, .null, .null, .null, .null, .null, .int 0, .int 0])) :: ([(q1, .inl (cI, 6, .inl xi_z))])) s.heap H [] := hG
  refine xi_putF (ty := .array .int) (v := .ref q1) (C := RX8) (T := TX8) (N := 46) S hK hG (fun w h => List.mem_cons_of_mem _ (List.mem_append_right _ (h))) tyX8 tyX8_ok nmX8 rfl 1 (by decide) k4 (fun _ h9 => h9) rfl hnm rfl (by decide +kernel) rfl rfl (Nat.le_of_ble_eq_true rfl) dX8_init_9 (fun H locs hG => ?_)
  have hG : xg_H D bs (pre ++ (a, .inr (8, [.int 0, .ref q1, .null, .null, .null, .null, .null, .null, .int 0, .int 0, .int 0, .int 0, .int 0, .int 0, .int 0, .null, .null, .null, .int 0, .null, .int 0, .null, .null, .null, .null, .int 0, .int 0, .int 0, .int 0, .int 0, .int 0, .null, .null, .null, .int 0, .int 0, .int 0, .int 0, .long 0, .null, .null, .null, .null, .null, .int 0, .int 0])) :: ([(q1, .inl (cI, 6, .inl xi_z))])) s.heap H locs := hG
  refine lv_aload_n hx hb dX8_init_12 rfl (lv_at hl 0 rfl) ?_
  refine lv_bipush (v := 6) hx hb dX8_init_13 (by decide) ?_
  refine xi_newi (n := 6) (N := 6) S hK hG k3 (by decide) rfl (Nat.le_of_ble_eq_true rfl) (Nat.le_of_ble_eq_true rfl) (Nat.le_of_ble_eq_true rfl) dX8_init_15 (fun q2 H hG => ?_)
  refine W.widen (k := 2) (n := 12) (Nat.le_of_ble_eq_true rfl) (Nat.le_of_ble_eq_true rfl) ?_
  have hG : xg_H D bs (pre ++ (a, .inr (8, [.int 0, .ref q1, .null, .null, .null, .null, .null, .null, .int 0, .int 0, .int 0, .int 0, .int 0, .int 0, .int 0, .null, .null, .null, .int 0, .null, .int 0, .null, .null, .null, .null, .int 0, .int 0, .int 0, .int 0, .int 0, .int 0, .null, .null, .null, .int 0, .int 0, .int 0, .int 0, .long 0, .null, .null, .null, .null, .null, .int 0, .int 0])) :: ([(q1, .inl (cI, 6, .inl xi_z)), (q2, .inl (cI, 6, .inl xi_z))])) s.heap H locs := hG
  refine xi_putF (ty := .array .int) (v := .ref q2) (C := RX8) (T := TX8) (N := 46) S hK hG (fun w h => List.mem_cons_of_mem _ (List.mem_append_right _ (h))) tyX8 tyX8_ok nmX8 rfl 2 (by decide) k5 (fun _ h9 => h9) rfl hnm rfl (by decide +kernel) rfl rfl (Nat.le_of_ble_eq_true rfl) dX8_init_17 (fun H locs hG => ?_)
  have hG : xg_H D bs (pre ++ (a, .inr (8, [.int 0, .ref q1, .ref q2, .null, .null, .null, .null, .null, .int 0, .int 0, .int 0, .int 0, .int 0, .int 0, .int 0, .null, .null, .null, .int 0, .null, .int 0, .null, .null, .null, .null, .int 0, .int 0, .int 0, .int 0, .int 0, .int 0, .null, .null, .null, .int 0, .int 0, .int 0, .int 0, .long 0, .null, .null, .null, .null, .null, .int 0, .int 0])) :: ([(q1, .inl (cI, 6, .inl xi_z)), (q2, .inl (cI, 6, .inl xi_z))])) s.heap H locs := hG
  refine lv_aload_n hx hb dX8_init_20 rfl (lv_at hl 0 rfl) ?_
  refine lv_bipush (v := 6) hx hb dX8_init_21 (by decide) ?_
  refine xi_newi (n := 6) (N := 6) S hK hG k3 (by decide) rfl (Nat.le_of_ble_eq_true rfl) (Nat.le_of_ble_eq_true rfl) (Nat.le_of_ble_eq_true rfl) dX8_init_23 (fun q3 H hG => ?_)
  refine W.widen (k := 3) (n := 18) (Nat.le_of_ble_eq_true rfl) (Nat.le_of_ble_eq_true rfl) ?_
  have hG : xg_H D bs (pre ++ (a, .inr (8, [.int 0, .ref q1, .ref q2, .null, .null, .null, .null, .null, .int 0, .int 0, .int 0, .int 0, .int 0, .int 0, .int 0, .null, .null, .null, .int 0, .null, .int 0, .null, .null, .null, .null, .int 0, .int 0, .int 0, .int 0, .int 0, .int 0, .null, .null, .null, .int 0, .int 0, .int 0, .int 0, .long 0, .null, .null, .null, .null, .null, .int 0, .int 0])) :: ([(q1, .inl (cI, 6, .inl xi_z)), (q2, .inl (cI, 6, .inl xi_z)), (q3, .inl (cI, 6, .inl xi_z))])) s.heap H locs := hG
  refine xi_putF (ty := .array .int) (v := .ref q3) (C := RX8) (T := TX8) (N := 46) S hK hG (fun w h => List.mem_cons_of_mem _ (List.mem_append_right _ (h))) tyX8 tyX8_ok nmX8 rfl 3 (by decide) k6 (fun _ h9 => h9) rfl hnm rfl (by decide +kernel) rfl rfl (Nat.le_of_ble_eq_true rfl) dX8_init_25 (fun H locs hG => ?_)
  have hG : xg_H D bs (pre ++ (a, .inr (8, [.int 0, .ref q1, .ref q2, .ref q3, .null, .null, .null, .null, .int 0, .int 0, .int 0, .int 0, .int 0, .int 0, .int 0, .null, .null, .null, .int 0, .null, .int 0, .null, .null, .null, .null, .int 0, .int 0, .int 0, .int 0, .int 0, .int 0, .null, .null, .null, .int 0, .int 0, .int 0, .int 0, .long 0, .null, .null, .null, .null, .null, .int 0, .int 0])) :: ([(q1, .inl (cI, 6, .inl xi_z)), (q2, .inl (cI, 6, .inl xi_z)), (q3, .inl (cI, 6, .inl xi_z))])) s.heap H locs := hG
  refine lv_aload_n hx hb dX8_init_28 rfl (lv_at hl 0 rfl) ?_
  refine lv_bipush (v := 6) hx hb dX8_init_29 (by decide) ?_
  refine xi_newi (n := 6) (N := 6) S hK hG k3 (by decide) rfl (Nat.le_of_ble_eq_true rfl) (Nat.le_of_ble_eq_true rfl) (Nat.le_of_ble_eq_true rfl) dX8_init_31 (fun q4 H hG => ?_)
  refine W.widen (k := 4) (n := 24) (Nat.le_of_ble_eq_true rfl) (Nat.le_of_ble_eq_true rfl) ?_
  have hG : xg_H D bs (pre ++ (a, .inr (8, [.int 0, .ref q1, .ref q2, .ref q3, .null, .null, .null, .null, .int 0, .int 0, .int 0, .int 0, .int 0, .int 0, .int 0, .null, .null, .null, .int 0, .null, .int 0, .null, .null, .null, .null, .int 0, .int 0, .int 0, .int 0, .int 0, .int 0, .null, .null, .null, .int 0, .int 0, .int 0, .int 0, .long 0, .null, .null, .null, .null, .null, .int 0, .int 0])) :: ([(q1, .inl (cI, 6, .inl xi_z)), (q2, .inl (cI, 6, .inl xi_z)), (q3, .inl (cI, 6, .inl xi_z)), (q4, .inl (cI, 6, .inl xi_z))])) s.heap H locs := hG
  refine xi_putF (ty := .array .int) (v := .ref q4) (C := RX8) (T := TX8) (N := 46) S hK hG (fun w h => List.mem_cons_of_mem _ (List.mem_append_right _ (h))) tyX8 tyX8_ok nmX8 rfl 4 (by decide) k7 (fun _ h9 => h9) rfl hnm rfl (by decide +kernel) rfl rfl (Nat.le_of_ble_eq_true rfl) dX8_init_33 (fun H locs hG => ?_)
  have hG : xg_H D bs (pre ++ (a, .inr (8, [.int 0, .ref q1, .ref q2, .ref q3, .ref q4, .null, .null, .null, .int 0, .int 0, .int 0, .int 0, .int 0, .int 0, .int 0, .null, .null, .null, .int 0, .null, .int 0, .null, .null, .null, .null, .int 0, .int 0, .int 0, .int 0, .int 0, .int 0, .null, .null, .null, .int 0, .int 0, .int 0, .int 0, .long 0, .null, .null, .null, .null, .null, .int 0, .int 0])) :: ([(q1, .inl (cI, 6, .inl xi_z)), (q2, .inl (cI, 6, .inl xi_z)), (q3, .inl (cI, 6, .inl xi_z)), (q4, .inl (cI, 6, .inl xi_z))])) s.heap H locs := hG
  refine lv_aload_n hx hb dX8_init_36 rfl (lv_at hl 0 rfl) ?_
  refine lv_bipush (v := 6) hx hb dX8_init_37 (by decide) ?_
  refine xi_newi (n := 6) (N := 6) S hK hG k3 (by decide) rfl (Nat.le_of_ble_eq_true rfl) (Nat.le_of_ble_eq_true rfl) (Nat.le_of_ble_eq_true rfl) dX8_init_39 (fun q5 H hG => ?_)
  refine W.widen (k := 5) (n := 30) (Nat.le_of_ble_eq_true rfl) (Nat.le_of_ble_eq_true rfl) ?_
  have hG : xg_H D bs (pre ++ (a, .inr (8, [.int 0, .ref q1, .ref q2, .ref q3, .ref q4, .null, .null, .null, .int 0, .int 0, .int 0, .int 0, .int 0, .int 0, .int 0, .null, .null, .null, .int 0, .null, .int 0, .null, .null, .null, .null, .int 0, .int 0, .int 0, .int 0, .int 0, .int 0, .null, .null, .null, .int 0, .int 0, .int 0, .int 0, .long 0, .null, .null, .null, .null, .null, .int 0, .int 0])) :: ([(q1, .inl (cI, 6, .inl xi_z)), (q2, .inl (cI, 6, .inl xi_z)), (q3, .inl (cI, 6, .inl xi_z)), (q4, .inl (cI, 6, .inl xi_z)), (q5, .inl (cI, 6, .inl xi_z))])) s.heap H locs := hG
  refine xi_putF (ty := .array .int) (v := .ref q5) (C := RX8) (T := TX8) (N := 46) S hK hG (fun w h => List.mem_cons_of_mem _ (List.mem_append_right _ (h))) tyX8 tyX8_ok nmX8 rfl 5 (by decide) k8 (fun _ h9 => h9) rfl hnm rfl (by decide +kernel) rfl rfl (Nat.le_of_ble_eq_true rfl) dX8_init_41 (fun H locs hG => ?_)
  have hG : xg_H D bs (pre ++ (a, .inr (8, [.int 0, .ref q1, .ref q2, .ref q3, .ref q4, .ref q5, .null, .null, .int 0, .int 0, .int 0, .int 0, .int 0, .int 0, .int 0, .null, .null, .null, .int 0, .null, .int 0, .null, .null, .null, .null, .int 0, .int 0, .int 0, .int 0, .int 0, .int 0, .null, .null, .null, .int 0, .int 0, .int 0, .int 0, .long 0, .null, .null, .null, .null, .null, .int 0, .int 0])) :: ([(q1, .inl (cI, 6, .inl xi_z)), (q2, .inl (cI, 6, .inl xi_z)), (q3, .inl (cI, 6, .inl xi_z)), (q4, .inl (cI, 6, .inl xi_z)), (q5, .inl (cI, 6, .inl xi_z))])) s.heap H locs := hG
  refine lv_aload_n hx hb dX8_init_44 rfl (lv_at hl 0 rfl) ?_
  refine lv_bipush (v := 6) hx hb dX8_init_45 (by decide) ?_
  refine xi_newi (n := 6) (N := 6) S hK hG k3 (by decide) rfl (Nat.le_of_ble_eq_true rfl) (Nat.le_of_ble_eq_true rfl) (Nat.le_of_ble_eq_true rfl) dX8_init_47 (fun q6 H hG => ?_)
  refine W.widen (k := 6) (n := 36) (Nat.le_of_ble_eq_true rfl) (Nat.le_of_ble_eq_true rfl) ?_
  have hG : xg_H D bs (pre ++ (a, .inr (8, [.int 0, .ref q1, .ref q2, .ref q3, .ref q4, .ref q5, .null, .null, .int 0, .int 0, .int 0, .int 0, .int 0, .int 0, .int 0, .null, .null, .null, .int 0, .null, .int 0, .null, .null, .null, .null, .int 0, .int 0, .int 0, .int 0, .int 0, .int 0, .null, .null, .null, .int 0, .int 0, .int 0, .int 0, .long 0, .null, .null, .null, .null, .null, .int 0, .int 0])) :: ([(q1, .inl (cI, 6, .inl xi_z)), (q2, .inl (cI, 6, .inl xi_z)), (q3, .inl (cI, 6, .inl xi_z)), (q4, .inl (cI, 6, .inl xi_z)), (q5, .inl (cI, 6, .inl xi_z)), (q6, .inl (cI, 6, .inl xi_z))])) s.heap H locs := hG
  refine xi_putF (ty := .array .int) (v := .ref q6) (C := RX8) (T := TX8) (N := 46) S hK hG (fun w h => List.mem_cons_of_mem _ (List.mem_append_right _ (h))) tyX8 tyX8_ok nmX8 rfl 6 (by decide) k9 (fun _ h9 => h9) rfl hnm rfl (by decide +kernel) rfl rfl (Nat.le_of_ble_eq_true rfl) dX8_init_49 (fun H locs hG => ?_)
  have hG : xg_H D bs (pre ++ (a, .inr (8, [.int 0, .ref q1, .ref q2, .ref q3, .ref q4, .ref q5, .ref q6, .null, .int 0, .int 0, .int 0, .int 0, .int 0, .int 0, .int 0, .null, .null, .null, .int 0, .null, .int 0, .null, .null, .null, .null, .int 0, .int 0, .int 0, .int 0, .int 0, .int 0, .null, .null, .null, .int 0, .int 0, .int 0, .int 0, .long 0, .null, .null, .null, .null, .null, .int 0, .int 0])) :: ([(q1, .inl (cI, 6, .inl xi_z)), (q2, .inl (cI, 6, .inl xi_z)), (q3, .inl (cI, 6, .inl xi_z)), (q4, .inl (cI, 6, .inl xi_z)), (q5, .inl (cI, 6, .inl xi_z)), (q6, .inl (cI, 6, .inl xi_z))])) s.heap H locs := hG
  refine lv_aload_n hx hb dX8_init_52 rfl (lv_at hl 0 rfl) ?_
  refine lv_bipush (v := 6) hx hb dX8_init_53 (by decide) ?_
  refine xi_newi (n := 6) (N := 6) S hK hG k3 (by decide) rfl (Nat.le_of_ble_eq_true rfl) (Nat.le_of_ble_eq_true rfl) (Nat.le_of_ble_eq_true rfl) dX8_init_55 (fun q7 H hG => ?_)
  refine W.widen (k := 7) (n := 42) (Nat.le_of_ble_eq_true rfl) (Nat.le_of_ble_eq_true rfl) ?_
  have hG : xg_H D bs (pre ++ (a, .inr (8, [.int 0, .ref q1, .ref q2, .ref q3, .ref q4, .ref q5, .ref q6, .null, .int 0, .int 0, .int 0, .int 0, .int 0, .int 0, .int 0, .null, .null, .null, .int 0, .null, .int 0, .null, .null, .null, .null, .int 0, .int 0, .int 0, .int 0, .int 0, .int 0, .null, .null, .null, .int 0, .int 0, .int 0, .int 0, .long 0, .null, .null, .null, .null, .null, .int 0, .int 0])) :: ([(q1, .inl (cI, 6, .inl xi_z)), (q2, .inl (cI, 6, .inl xi_z)), (q3, .inl (cI, 6, .inl xi_z)), (q4, .inl (cI, 6, .inl xi_z)), (q5, .inl (cI, 6, .inl xi_z)), (q6, .inl (cI, 6, .inl xi_z)), (q7, .inl (cI, 6, .inl xi_z))])) s.heap H locs := hG
  refine xi_putF (ty := .array .int) (v := .ref q7) (C := RX8) (T := TX8) (N := 46) S hK hG (fun w h => List.mem_cons_of_mem _ (List.mem_append_right _ (h))) tyX8 tyX8_ok nmX8 rfl 7 (by decide) k10 (fun _ h9 => h9) rfl hnm rfl (by decide +kernel) rfl rfl (Nat.le_of_ble_eq_true rfl) dX8_init_57 (fun H locs hG => ?_)
  have hG : xg_H D bs (pre ++ (a, .inr (8, [.int 0, .ref q1, .ref q2, .ref q3, .ref q4, .ref q5, .ref q6, .ref q7, .int 0, .int 0, .int 0, .int 0, .int 0, .int 0, .int 0, .null, .null, .null, .int 0, .null, .int 0, .null, .null, .null, .null, .int 0, .int 0, .int 0, .int 0, .int 0, .int 0, .null, .null, .null, .int 0, .int 0, .int 0, .int 0, .long 0, .null, .null, .null, .null, .null, .int 0, .int 0])) :: ([(q1, .inl (cI, 6, .inl xi_z)), (q2, .inl (cI, 6, .inl xi_z)), (q3, .inl (cI, 6, .inl xi_z)), (q4, .inl (cI, 6, .inl xi_z)), (q5, .inl (cI, 6, .inl xi_z)), (q6, .inl (cI, 6, .inl xi_z)), (q7, .inl (cI, 6, .inl xi_z))])) s.heap H locs := hG
  refine lv_aload_n hx hb dX8_init_60 rfl (lv_at hl 0 rfl) ?_
  refine lv_bipush (v := 6) hx hb dX8_init_61 (by decide) ?_
  refine xi_newi (n := 6) (N := 6) S hK hG k3 (by decide) rfl (Nat.le_of_ble_eq_true rfl) (Nat.le_of_ble_eq_true rfl) (Nat.le_of_ble_eq_true rfl) dX8_init_63 (fun q8 H hG => ?_)
  refine W.widen (k := 8) (n := 48) (Nat.le_of_ble_eq_true rfl) (Nat.le_of_ble_eq_true rfl) ?_
  have hG : xg_H D bs (pre ++ (a, .inr (8, [.int 0, .ref q1, .ref q2, .ref q3, .ref q4, .ref q5, .ref q6, .ref q7, .int 0, .int 0, .int 0, .int 0, .int 0, .int 0, .int 0, .null, .null, .null, .int 0, .null, .int 0, .null, .null, .null, .null, .int 0, .int 0, .int 0, .int 0, .int 0, .int 0, .null, .null, .null, .int 0, .int 0, .int 0, .int 0, .long 0, .null, .null, .null, .null, .null, .int 0, .int 0])) :: ([(q1, .inl (cI, 6, .inl xi_z)), (q2, .inl (cI, 6, .inl xi_z)), (q3, .inl (cI, 6, .inl xi_z)), (q4, .inl (cI, 6, .inl xi_z)), (q5, .inl (cI, 6, .inl xi_z)), (q6, .inl (cI, 6, .inl xi_z)), (q7, .inl (cI, 6, .inl xi_z)), (q8, .inl (cI, 6, .inl xi_z))])) s.heap H locs := hG
  refine xi_putF (ty := .array .int) (v := .ref q8) (C := RX8) (T := TX8) (N := 46) S hK hG (fun w h => List.mem_cons_of_mem _ (List.mem_append_right _ (h))) tyX8 tyX8_ok nmX8 rfl 15 (by decide) k11 (fun _ h9 => h9) rfl hnm rfl (by decide +kernel) rfl rfl (Nat.le_of_ble_eq_true rfl) dX8_init_65 (fun H locs hG => ?_)
  have hG : xg_H D bs (pre ++ (a, .inr (8, [.int 0, .ref q1, .ref q2, .ref q3, .ref q4, .ref q5, .ref q6, .ref q7, .int 0, .int 0, .int 0, .int 0, .int 0, .int 0, .int 0, .ref q8, .null, .null, .int 0, .null, .int 0, .null, .null, .null, .null, .int 0, .int 0, .int 0, .int 0, .int 0, .int 0, .null, .null, .null, .int 0, .int 0, .int 0, .int 0, .long 0, .null, .null, .null, .null, .null, .int 0, .int 0])) :: ([(q1, .inl (cI, 6, .inl xi_z)), (q2, .inl (cI, 6, .inl xi_z)), (q3, .inl (cI, 6, .inl xi_z)), (q4, .inl (cI, 6, .inl xi_z)), (q5, .inl (cI, 6, .inl xi_z)), (q6, .inl (cI, 6, .inl xi_z)), (q7, .inl (cI, 6, .inl xi_z)), (q8, .inl (cI, 6, .inl xi_z))])) s.heap H locs := hG
  refine lv_aload_n hx hb dX8_init_68 rfl (lv_at hl 0 rfl) ?_
  refine lv_bipush (v := 6) hx hb dX8_init_69 (by decide) ?_
  refine xi_newi (n := 6) (N := 6) S hK hG k3 (by decide) rfl (Nat.le_of_ble_eq_true rfl) (Nat.le_of_ble_eq_true rfl) (Nat.le_of_ble_eq_true rfl) dX8_init_71 (fun q9 H hG => ?_)
  refine W.widen (k := 9) (n := 54) (Nat.le_of_ble_eq_true rfl) (Nat.le_of_ble_eq_true rfl) ?_
  have hG : xg_H D bs (pre ++ (a, .inr (8, [.int 0, .ref q1, .ref q2, .ref q3, .ref q4, .ref q5, .ref q6, .ref q7, .int 0, .int 0, .int 0, .int 0, .int 0, .int 0, .int 0, .ref q8, .null, .null, .int 0, .null, .int 0, .null, .null, .null, .null, .int 0, .int 0, .int 0, .int 0, .int 0, .int 0, .null, .null, .null, .int 0, .int 0, .int 0, .int 0, .long 0, .null, .null, .null, .null, .null, .int 0, .int 0])) :: ([(q1, .inl (cI, 6, .inl xi_z)), (q2, .inl (cI, 6, .inl xi_z)), (q3, .inl (cI, 6, .inl xi_z)), (q4, .inl (cI, 6, .inl xi_z)), (q5, .inl (cI, 6, .inl xi_z)), (q6, .inl (cI, 6, .inl xi_z)), (q7, .inl (cI, 6, .inl xi_z)), (q8, .inl (cI, 6, .inl xi_z)), (q9, .inl (cI, 6, .inl xi_z))])) s.heap H locs := hG
  refine xi_putF (ty := .array .int) (v := .ref q9) (C := RX8) (T := TX8) (N := 46) S hK hG (fun w h => List.mem_cons_of_mem _ (List.mem_append_right _ (h))) tyX8 tyX8_ok nmX8 rfl 16 (by decide) k12 (fun _ h9 => h9) rfl hnm rfl (by decide +kernel) rfl rfl (Nat.le_of_ble_eq_true rfl) dX8_init_73 (fun H locs hG => ?_)
  have hG : xg_H D bs (pre ++ (a, .inr (8, [.int 0, .ref q1, .ref q2, .ref q3, .ref q4, .ref q5, .ref q6, .ref q7, .int 0, .int 0, .int 0, .int 0, .int 0, .int 0, .int 0, .ref q8, .ref q9, .null, .int 0, .null, .int 0, .null, .null, .null, .null, .int 0, .int 0, .int 0, .int 0, .int 0, .int 0, .null, .null, .null, .int 0, .int 0, .int 0, .int 0, .long 0, .null, .null, .null, .null, .null, .int 0, .int 0])) :: ([(q1, .inl (cI, 6, .inl xi_z)), (q2, .inl (cI, 6, .inl xi_z)), (q3, .inl (cI, 6, .inl xi_z)), (q4, .inl (cI, 6, .inl xi_z)), (q5, .inl (cI, 6, .inl xi_z)), (q6, .inl (cI, 6, .inl xi_z)), (q7, .inl (cI, 6, .inl xi_z)), (q8, .inl (cI, 6, .inl xi_z)), (q9, .inl (cI, 6, .inl xi_z))])) s.heap H locs := hG
  refine lv_aload_n hx hb dX8_init_76 rfl (lv_at hl 0 rfl) ?_
  refine lv_bipush (v := 6) hx hb dX8_init_77 (by decide) ?_
  refine xi_newi (n := 6) (N := 6) S hK hG k3 (by decide) rfl (Nat.le_of_ble_eq_true rfl) (Nat.le_of_ble_eq_true rfl) (Nat.le_of_ble_eq_true rfl) dX8_init_79 (fun q10 H hG => ?_)
  refine W.widen (k := 10) (n := 60) (Nat.le_of_ble_eq_true rfl) (Nat.le_of_ble_eq_true rfl) ?_
  have hG : xg_H D bs (pre ++ (a, .inr (8, [.int 0, .ref q1, .ref q2, .ref q3, .ref q4, .ref q5, .ref q6, .ref q7, .int 0, .int 0, .int 0, .int 0, .int 0, .int 0, .int 0, .ref q8, .ref q9, .null, .int 0, .null, .int 0, .null, .null, .null, .null, .int 0, .int 0, .int 0, .int 0, .int 0, .int 0, .null, .null, .null, .int 0, .int 0, .int 0, .int 0, .long 0, .null, .null, .null, .null, .null, .int 0, .int 0])) :: ([(q1, .inl (cI, 6, .inl xi_z)), (q2, .inl (cI, 6, .inl xi_z)), (q3, .inl (cI, 6, .inl xi_z)), (q4, .inl (cI, 6, .inl xi_z)), (q5, .inl (cI, 6, .inl xi_z)), (q6, .inl (cI, 6, .inl xi_z)), (q7, .inl (cI, 6, .inl xi_z)), (q8, .inl (cI, 6, .inl xi_z)), (q9, .inl (cI, 6, .inl xi_z)), (q10, .inl (cI, 6, .inl xi_z))])) s.heap H locs := hG
  refine xi_putF (ty := .array .int) (v := .ref q10) (C := RX8) (T := TX8) (N := 46) S hK hG (fun w h => List.mem_cons_of_mem _ (List.mem_append_right _ (h))) tyX8 tyX8_ok nmX8 rfl 17 (by decide) k13 (fun _ h9 => h9) rfl hnm rfl (by decide +kernel) rfl rfl (Nat.le_of_ble_eq_true rfl) dX8_init_81 (fun H locs hG => ?_)
  have hG : xg_H D bs (pre ++ (a, .inr (8, [.int 0, .ref q1, .ref q2, .ref q3, .ref q4, .ref q5, .ref q6, .ref q7, .int 0, .int 0, .int 0, .int 0, .int 0, .int 0, .int 0, .ref q8, .ref q9, .ref q10, .int 0, .null, .int 0, .null, .null, .null, .null, .int 0, .int 0, .int 0, .int 0, .int 0, .int 0, .null, .null, .null, .int 0, .int 0, .int 0, .int 0, .long 0, .null, .null, .null, .null, .null, .int 0, .int 0])) :: ([(q1, .inl (cI, 6, .inl xi_z)), (q2, .inl (cI, 6, .inl xi_z)), (q3, .inl (cI, 6, .inl xi_z)), (q4, .inl (cI, 6, .inl xi_z)), (q5, .inl (cI, 6, .inl xi_z)), (q6, .inl (cI, 6, .inl xi_z)), (q7, .inl (cI, 6, .inl xi_z)), (q8, .inl (cI, 6, .inl xi_z)), (q9, .inl (cI, 6, .inl xi_z)), (q10, .inl (cI, 6, .inl xi_z))])) s.heap H locs := hG
  refine lv_aload_n hx hb dX8_init_84 rfl (lv_at hl 0 rfl) ?_
  refine lv_bipush (v := 60) hx hb dX8_init_85 (by decide) ?_
  refine xi_newi (n := 60) (N := 60) S hK hG k3 (by decide) rfl (Nat.le_of_ble_eq_true rfl) (Nat.le_of_ble_eq_true rfl) (Nat.le_of_ble_eq_true rfl) dX8_init_87 (fun q11 H hG => ?_)
  refine W.widen (k := 11) (n := 120) (Nat.le_of_ble_eq_true rfl) (Nat.le_of_ble_eq_true rfl) ?_
  have hG : xg_H D bs (pre ++ (a, .inr (8, [.int 0, .ref q1, .ref q2, .ref q3, .ref q4, .ref q5, .ref q6, .ref q7, .int 0, .int 0, .int 0, .int 0, .int 0, .int 0, .int 0, .ref q8, .ref q9, .ref q10, .int 0, .null, .int 0, .null, .null, .null, .null, .int 0, .int 0, .int 0, .int 0, .int 0, .int 0, .null, .null, .null, .int 0, .int 0, .int 0, .int 0, .long 0, .null, .null, .null, .null, .null, .int 0, .int 0])) :: ([(q1, .inl (cI, 6, .inl xi_z)), (q2, .inl (cI, 6, .inl xi_z)), (q3, .inl (cI, 6, .inl xi_z)), (q4, .inl (cI, 6, .inl xi_z)), (q5, .inl (cI, 6, .inl xi_z)), (q6, .inl (cI, 6, .inl xi_z)), (q7, .inl (cI, 6, .inl xi_z)), (q8, .inl (cI, 6, .inl xi_z)), (q9, .inl (cI, 6, .inl xi_z)), (q10, .inl (cI, 6, .inl xi_z)), (q11, .inl (cI, 60, .inl xi_z))])) s.heap H locs := hG
  refine xi_putF (ty := .array .int) (v := .ref q11) (C := RX8) (T := TX8) (N := 46) S hK hG (fun w h => List.mem_cons_of_mem _ (List.mem_append_right _ (h))) tyX8 tyX8_ok nmX8 rfl 19 (by decide) k14 (fun _ h9 => h9) rfl hnm rfl (by decide +kernel) rfl rfl (Nat.le_of_ble_eq_true rfl) dX8_init_89 (fun H locs hG => ?_)
  have hG : xg_H D bs (pre ++ (a, .inr (8, [.int 0, .ref q1, .ref q2, .ref q3, .ref q4, .ref q5, .ref q6, .ref q7, .int 0, .int 0, .int 0, .int 0, .int 0, .int 0, .int 0, .ref q8, .ref q9, .ref q10, .int 0, .ref q11, .int 0, .null, .null, .null, .null, .int 0, .int 0, .int 0, .int 0, .int 0, .int 0, .null, .null, .null, .int 0, .int 0, .int 0, .int 0, .long 0, .null, .null, .null, .null, .null, .int 0, .int 0])) :: ([(q1, .inl (cI, 6, .inl xi_z)), (q2, .inl (cI, 6, .inl xi_z)), (q3, .inl (cI, 6, .inl xi_z)), (q4, .inl (cI, 6, .inl xi_z)), (q5, .inl (cI, 6, .inl xi_z)), (q6, .inl (cI, 6, .inl xi_z)), (q7, .inl (cI, 6, .inl xi_z)), (q8, .inl (cI, 6, .inl xi_z)), (q9, .inl (cI, 6, .inl xi_z)), (q10, .inl (cI, 6, .inl xi_z)), (q11, .inl (cI, 60, .inl xi_z))])) s.heap H locs := hG
  refine lv_aload_n hx hb dX8_init_92 rfl (lv_at hl 0 rfl) ?_
  refine lv_bipush (v := 60) hx hb dX8_init_93 (by decide) ?_
  refine xi_newi (n := 60) (N := 60) S hK hG k3 (by decide) rfl (Nat.le_of_ble_eq_true rfl) (Nat.le_of_ble_eq_true rfl) (Nat.le_of_ble_eq_true rfl) dX8_init_95 (fun q12 H hG => ?_)
  refine W.widen (k := 12) (n := 180) (Nat.le_of_ble_eq_true rfl) (Nat.le_of_ble_eq_true rfl) ?_
  have hG : xg_H D bs (pre ++ (a, .inr (8, [.int 0, .ref q1, .ref q2, .ref q3, .ref q4, .ref q5, .ref q6, .ref q7, .int 0, .int 0, .int 0, .int 0, .int 0, .int 0, .int 0, .ref q8, .ref q9, .ref q10, .int 0, .ref q11, .int 0, .null, .null, .null, .null, .int 0, .int 0, .int 0, .int 0, .int 0, .int 0, .null, .null, .null, .int 0, .int 0, .int 0, .int 0, .long 0, .null, .null, .null, .null, .null, .int 0, .int 0])) :: ([(q1, .inl (cI, 6, .inl xi_z)), (q2, .inl (cI, 6, .inl xi_z)), (q3, .inl (cI, 6, .inl xi_z)), (q4, .inl (cI, 6, .inl xi_z)), (q5, .inl (cI, 6, .inl xi_z)), (q6, .inl (cI, 6, .inl xi_z)), (q7, .inl (cI, 6, .inl xi_z)), (q8, .inl (cI, 6, .inl xi_z)), (q9, .inl (cI, 6, .inl xi_z)), (q10, .inl (cI, 6, .inl xi_z)), (q11, .inl (cI, 60, .inl xi_z)), (q12, .inl (cI, 60, .inl xi_z))])) s.heap H locs := hG
  refine xi_putF (ty := .array .int) (v := .ref q12) (C := RX8) (T := TX8) (N := 46) S hK hG (fun w h => List.mem_cons_of_mem _ (List.mem_append_right _ (h))) tyX8 tyX8_ok nmX8 rfl 21 (by decide) k15 (fun _ h9 => h9) rfl hnm rfl (by decide +kernel) rfl rfl (Nat.le_of_ble_eq_true rfl) dX8_init_97 (fun H locs hG => ?_)
  have hG : xg_H D bs (pre ++ (a, .inr (8, [.int 0, .ref q1, .ref q2, .ref q3, .ref q4, .ref q5, .ref q6, .ref q7, .int 0, .int 0, .int 0, .int 0, .int 0, .int 0, .int 0, .ref q8, .ref q9, .ref q10, .int 0, .ref q11, .int 0, .ref q12, .null, .null, .null, .int 0, .int 0, .int 0, .int 0, .int 0, .int 0, .null, .null, .null, .int 0, .int 0, .int 0, .int 0, .long 0, .null, .null, .null, .null, .null, .int 0, .int 0])) :: ([(q1, .inl (cI, 6, .inl xi_z)), (q2, .inl (cI, 6, .inl xi_z)), (q3, .inl (cI, 6, .inl xi_z)), (q4, .inl (cI, 6, .inl xi_z)), (q5, .inl (cI, 6, .inl xi_z)), (q6, .inl (cI, 6, .inl xi_z)), (q7, .inl (cI, 6, .inl xi_z)), (q8, .inl (cI, 6, .inl xi_z)), (q9, .inl (cI, 6, .inl xi_z)), (q10, .inl (cI, 6, .inl xi_z)), (q11, .inl (cI, 60, .inl xi_z)), (q12, .inl (cI, 60, .inl xi_z))])) s.heap H locs := hG
  refine lv_aload_n hx hb dX8_init_100 rfl (lv_at hl 0 rfl) ?_
  refine lv_bipush (v := 60) hx hb dX8_init_101 (by decide) ?_
  refine xi_newi (n := 60) (N := 60) S hK hG k3 (by decide) rfl (Nat.le_of_ble_eq_true rfl) (Nat.le_of_ble_eq_true rfl) (Nat.le_of_ble_eq_true rfl) dX8_init_103 (fun q13 H hG => ?_)
  refine W.widen (k := 13) (n := 240) (Nat.le_of_ble_eq_true rfl) (Nat.le_of_ble_eq_true rfl) ?_
  have hG : xg_H D bs (pre ++ (a, .inr (8, [.int 0, .ref q1, .ref q2, .ref q3, .ref q4, .ref q5, .ref q6, .ref q7, .int 0, .int 0, .int 0, .int 0, .int 0, .int 0, .int 0, .ref q8, .ref q9, .ref q10, .int 0, .ref q11, .int 0, .ref q12, .null, .null, .null, .int 0, .int 0, .int 0, .int 0, .int 0, .int 0, .null, .null, .null, .int 0, .int 0, .int 0, .int 0, .long 0, .null, .null, .null, .null, .null, .int 0, .int 0])) :: ([(q1, .inl (cI, 6, .inl xi_z)), (q2, .inl (cI, 6, .inl xi_z)), (q3, .inl (cI, 6, .inl xi_z)), (q4, .inl (cI, 6, .inl xi_z)), (q5, .inl (cI, 6, .inl xi_z)), (q6, .inl (cI, 6, .inl xi_z)), (q7, .inl (cI, 6, .inl xi_z)), (q8, .inl (cI, 6, .inl xi_z)), (q9, .inl (cI, 6, .inl xi_z)), (q10, .inl (cI, 6, .inl xi_z)), (q11, .inl (cI, 60, .inl xi_z)), (q12, .inl (cI, 60, .inl xi_z)), (q13, .inl (cI, 60, .inl xi_z))])) s.heap H locs := hG
  refine xi_putF (ty := .array .int) (v := .ref q13) (C := RX8) (T := TX8) (N := 46) S hK hG (fun w h => List.mem_cons_of_mem _ (List.mem_append_right _ (h))) tyX8 tyX8_ok nmX8 rfl 22 (by decide) k16 (fun _ h9 => h9) rfl hnm rfl (by decide +kernel) rfl rfl (Nat.le_of_ble_eq_true rfl) dX8_init_105 (fun H locs hG => ?_)
  have hG : xg_H D bs (pre ++ (a, .inr (8, [.int 0, .ref q1, .ref q2, .ref q3, .ref q4, .ref q5, .ref q6, .ref q7, .int 0, .int 0, .int 0, .int 0, .int 0, .int 0, .int 0, .ref q8, .ref q9, .ref q10, .int 0, .ref q11, .int 0, .ref q12, .ref q13, .null, .null, .int 0, .int 0, .int 0, .int 0, .int 0, .int 0, .null, .null, .null, .int 0, .int 0, .int 0, .int 0, .long 0, .null, .null, .null, .null, .null, .int 0, .int 0])) :: ([(q1, .inl (cI, 6, .inl xi_z)), (q2, .inl (cI, 6, .inl xi_z)), (q3, .inl (cI, 6, .inl xi_z)), (q4, .inl (cI, 6, .inl xi_z)), (q5, .inl (cI, 6, .inl xi_z)), (q6, .inl (cI, 6, .inl xi_z)), (q7, .inl (cI, 6, .inl xi_z)), (q8, .inl (cI, 6, .inl xi_z)), (q9, .inl (cI, 6, .inl xi_z)), (q10, .inl (cI, 6, .inl xi_z)), (q11, .inl (cI, 60, .inl xi_z)), (q12, .inl (cI, 60, .inl xi_z)), (q13, .inl (cI, 60, .inl xi_z))])) s.heap H locs := hG
  refine lv_aload_n hx hb dX8_init_108 rfl (lv_at hl 0 rfl) ?_
  refine lv_bipush (v := 60) hx hb dX8_init_109 (by decide) ?_
  refine xi_newi (n := 60) (N := 60) S hK hG k3 (by decide) rfl (Nat.le_of_ble_eq_true rfl) (Nat.le_of_ble_eq_true rfl) (Nat.le_of_ble_eq_true rfl) dX8_init_111 (fun q14 H hG => ?_)
  refine W.widen (k := 14) (n := 300) (Nat.le_of_ble_eq_true rfl) (Nat.le_of_ble_eq_true rfl) ?_
  have hG : xg_H D bs (pre ++ (a, .inr (8, [.int 0, .ref q1, .ref q2, .ref q3, .ref q4, .ref q5, .ref q6, .ref q7, .int 0, .int 0, .int 0, .int 0, .int 0, .int 0, .int 0, .ref q8, .ref q9, .ref q10, .int 0, .ref q11, .int 0, .ref q12, .ref q13, .null, .null, .int 0, .int 0, .int 0, .int 0, .int 0, .int 0, .null, .null, .null, .int 0, .int 0, .int 0, .int 0, .long 0, .null, .null, .null, .null, .null, .int 0, .int 0])) :: ([(q1, .inl (cI, 6, .inl xi_z)), (q2, .inl (cI, 6, .inl xi_z)), (q3, .inl (cI, 6, .inl xi_z)), (q4, .inl (cI, 6, .inl xi_z)), (q5, .inl (cI, 6, .inl xi_z)), (q6, .inl (cI, 6, .inl xi_z)), (q7, .inl (cI, 6, .inl xi_z)), (q8, .inl (cI, 6, .inl xi_z)), (q9, .inl (cI, 6, .inl xi_z)), (q10, .inl (cI, 6, .inl xi_z)), (q11, .inl (cI, 60, .inl xi_z)), (q12, .inl (cI, 60, .inl xi_z)), (q13, .inl (cI, 60, .inl xi_z)), (q14, .inl (cI, 60, .inl xi_z))])) s.heap H locs := hG
  refine xi_putF (ty := .array .int) (v := .ref q14) (C := RX8) (T := TX8) (N := 46) S hK hG (fun w h => List.mem_cons_of_mem _ (List.mem_append_right _ (h))) tyX8 tyX8_ok nmX8 rfl 23 (by decide) k17 (fun _ h9 => h9) rfl hnm rfl (by decide +kernel) rfl rfl (Nat.le_of_ble_eq_true rfl) dX8_init_113 (fun H locs hG => ?_)
  have hG : xg_H D bs (pre ++ (a, .inr (8, [.int 0, .ref q1, .ref q2, .ref q3, .ref q4, .ref q5, .ref q6, .ref q7, .int 0, .int 0, .int 0, .int 0, .int 0, .int 0, .int 0, .ref q8, .ref q9, .ref q10, .int 0, .ref q11, .int 0, .ref q12, .ref q13, .ref q14, .null, .int 0, .int 0, .int 0, .int 0, .int 0, .int 0, .null, .null, .null, .int 0, .int 0, .int 0, .int 0, .long 0, .null, .null, .null, .null, .null, .int 0, .int 0])) :: ([(q1, .inl (cI, 6, .inl xi_z)), (q2, .inl (cI, 6, .inl xi_z)), (q3, .inl (cI, 6, .inl xi_z)), (q4, .inl (cI, 6, .inl xi_z)), (q5, .inl (cI, 6, .inl xi_z)), (q6, .inl (cI, 6, .inl xi_z)), (q7, .inl (cI, 6, .inl xi_z)), (q8, .inl (cI, 6, .inl xi_z)), (q9, .inl (cI, 6, .inl xi_z)), (q10, .inl (cI, 6, .inl xi_z)), (q11, .inl (cI, 60, .inl xi_z)), (q12, .inl (cI, 60, .inl xi_z)), (q13, .inl (cI, 60, .inl xi_z)), (q14, .inl (cI, 60, .inl xi_z))])) s.heap H locs := hG
  refine lv_aload_n hx hb dX8_init_116 rfl (lv_at hl 0 rfl) ?_
  refine lv_bipush (v := 60) hx hb dX8_init_117 (by decide) ?_
  refine xi_newi (n := 60) (N := 60) S hK hG k3 (by decide) rfl (Nat.le_of_ble_eq_true rfl) (Nat.le_of_ble_eq_true rfl) (Nat.le_of_ble_eq_true rfl) dX8_init_119 (fun q15 H hG => ?_)
  refine W.widen (k := 15) (n := 360) (Nat.le_of_ble_eq_true rfl) (Nat.le_of_ble_eq_true rfl) ?_
  have hG : xg_H D bs (pre ++ (a, .inr (8, [.int 0, .ref q1, .ref q2, .ref q3, .ref q4, .ref q5, .ref q6, .ref q7, .int 0, .int 0, .int 0, .int 0, .int 0, .int 0, .int 0, .ref q8, .ref q9, .ref q10, .int 0, .ref q11, .int 0, .ref q12, .ref q13, .ref q14, .null, .int 0, .int 0, .int 0, .int 0, .int 0, .int 0, .null, .null, .null, .int 0, .int 0, .int 0, .int 0, .long 0, .null, .null, .null, .null, .null, .int 0, .int 0])) :: ([(q1, .inl (cI, 6, .inl xi_z)), (q2, .inl (cI, 6, .inl xi_z)), (q3, .inl (cI, 6, .inl xi_z)), (q4, .inl (cI, 6, .inl xi_z)), (q5, .inl (cI, 6, .inl xi_z)), (q6, .inl (cI, 6, .inl xi_z)), (q7, .inl (cI, 6, .inl xi_z)), (q8, .inl (cI, 6, .inl xi_z)), (q9, .inl (cI, 6, .inl xi_z)), (q10, .inl (cI, 6, .inl xi_z)), (q11, .inl (cI, 60, .inl xi_z)), (q12, .inl (cI, 60, .inl xi_z)), (q13, .inl (cI, 60, .inl xi_z)), (q14, .inl (cI, 60, .inl xi_z)), (q15, .inl (cI, 60, .inl xi_z))])) s.heap H locs := hG
  refine xi_putF (ty := .array .int) (v := .ref q15) (C := RX8) (T := TX8) (N := 46) S hK hG (fun w h => List.mem_cons_of_mem _ (List.mem_append_right _ (h))) tyX8 tyX8_ok nmX8 rfl 24 (by decide) k18 (fun _ h9 => h9) rfl hnm rfl (by decide +kernel) rfl rfl (Nat.le_of_ble_eq_true rfl) dX8_init_121 (fun H locs hG => ?_)
  have hG : xg_H D bs (pre ++ (a, .inr (8, [.int 0, .ref q1, .ref q2, .ref q3, .ref q4, .ref q5, .ref q6, .ref q7, .int 0, .int 0, .int 0, .int 0, .int 0, .int 0, .int 0, .ref q8, .ref q9, .ref q10, .int 0, .ref q11, .int 0, .ref q12, .ref q13, .ref q14, .ref q15, .int 0, .int 0, .int 0, .int 0, .int 0, .int 0, .null, .null, .null, .int 0, .int 0, .int 0, .int 0, .long 0, .null, .null, .null, .null, .null, .int 0, .int 0])) :: ([(q1, .inl (cI, 6, .inl xi_z)), (q2, .inl (cI, 6, .inl xi_z)), (q3, .inl (cI, 6, .inl xi_z)), (q4, .inl (cI, 6, .inl xi_z)), (q5, .inl (cI, 6, .inl xi_z)), (q6, .inl (cI, 6, .inl xi_z)), (q7, .inl (cI, 6, .inl xi_z)), (q8, .inl (cI, 6, .inl xi_z)), (q9, .inl (cI, 6, .inl xi_z)), (q10, .inl (cI, 6, .inl xi_z)), (q11, .inl (cI, 60, .inl xi_z)), (q12, .inl (cI, 60, .inl xi_z)), (q13, .inl (cI, 60, .inl xi_z)), (q14, .inl (cI, 60, .inl xi_z)), (q15, .inl (cI, 60, .inl xi_z))])) s.heap H locs := hG
  refine lv_aload_n hx hb dX8_init_124 rfl (lv_at hl 0 rfl) ?_
  refine lv_bipush (v := 6) hx hb dX8_init_125 (by decide) ?_
  refine xi_newi (n := 6) (N := 6) S hK hG k3 (by decide) rfl (Nat.le_of_ble_eq_true rfl) (Nat.le_of_ble_eq_true rfl) (Nat.le_of_ble_eq_true rfl) dX8_init_127 (fun q16 H hG => ?_)
  refine W.widen (k := 16) (n := 366) (Nat.le_of_ble_eq_true rfl) (Nat.le_of_ble_eq_true rfl) ?_
  have hG : xg_H D bs (pre ++ (a, .inr (8, [.int 0, .ref q1, .ref q2, .ref q3, .ref q4, .ref q5, .ref q6, .ref q7, .int 0, .int 0, .int 0, .int 0, .int 0, .int 0, .int 0, .ref q8, .ref q9, .ref q10, .int 0, .ref q11, .int 0, .ref q12, .ref q13, .ref q14, .ref q15, .int 0, .int 0, .int 0, .int 0, .int 0, .int 0, .null, .null, .null, .int 0, .int 0, .int 0, .int 0, .long 0, .null, .null, .null, .null, .null, .int 0, .int 0])) :: ([(q1, .inl (cI, 6, .inl xi_z)), (q2, .inl (cI, 6, .inl xi_z)), (q3, .inl (cI, 6, .inl xi_z)), (q4, .inl (cI, 6, .inl xi_z)), (q5, .inl (cI, 6, .inl xi_z)), (q6, .inl (cI, 6, .inl xi_z)), (q7, .inl (cI, 6, .inl xi_z)), (q8, .inl (cI, 6, .inl xi_z)), (q9, .inl (cI, 6, .inl xi_z)), (q10, .inl (cI, 6, .inl xi_z)), (q11, .inl (cI, 60, .inl xi_z)), (q12, .inl (cI, 60, .inl xi_z)), (q13, .inl (cI, 60, .inl xi_z)), (q14, .inl (cI, 60, .inl xi_z)), (q15, .inl (cI, 60, .inl xi_z)), (q16, .inl (cI, 6, .inl xi_z))])) s.heap H locs := hG
  refine xi_putF (ty := .array .int) (v := .ref q16) (C := RX8) (T := TX8) (N := 46) S hK hG (fun w h => List.mem_cons_of_mem _ (List.mem_append_right _ (h))) tyX8 tyX8_ok nmX8 rfl 31 (by decide) k19 (fun _ h9 => h9) rfl hnm rfl (by decide +kernel) rfl rfl (Nat.le_of_ble_eq_true rfl) dX8_init_129 (fun H locs hG => ?_)
  have hG : xg_H D bs (pre ++ (a, .inr (8, [.int 0, .ref q1, .ref q2, .ref q3, .ref q4, .ref q5, .ref q6, .ref q7, .int 0, .int 0, .int 0, .int 0, .int 0, .int 0, .int 0, .ref q8, .ref q9, .ref q10, .int 0, .ref q11, .int 0, .ref q12, .ref q13, .ref q14, .ref q15, .int 0, .int 0, .int 0, .int 0, .int 0, .int 0, .ref q16, .null, .null, .int 0, .int 0, .int 0, .int 0, .long 0, .null, .null, .null, .null, .null, .int 0, .int 0])) :: ([(q1, .inl (cI, 6, .inl xi_z)), (q2, .inl (cI, 6, .inl xi_z)), (q3, .inl (cI, 6, .inl xi_z)), (q4, .inl (cI, 6, .inl xi_z)), (q5, .inl (cI, 6, .inl xi_z)), (q6, .inl (cI, 6, .inl xi_z)), (q7, .inl (cI, 6, .inl xi_z)), (q8, .inl (cI, 6, .inl xi_z)), (q9, .inl (cI, 6, .inl xi_z)), (q10, .inl (cI, 6, .inl xi_z)), (q11, .inl (cI, 60, .inl xi_z)), (q12, .inl (cI, 60, .inl xi_z)), (q13, .inl (cI, 60, .inl xi_z)), (q14, .inl (cI, 60, .inl xi_z)), (q15, .inl (cI, 60, .inl xi_z)), (q16, .inl (cI, 6, .inl xi_z))])) s.heap H locs := hG
  refine lv_aload_n hx hb dX8_init_132 rfl (lv_at hl 0 rfl) ?_
  refine lv_bipush (v := 6) hx hb dX8_init_133 (by decide) ?_
  refine xi_newi (n := 6) (N := 6) S hK hG k3 (by decide) rfl (Nat.le_of_ble_eq_true rfl) (Nat.le_of_ble_eq_true rfl) (Nat.le_of_ble_eq_true rfl) dX8_init_135 (fun q17 H hG => ?_)
  refine W.widen (k := 17) (n := 372) (Nat.le_of_ble_eq_true rfl) (Nat.le_of_ble_eq_true rfl) ?_
  have hG : xg_H D bs (pre ++ (a, .inr (8, [.int 0, .ref q1, .ref q2, .ref q3, .ref q4, .ref q5, .ref q6, .ref q7, .int 0, .int 0, .int 0, .int 0, .int 0, .int 0, .int 0, .ref q8, .ref q9, .ref q10, .int 0, .ref q11, .int 0, .ref q12, .ref q13, .ref q14, .ref q15, .int 0, .int 0, .int 0, .int 0, .int 0, .int 0, .ref q16, .null, .null, .int 0, .int 0, .int 0, .int 0, .long 0, .null, .null, .null, .null, .null, .int 0, .int 0])) :: ([(q1, .inl (cI, 6, .inl xi_z)), (q2, .inl (cI, 6, .inl xi_z)), (q3, .inl (cI, 6, .inl xi_z)), (q4, .inl (cI, 6, .inl xi_z)), (q5, .inl (cI, 6, .inl xi_z)), (q6, .inl (cI, 6, .inl xi_z)), (q7, .inl (cI, 6, .inl xi_z)), (q8, .inl (cI, 6, .inl xi_z)), (q9, .inl (cI, 6, .inl xi_z)), (q10, .inl (cI, 6, .inl xi_z)), (q11, .inl (cI, 60, .inl xi_z)), (q12, .inl (cI, 60, .inl xi_z)), (q13, .inl (cI, 60, .inl xi_z)), (q14, .inl (cI, 60, .inl xi_z)), (q15, .inl (cI, 60, .inl xi_z)), (q16, .inl (cI, 6, .inl xi_z)), (q17, .inl (cI, 6, .inl xi_z))])) s.heap H locs := hG
  refine xi_putF (ty := .array .int) (v := .ref q17) (C := RX8) (T := TX8) (N := 46) S hK hG (fun w h => List.mem_cons_of_mem _ (List.mem_append_right _ (h))) tyX8 tyX8_ok nmX8 rfl 32 (by decide) k20 (fun _ h9 => h9) rfl hnm rfl (by decide +kernel) rfl rfl (Nat.le_of_ble_eq_true rfl) dX8_init_137 (fun H locs hG => ?_)
  have hG : xg_H D bs (pre ++ (a, .inr (8, [.int 0, .ref q1, .ref q2, .ref q3, .ref q4, .ref q5, .ref q6, .ref q7, .int 0, .int 0, .int 0, .int 0, .int 0, .int 0, .int 0, .ref q8, .ref q9, .ref q10, .int 0, .ref q11, .int 0, .ref q12, .ref q13, .ref q14, .ref q15, .int 0, .int 0, .int 0, .int 0, .int 0, .int 0, .ref q16, .ref q17, .null, .int 0, .int 0, .int 0, .int 0, .long 0, .null, .null, .null, .null, .null, .int 0, .int 0])) :: ([(q1, .inl (cI, 6, .inl xi_z)), (q2, .inl (cI, 6, .inl xi_z)), (q3, .inl (cI, 6, .inl xi_z)), (q4, .inl (cI, 6, .inl xi_z)), (q5, .inl (cI, 6, .inl xi_z)), (q6, .inl (cI, 6, .inl xi_z)), (q7, .inl (cI, 6, .inl xi_z)), (q8, .inl (cI, 6, .inl xi_z)), (q9, .inl (cI, 6, .inl xi_z)), (q10, .inl (cI, 6, .inl xi_z)), (q11, .inl (cI, 60, .inl xi_z)), (q12, .inl (cI, 60, .inl xi_z)), (q13, .inl (cI, 60, .inl xi_z)), (q14, .inl (cI, 60, .inl xi_z)), (q15, .inl (cI, 60, .inl xi_z)), (q16, .inl (cI, 6, .inl xi_z)), (q17, .inl (cI, 6, .inl xi_z))])) s.heap H locs := hG
  refine lv_aload_n hx hb dX8_init_140 rfl (lv_at hl 0 rfl) ?_
  refine lv_bipush (v := 6) hx hb dX8_init_141 (by decide) ?_
  refine xi_newi (n := 6) (N := 6) S hK hG k3 (by decide) rfl (Nat.le_of_ble_eq_true rfl) (Nat.le_of_ble_eq_true rfl) (Nat.le_of_ble_eq_true rfl) dX8_init_143 (fun q18 H hG => ?_)
  refine W.widen (k := 18) (n := 378) (Nat.le_of_ble_eq_true rfl) (Nat.le_of_ble_eq_true rfl) ?_
  have hG : xg_H D bs (pre ++ (a, .inr (8, [.int 0, .ref q1, .ref q2, .ref q3, .ref q4, .ref q5, .ref q6, .ref q7, .int 0, .int 0, .int 0, .int 0, .int 0, .int 0, .int 0, .ref q8, .ref q9, .ref q10, .int 0, .ref q11, .int 0, .ref q12, .ref q13, .ref q14, .ref q15, .int 0, .int 0, .int 0, .int 0, .int 0, .int 0, .ref q16, .ref q17, .null, .int 0, .int 0, .int 0, .int 0, .long 0, .null, .null, .null, .null, .null, .int 0, .int 0])) :: ([(q1, .inl (cI, 6, .inl xi_z)), (q2, .inl (cI, 6, .inl xi_z)), (q3, .inl (cI, 6, .inl xi_z)), (q4, .inl (cI, 6, .inl xi_z)), (q5, .inl (cI, 6, .inl xi_z)), (q6, .inl (cI, 6, .inl xi_z)), (q7, .inl (cI, 6, .inl xi_z)), (q8, .inl (cI, 6, .inl xi_z)), (q9, .inl (cI, 6, .inl xi_z)), (q10, .inl (cI, 6, .inl xi_z)), (q11, .inl (cI, 60, .inl xi_z)), (q12, .inl (cI, 60, .inl xi_z)), (q13, .inl (cI, 60, .inl xi_z)), (q14, .inl (cI, 60, .inl xi_z)), (q15, .inl (cI, 60, .inl xi_z)), (q16, .inl (cI, 6, .inl xi_z)), (q17, .inl (cI, 6, .inl xi_z)), (q18, .inl (cI, 6, .inl xi_z))])) s.heap H locs := hG
  refine xi_putF (ty := .array .int) (v := .ref q18) (C := RX8) (T := TX8) (N := 46) S hK hG (fun w h => List.mem_cons_of_mem _ (List.mem_append_right _ (h))) tyX8 tyX8_ok nmX8 rfl 33 (by decide) k21 (fun _ h9 => h9) rfl hnm rfl (by decide +kernel) rfl rfl (Nat.le_of_ble_eq_true rfl) dX8_init_145 (fun H locs hG => ?_)
  have hG : xg_H D bs (pre ++ (a, .inr (8, [.int 0, .ref q1, .ref q2, .ref q3, .ref q4, .ref q5, .ref q6, .ref q7, .int 0, .int 0, .int 0, .int 0, .int 0, .int 0, .int 0, .ref q8, .ref q9, .ref q10, .int 0, .ref q11, .int 0, .ref q12, .ref q13, .ref q14, .ref q15, .int 0, .int 0, .int 0, .int 0, .int 0, .int 0, .ref q16, .ref q17, .ref q18, .int 0, .int 0, .int 0, .int 0, .long 0, .null, .null, .null, .null, .null, .int 0, .int 0])) :: ([(q1, .inl (cI, 6, .inl xi_z)), (q2, .inl (cI, 6, .inl xi_z)), (q3, .inl (cI, 6, .inl xi_z)), (q4, .inl (cI, 6, .inl xi_z)), (q5, .inl (cI, 6, .inl xi_z)), (q6, .inl (cI, 6, .inl xi_z)), (q7, .inl (cI, 6, .inl xi_z)), (q8, .inl (cI, 6, .inl xi_z)), (q9, .inl (cI, 6, .inl xi_z)), (q10, .inl (cI, 6, .inl xi_z)), (q11, .inl (cI, 60, .inl xi_z)), (q12, .inl (cI, 60, .inl xi_z)), (q13, .inl (cI, 60, .inl xi_z)), (q14, .inl (cI, 60, .inl xi_z)), (q15, .inl (cI, 60, .inl xi_z)), (q16, .inl (cI, 6, .inl xi_z)), (q17, .inl (cI, 6, .inl xi_z)), (q18, .inl (cI, 6, .inl xi_z))])) s.heap H locs := hG
  refine lv_aload_n hx hb dX8_init_148 rfl (lv_at hl 0 rfl) ?_
  refine lv_bipush (v := 32) hx hb dX8_init_149 (by decide) ?_
  refine xi_newi (n := 32) (N := 32) S hK hG k3 (by decide) rfl (Nat.le_of_ble_eq_true rfl) (Nat.le_of_ble_eq_true rfl) (Nat.le_of_ble_eq_true rfl) dX8_init_151 (fun q19 H hG => ?_)
  refine W.widen (k := 19) (n := 410) (Nat.le_of_ble_eq_true rfl) (Nat.le_of_ble_eq_true rfl) ?_
  have hG : xg_H D bs (pre ++ (a, .inr (8, [.int 0, .ref q1, .ref q2, .ref q3, .ref q4, .ref q5, .ref q6, .ref q7, .int 0, .int 0, .int 0, .int 0, .int 0, .int 0, .int 0, .ref q8, .ref q9, .ref q10, .int 0, .ref q11, .int 0, .ref q12, .ref q13, .ref q14, .ref q15, .int 0, .int 0, .int 0, .int 0, .int 0, .int 0, .ref q16, .ref q17, .ref q18, .int 0, .int 0, .int 0, .int 0, .long 0, .null, .null, .null, .null, .null, .int 0, .int 0])) :: ([(q1, .inl (cI, 6, .inl xi_z)), (q2, .inl (cI, 6, .inl xi_z)), (q3, .inl (cI, 6, .inl xi_z)), (q4, .inl (cI, 6, .inl xi_z)), (q5, .inl (cI, 6, .inl xi_z)), (q6, .inl (cI, 6, .inl xi_z)), (q7, .inl (cI, 6, .inl xi_z)), (q8, .inl (cI, 6, .inl xi_z)), (q9, .inl (cI, 6, .inl xi_z)), (q10, .inl (cI, 6, .inl xi_z)), (q11, .inl (cI, 60, .inl xi_z)), (q12, .inl (cI, 60, .inl xi_z)), (q13, .inl (cI, 60, .inl xi_z)), (q14, .inl (cI, 60, .inl xi_z)), (q15, .inl (cI, 60, .inl xi_z)), (q16, .inl (cI, 6, .inl xi_z)), (q17, .inl (cI, 6, .inl xi_z)), (q18, .inl (cI, 6, .inl xi_z)), (q19, .inl (cI, 32, .inl xi_z))])) s.heap H locs := hG
  refine xi_putF (ty := .array .int) (v := .ref q19) (C := RX8) (T := TX8) (N := 46) S hK hG (fun w h => List.mem_cons_of_mem _ (List.mem_append_right _ (h))) tyX8 tyX8_ok nmX8 rfl 39 (by decide) k22 (fun _ h9 => h9) rfl hnm rfl (by decide +kernel) rfl rfl (Nat.le_of_ble_eq_true rfl) dX8_init_153 (fun H locs hG => ?_)
  have hG : xg_H D bs (pre ++ (a, .inr (8, [.int 0, .ref q1, .ref q2, .ref q3, .ref q4, .ref q5, .ref q6, .ref q7, .int 0, .int 0, .int 0, .int 0, .int 0, .int 0, .int 0, .ref q8, .ref q9, .ref q10, .int 0, .ref q11, .int 0, .ref q12, .ref q13, .ref q14, .ref q15, .int 0, .int 0, .int 0, .int 0, .int 0, .int 0, .ref q16, .ref q17, .ref q18, .int 0, .int 0, .int 0, .int 0, .long 0, .ref q19, .null, .null, .null, .null, .int 0, .int 0])) :: ([(q1, .inl (cI, 6, .inl xi_z)), (q2, .inl (cI, 6, .inl xi_z)), (q3, .inl (cI, 6, .inl xi_z)), (q4, .inl (cI, 6, .inl xi_z)), (q5, .inl (cI, 6, .inl xi_z)), (q6, .inl (cI, 6, .inl xi_z)), (q7, .inl (cI, 6, .inl xi_z)), (q8, .inl (cI, 6, .inl xi_z)), (q9, .inl (cI, 6, .inl xi_z)), (q10, .inl (cI, 6, .inl xi_z)), (q11, .inl (cI, 60, .inl xi_z)), (q12, .inl (cI, 60, .inl xi_z)), (q13, .inl (cI, 60, .inl xi_z)), (q14, .inl (cI, 60, .inl xi_z)), (q15, .inl (cI, 60, .inl xi_z)), (q16, .inl (cI, 6, .inl xi_z)), (q17, .inl (cI, 6, .inl xi_z)), (q18, .inl (cI, 6, .inl xi_z)), (q19, .inl (cI, 32, .inl xi_z))])) s.heap H locs := hG
  refine lv_aload_n hx hb dX8_init_156 rfl (lv_at hl 0 rfl) ?_
  refine lv_bipush (v := 32) hx hb dX8_init_157 (by decide) ?_
  refine xi_newi (n := 32) (N := 32) S hK hG k3 (by decide) rfl (Nat.le_of_ble_eq_true rfl) (Nat.le_of_ble_eq_true rfl) (Nat.le_of_ble_eq_true rfl) dX8_init_159 (fun q20 H hG => ?_)
  refine W.widen (k := 20) (n := 442) (Nat.le_of_ble_eq_true rfl) (Nat.le_of_ble_eq_true rfl) ?_
  have hG : xg_H D bs (pre ++ (a, .inr (8, [.int 0, .ref q1, .ref q2, .ref q3, .ref q4, .ref q5, .ref q6, .ref q7, .int 0, .int 0, .int 0, .int 0, .int 0, .int 0, .int 0, .ref q8, .ref q9, .ref q10, .int 0, .ref q11, .int 0, .ref q12, .ref q13, .ref q14, .ref q15, .int 0, .int 0, .int 0, .int 0, .int 0, .int 0, .ref q16, .ref q17, .ref q18, .int 0, .int 0, .int 0, .int 0, .long 0, .ref q19, .null, .null, .null, .null, .int 0, .int 0])) :: ([(q1, .inl (cI, 6, .inl xi_z)), (q2, .inl (cI, 6, .inl xi_z)), (q3, .inl (cI, 6, .inl xi_z)), (q4, .inl (cI, 6, .inl xi_z)), (q5, .inl (cI, 6, .inl xi_z)), (q6, .inl (cI, 6, .inl xi_z)), (q7, .inl (cI, 6, .inl xi_z)), (q8, .inl (cI, 6, .inl xi_z)), (q9, .inl (cI, 6, .inl xi_z)), (q10, .inl (cI, 6, .inl xi_z)), (q11, .inl (cI, 60, .inl xi_z)), (q12, .inl (cI, 60, .inl xi_z)), (q13, .inl (cI, 60, .inl xi_z)), (q14, .inl (cI, 60, .inl xi_z)), (q15, .inl (cI, 60, .inl xi_z)), (q16, .inl (cI, 6, .inl xi_z)), (q17, .inl (cI, 6, .inl xi_z)), (q18, .inl (cI, 6, .inl xi_z)), (q19, .inl (cI, 32, .inl xi_z)), (q20, .inl (cI, 32, .inl xi_z))])) s.heap H locs := hG
  refine xi_putF (ty := .array .int) (v := .ref q20) (C := RX8) (T := TX8) (N := 46) S hK hG (fun w h => List.mem_cons_of_mem _ (List.mem_append_right _ (h))) tyX8 tyX8_ok nmX8 rfl 40 (by decide) k23 (fun _ h9 => h9) rfl hnm rfl (by decide +kernel) rfl rfl (Nat.le_of_ble_eq_true rfl) dX8_init_161 (fun H locs hG => ?_)
  have hG : xg_H D bs (pre ++ (a, .inr (8, [.int 0, .ref q1, .ref q2, .ref q3, .ref q4, .ref q5, .ref q6, .ref q7, .int 0, .int 0, .int 0, .int 0, .int 0, .int 0, .int 0, .ref q8, .ref q9, .ref q10, .int 0, .ref q11, .int 0, .ref q12, .ref q13, .ref q14, .ref q15, .int 0, .int 0, .int 0, .int 0, .int 0, .int 0, .ref q16, .ref q17, .ref q18, .int 0, .int 0, .int 0, .int 0, .long 0, .ref q19, .ref q20, .null, .null, .null, .int 0, .int 0])) :: ([(q1, .inl (cI, 6, .inl xi_z)), (q2, .inl (cI, 6, .inl xi_z)), (q3, .inl (cI, 6, .inl xi_z)), (q4, .inl (cI, 6, .inl xi_z)), (q5, .inl (cI, 6, .inl xi_z)), (q6, .inl (cI, 6, .inl xi_z)), (q7, .inl (cI, 6, .inl xi_z)), (q8, .inl (cI, 6, .inl xi_z)), (q9, .inl (cI, 6, .inl xi_z)), (q10, .inl (cI, 6, .inl xi_z)), (q11, .inl (cI, 60, .inl xi_z)), (q12, .inl (cI, 60, .inl xi_z)), (q13, .inl (cI, 60, .inl xi_z)), (q14, .inl (cI, 60, .inl xi_z)), (q15, .inl (cI, 60, .inl xi_z)), (q16, .inl (cI, 6, .inl xi_z)), (q17, .inl (cI, 6, .inl xi_z)), (q18, .inl (cI, 6, .inl xi_z)), (q19, .inl (cI, 32, .inl xi_z)), (q20, .inl (cI, 32, .inl xi_z))])) s.heap H locs := hG
  refine lv_aload_n hx hb dX8_init_164 rfl (lv_at hl 0 rfl) ?_
  refine lv_bipush (v := 32) hx hb dX8_init_165 (by decide) ?_
  refine xi_newi (n := 32) (N := 32) S hK hG k3 (by decide) rfl (Nat.le_of_ble_eq_true rfl) (Nat.le_of_ble_eq_true rfl) (Nat.le_of_ble_eq_true rfl) dX8_init_167 (fun q21 H hG => ?_)
  refine W.widen (k := 21) (n := 474) (Nat.le_of_ble_eq_true rfl) (Nat.le_of_ble_eq_true rfl) ?_
  have hG : xg_H D bs (pre ++ (a, .inr (8, [.int 0, .ref q1, .ref q2, .ref q3, .ref q4, .ref q5, .ref q6, .ref q7, .int 0, .int 0, .int 0, .int 0, .int 0, .int 0, .int 0, .ref q8, .ref q9, .ref q10, .int 0, .ref q11, .int 0, .ref q12, .ref q13, .ref q14, .ref q15, .int 0, .int 0, .int 0, .int 0, .int 0, .int 0, .ref q16, .ref q17, .ref q18, .int 0, .int 0, .int 0, .int 0, .long 0, .ref q19, .ref q20, .null, .null, .null, .int 0, .int 0])) :: ([(q1, .inl (cI, 6, .inl xi_z)), (q2, .inl (cI, 6, .inl xi_z)), (q3, .inl (cI, 6, .inl xi_z)), (q4, .inl (cI, 6, .inl xi_z)), (q5, .inl (cI, 6, .inl xi_z)), (q6, .inl (cI, 6, .inl xi_z)), (q7, .inl (cI, 6, .inl xi_z)), (q8, .inl (cI, 6, .inl xi_z)), (q9, .inl (cI, 6, .inl xi_z)), (q10, .inl (cI, 6, .inl xi_z)), (q11, .inl (cI, 60, .inl xi_z)), (q12, .inl (cI, 60, .inl xi_z)), (q13, .inl (cI, 60, .inl xi_z)), (q14, .inl (cI, 60, .inl xi_z)), (q15, .inl (cI, 60, .inl xi_z)), (q16, .inl (cI, 6, .inl xi_z)), (q17, .inl (cI, 6, .inl xi_z)), (q18, .inl (cI, 6, .inl xi_z)), (q19, .inl (cI, 32, .inl xi_z)), (q20, .inl (cI, 32, .inl xi_z)), (q21, .inl (cI, 32, .inl xi_z))])) s.heap H locs := hG
  refine xi_putF (ty := .array .int) (v := .ref q21) (C := RX8) (T := TX8) (N := 46) S hK hG (fun w h => List.mem_cons_of_mem _ (List.mem_append_right _ (h))) tyX8 tyX8_ok nmX8 rfl 41 (by decide) k24 (fun _ h9 => h9) rfl hnm rfl (by decide +kernel) rfl rfl (Nat.le_of_ble_eq_true rfl) dX8_init_169 (fun H locs hG => ?_)
  have hG : xg_H D bs (pre ++ (a, .inr (8, [.int 0, .ref q1, .ref q2, .ref q3, .ref q4, .ref q5, .ref q6, .ref q7, .int 0, .int 0, .int 0, .int 0, .int 0, .int 0, .int 0, .ref q8, .ref q9, .ref q10, .int 0, .ref q11, .int 0, .ref q12, .ref q13, .ref q14, .ref q15, .int 0, .int 0, .int 0, .int 0, .int 0, .int 0, .ref q16, .ref q17, .ref q18, .int 0, .int 0, .int 0, .int 0, .long 0, .ref q19, .ref q20, .ref q21, .null, .null, .int 0, .int 0])) :: ([(q1, .inl (cI, 6, .inl xi_z)), (q2, .inl (cI, 6, .inl xi_z)), (q3, .inl (cI, 6, .inl xi_z)), (q4, .inl (cI, 6, .inl xi_z)), (q5, .inl (cI, 6, .inl xi_z)), (q6, .inl (cI, 6, .inl xi_z)), (q7, .inl (cI, 6, .inl xi_z)), (q8, .inl (cI, 6, .inl xi_z)), (q9, .inl (cI, 6, .inl xi_z)), (q10, .inl (cI, 6, .inl xi_z)), (q11, .inl (cI, 60, .inl xi_z)), (q12, .inl (cI, 60, .inl xi_z)), (q13, .inl (cI, 60, .inl xi_z)), (q14, .inl (cI, 60, .inl xi_z)), (q15, .inl (cI, 60, .inl xi_z)), (q16, .inl (cI, 6, .inl xi_z)), (q17, .inl (cI, 6, .inl xi_z)), (q18, .inl (cI, 6, .inl xi_z)), (q19, .inl (cI, 32, .inl xi_z)), (q20, .inl (cI, 32, .inl xi_z)), (q21, .inl (cI, 32, .inl xi_z))])) s.heap H locs := hG
  refine lv_aload_n hx hb dX8_init_172 rfl (lv_at hl 0 rfl) ?_
  refine lv_sipush (v := 200) hx hb dX8_init_173 (by decide) ?_
  refine xi_newi (n := 200) (N := 200) S hK hG k3 (by decide) rfl (Nat.le_of_ble_eq_true rfl) (Nat.le_of_ble_eq_true rfl) (Nat.le_of_ble_eq_true rfl) dX8_init_176 (fun q22 H hG => ?_)
  refine W.widen (k := 22) (n := 674) (Nat.le_of_ble_eq_true rfl) (Nat.le_of_ble_eq_true rfl) ?_
  have hG : xg_H D bs (pre ++ (a, .inr (8, [.int 0, .ref q1, .ref q2, .ref q3, .ref q4, .ref q5, .ref q6, .ref q7, .int 0, .int 0, .int 0, .int 0, .int 0, .int 0, .int 0, .ref q8, .ref q9, .ref q10, .int 0, .ref q11, .int 0, .ref q12, .ref q13, .ref q14, .ref q15, .int 0, .int 0, .int 0, .int 0, .int 0, .int 0, .ref q16, .ref q17, .ref q18, .int 0, .int 0, .int 0, .int 0, .long 0, .ref q19, .ref q20, .ref q21, .null, .null, .int 0, .int 0])) :: ([(q1, .inl (cI, 6, .inl xi_z)), (q2, .inl (cI, 6, .inl xi_z)), (q3, .inl (cI, 6, .inl xi_z)), (q4, .inl (cI, 6, .inl xi_z)), (q5, .inl (cI, 6, .inl xi_z)), (q6, .inl (cI, 6, .inl xi_z)), (q7, .inl (cI, 6, .inl xi_z)), (q8, .inl (cI, 6, .inl xi_z)), (q9, .inl (cI, 6, .inl xi_z)), (q10, .inl (cI, 6, .inl xi_z)), (q11, .inl (cI, 60, .inl xi_z)), (q12, .inl (cI, 60, .inl xi_z)), (q13, .inl (cI, 60, .inl xi_z)), (q14, .inl (cI, 60, .inl xi_z)), (q15, .inl (cI, 60, .inl xi_z)), (q16, .inl (cI, 6, .inl xi_z)), (q17, .inl (cI, 6, .inl xi_z)), (q18, .inl (cI, 6, .inl xi_z)), (q19, .inl (cI, 32, .inl xi_z)), (q20, .inl (cI, 32, .inl xi_z)), (q21, .inl (cI, 32, .inl xi_z)), (q22, .inl (cI, 200, .inl xi_z))])) s.heap H locs := hG
  refine xi_putF (ty := .array .int) (v := .ref q22) (C := RX8) (T := TX8) (N := 46) S hK hG (fun w h => List.mem_cons_of_mem _ (List.mem_append_right _ (h))) tyX8 tyX8_ok nmX8 rfl 42 (by decide) k25 (fun _ h9 => h9) rfl hnm rfl (by decide +kernel) rfl rfl (Nat.le_of_ble_eq_true rfl) dX8_init_178 (fun H locs hG => ?_)
  have hG : xg_H D bs (pre ++ (a, .inr (8, [.int 0, .ref q1, .ref q2, .ref q3, .ref q4, .ref q5, .ref q6, .ref q7, .int 0, .int 0, .int 0, .int 0, .int 0, .int 0, .int 0, .ref q8, .ref q9, .ref q10, .int 0, .ref q11, .int 0, .ref q12, .ref q13, .ref q14, .ref q15, .int 0, .int 0, .int 0, .int 0, .int 0, .int 0, .ref q16, .ref q17, .ref q18, .int 0, .int 0, .int 0, .int 0, .long 0, .ref q19, .ref q20, .ref q21, .ref q22, .null, .int 0, .int 0])) :: ([(q1, .inl (cI, 6, .inl xi_z)), (q2, .inl (cI, 6, .inl xi_z)), (q3, .inl (cI, 6, .inl xi_z)), (q4, .inl (cI, 6, .inl xi_z)), (q5, .inl (cI, 6, .inl xi_z)), (q6, .inl (cI, 6, .inl xi_z)), (q7, .inl (cI, 6, .inl xi_z)), (q8, .inl (cI, 6, .inl xi_z)), (q9, .inl (cI, 6, .inl xi_z)), (q10, .inl (cI, 6, .inl xi_z)), (q11, .inl (cI, 60, .inl xi_z)), (q12, .inl (cI, 60, .inl xi_z)), (q13, .inl (cI, 60, .inl xi_z)), (q14, .inl (cI, 60, .inl xi_z)), (q15, .inl (cI, 60, .inl xi_z)), (q16, .inl (cI, 6, .inl xi_z)), (q17, .inl (cI, 6, .inl xi_z)), (q18, .inl (cI, 6, .inl xi_z)), (q19, .inl (cI, 32, .inl xi_z)), (q20, .inl (cI, 32, .inl xi_z)), (q21, .inl (cI, 32, .inl xi_z)), (q22, .inl (cI, 200, .inl xi_z))])) s.heap H locs := hG
  refine lv_aload_n hx hb dX8_init_181 rfl (lv_at hl 0 rfl) ?_
  refine lv_iconst (v := 2) hx hb dX8_init_182 (by decide) ?_
  refine xi_newz (n := 2) (N := 2) S hK hG k26 (by decide) rfl (Nat.le_of_ble_eq_true rfl) (Nat.le_of_ble_eq_true rfl) (Nat.le_of_ble_eq_true rfl) dX8_init_183 (fun q23 H hG => ?_)
  refine W.widen (k := 23) (n := 676) (Nat.le_of_ble_eq_true rfl) (Nat.le_of_ble_eq_true rfl) ?_
  have hG : xg_H D bs (pre ++ (a, .inr (8, [.int 0, .ref q1, .ref q2, .ref q3, .ref q4, .ref q5, .ref q6, .ref q7, .int 0, .int 0, .int 0, .int 0, .int 0, .int 0, .int 0, .ref q8, .ref q9, .ref q10, .int 0, .ref q11, .int 0, .ref q12, .ref q13, .ref q14, .ref q15, .int 0, .int 0, .int 0, .int 0, .int 0, .int 0, .ref q16, .ref q17, .ref q18, .int 0, .int 0, .int 0, .int 0, .long 0, .ref q19, .ref q20, .ref q21, .ref q22, .null, .int 0, .int 0])) :: ([(q1, .inl (cI, 6, .inl xi_z)), (q2, .inl (cI, 6, .inl xi_z)), (q3, .inl (cI, 6, .inl xi_z)), (q4, .inl (cI, 6, .inl xi_z)), (q5, .inl (cI, 6, .inl xi_z)), (q6, .inl (cI, 6, .inl xi_z)), (q7, .inl (cI, 6, .inl xi_z)), (q8, .inl (cI, 6, .inl xi_z)), (q9, .inl (cI, 6, .inl xi_z)), (q10, .inl (cI, 6, .inl xi_z)), (q11, .inl (cI, 60, .inl xi_z)), (q12, .inl (cI, 60, .inl xi_z)), (q13, .inl (cI, 60, .inl xi_z)), (q14, .inl (cI, 60, .inl xi_z)), (q15, .inl (cI, 60, .inl xi_z)), (q16, .inl (cI, 6, .inl xi_z)), (q17, .inl (cI, 6, .inl xi_z)), (q18, .inl (cI, 6, .inl xi_z)), (q19, .inl (cI, 32, .inl xi_z)), (q20, .inl (cI, 32, .inl xi_z)), (q21, .inl (cI, 32, .inl xi_z)), (q22, .inl (cI, 200, .inl xi_z)), (q23, .inl (cZ, 2, .inl xi_z))])) s.heap H locs := hG
  refine xi_putF (ty := .array .boolean) (v := .ref q23) (C := RX8) (T := TX8) (N := 46) S hK hG (fun w h => List.mem_cons_of_mem _ (List.mem_append_right _ (h))) tyX8 tyX8_ok nmX8 rfl 43 (by decide) k27 (fun _ h9 => h9) rfl hnm rfl (by decide +kernel) rfl rfl (Nat.le_of_ble_eq_true rfl) dX8_init_185 (fun H locs hG => ?_)
  have hG : xg_H D bs (pre ++ (a, .inr (8, [.int 0, .ref q1, .ref q2, .ref q3, .ref q4, .ref q5, .ref q6, .ref q7, .int 0, .int 0, .int 0, .int 0, .int 0, .int 0, .int 0, .ref q8, .ref q9, .ref q10, .int 0, .ref q11, .int 0, .ref q12, .ref q13, .ref q14, .ref q15, .int 0, .int 0, .int 0, .int 0, .int 0, .int 0, .ref q16, .ref q17, .ref q18, .int 0, .int 0, .int 0, .int 0, .long 0, .ref q19, .ref q20, .ref q21, .ref q22, .ref q23, .int 0, .int 0])) :: ([(q1, .inl (cI, 6, .inl xi_z)), (q2, .inl (cI, 6, .inl xi_z)), (q3, .inl (cI, 6, .inl xi_z)), (q4, .inl (cI, 6, .inl xi_z)), (q5, .inl (cI, 6, .inl xi_z)), (q6, .inl (cI, 6, .inl xi_z)), (q7, .inl (cI, 6, .inl xi_z)), (q8, .inl (cI, 6, .inl xi_z)), (q9, .inl (cI, 6, .inl xi_z)), (q10, .inl (cI, 6, .inl xi_z)), (q11, .inl (cI, 60, .inl xi_z)), (q12, .inl (cI, 60, .inl xi_z)), (q13, .inl (cI, 60, .inl xi_z)), (q14, .inl (cI, 60, .inl xi_z)), (q15, .inl (cI, 60, .inl xi_z)), (q16, .inl (cI, 6, .inl xi_z)), (q17, .inl (cI, 6, .inl xi_z)), (q18, .inl (cI, 6, .inl xi_z)), (q19, .inl (cI, 32, .inl xi_z)), (q20, .inl (cI, 32, .inl xi_z)), (q21, .inl (cI, 32, .inl xi_z)), (q22, .inl (cI, 200, .inl xi_z)), (q23, .inl (cZ, 2, .inl xi_z))])) s.heap H locs := hG
  refine lv_aload_n hx hb dX8_init_188 rfl (lv_at hl 0 rfl) ?_
  refine lv_iconst (v := 2) hx hb dX8_init_189 (by decide) ?_
  refine xi_put (ty := .int) (v := .int 2) (C := RX8) (T := TX8) (N := 46) S hK hG (fun w h => List.mem_cons_of_mem _ (List.mem_append_right _ (h))) tyX8 tyX8_ok nmX8 rfl 8 (by decide) k28 (fun _ h9 => h9) rfl (by decide +kernel) rfl rfl (Nat.le_of_ble_eq_true rfl) dX8_init_190 (fun H locs hG => ?_)
  have hG : xg_H D bs (pre ++ (a, .inr (8, [.int 0, .ref q1, .ref q2, .ref q3, .ref q4, .ref q5, .ref q6, .ref q7, .int 2, .int 0, .int 0, .int 0, .int 0, .int 0, .int 0, .ref q8, .ref q9, .ref q10, .int 0, .ref q11, .int 0, .ref q12, .ref q13, .ref q14, .ref q15, .int 0, .int 0, .int 0, .int 0, .int 0, .int 0, .ref q16, .ref q17, .ref q18, .int 0, .int 0, .int 0, .int 0, .long 0, .ref q19, .ref q20, .ref q21, .ref q22, .ref q23, .int 0, .int 0])) :: ([(q1, .inl (cI, 6, .inl xi_z)), (q2, .inl (cI, 6, .inl xi_z)), (q3, .inl (cI, 6, .inl xi_z)), (q4, .inl (cI, 6, .inl xi_z)), (q5, .inl (cI, 6, .inl xi_z)), (q6, .inl (cI, 6, .inl xi_z)), (q7, .inl (cI, 6, .inl xi_z)), (q8, .inl (cI, 6, .inl xi_z)), (q9, .inl (cI, 6, .inl xi_z)), (q10, .inl (cI, 6, .inl xi_z)), (q11, .inl (cI, 60, .inl xi_z)), (q12, .inl (cI, 60, .inl xi_z)), (q13, .inl (cI, 60, .inl xi_z)), (q14, .inl (cI, 60, .inl xi_z)), (q15, .inl (cI, 60, .inl xi_z)), (q16, .inl (cI, 6, .inl xi_z)), (q17, .inl (cI, 6, .inl xi_z)), (q18, .inl (cI, 6, .inl xi_z)), (q19, .inl (cI, 32, .inl xi_z)), (q20, .inl (cI, 32, .inl xi_z)), (q21, .inl (cI, 32, .inl xi_z)), (q22, .inl (cI, 200, .inl xi_z)), (q23, .inl (cZ, 2, .inl xi_z))])) s.heap H locs := hG
  refine lv_aload_n hx hb dX8_init_193 rfl (lv_at hl 0 rfl) ?_
  refine lv_iconst (v := 3) hx hb dX8_init_194 (by decide) ?_
  refine xi_put (ty := .int) (v := .int 3) (C := RX8) (T := TX8) (N := 46) S hK hG (fun w h => List.mem_cons_of_mem _ (List.mem_append_right _ (h))) tyX8 tyX8_ok nmX8 rfl 9 (by decide) k29 (fun _ h9 => h9) rfl (by decide +kernel) rfl rfl (Nat.le_of_ble_eq_true rfl) dX8_init_195 (fun H locs hG => ?_)
  have hG : xg_H D bs (pre ++ (a, .inr (8, [.int 0, .ref q1, .ref q2, .ref q3, .ref q4, .ref q5, .ref q6, .ref q7, .int 2, .int 3, .int 0, .int 0, .int 0, .int 0, .int 0, .ref q8, .ref q9, .ref q10, .int 0, .ref q11, .int 0, .ref q12, .ref q13, .ref q14, .ref q15, .int 0, .int 0, .int 0, .int 0, .int 0, .int 0, .ref q16, .ref q17, .ref q18, .int 0, .int 0, .int 0, .int 0, .long 0, .ref q19, .ref q20, .ref q21, .ref q22, .ref q23, .int 0, .int 0])) :: ([(q1, .inl (cI, 6, .inl xi_z)), (q2, .inl (cI, 6, .inl xi_z)), (q3, .inl (cI, 6, .inl xi_z)), (q4, .inl (cI, 6, .inl xi_z)), (q5, .inl (cI, 6, .inl xi_z)), (q6, .inl (cI, 6, .inl xi_z)), (q7, .inl (cI, 6, .inl xi_z)), (q8, .inl (cI, 6, .inl xi_z)), (q9, .inl (cI, 6, .inl xi_z)), (q10, .inl (cI, 6, .inl xi_z)), (q11, .inl (cI, 60, .inl xi_z)), (q12, .inl (cI, 60, .inl xi_z)), (q13, .inl (cI, 60, .inl xi_z)), (q14, .inl (cI, 60, .inl xi_z)), (q15, .inl (cI, 60, .inl xi_z)), (q16, .inl (cI, 6, .inl xi_z)), (q17, .inl (cI, 6, .inl xi_z)), (q18, .inl (cI, 6, .inl xi_z)), (q19, .inl (cI, 32, .inl xi_z)), (q20, .inl (cI, 32, .inl xi_z)), (q21, .inl (cI, 32, .inl xi_z)), (q22, .inl (cI, 200, .inl xi_z)), (q23, .inl (cZ, 2, .inl xi_z))])) s.heap H locs := hG
  refine lv_aload_n hx hb dX8_init_198 rfl (lv_at hl 0 rfl) ?_
  refine lv_bipush (v := 20) hx hb dX8_init_199 (by decide) ?_
  refine xi_put (ty := .int) (v := .int 20) (C := RX8) (T := TX8) (N := 46) S hK hG (fun w h => List.mem_cons_of_mem _ (List.mem_append_right _ (h))) tyX8 tyX8_ok nmX8 rfl 10 (by decide) k30 (fun _ h9 => h9) rfl (by decide +kernel) rfl rfl (Nat.le_of_ble_eq_true rfl) dX8_init_201 (fun H locs hG => ?_)
  have hG : xg_H D bs (pre ++ (a, .inr (8, [.int 0, .ref q1, .ref q2, .ref q3, .ref q4, .ref q5, .ref q6, .ref q7, .int 2, .int 3, .int 20, .int 0, .int 0, .int 0, .int 0, .ref q8, .ref q9, .ref q10, .int 0, .ref q11, .int 0, .ref q12, .ref q13, .ref q14, .ref q15, .int 0, .int 0, .int 0, .int 0, .int 0, .int 0, .ref q16, .ref q17, .ref q18, .int 0, .int 0, .int 0, .int 0, .long 0, .ref q19, .ref q20, .ref q21, .ref q22, .ref q23, .int 0, .int 0])) :: ([(q1, .inl (cI, 6, .inl xi_z)), (q2, .inl (cI, 6, .inl xi_z)), (q3, .inl (cI, 6, .inl xi_z)), (q4, .inl (cI, 6, .inl xi_z)), (q5, .inl (cI, 6, .inl xi_z)), (q6, .inl (cI, 6, .inl xi_z)), (q7, .inl (cI, 6, .inl xi_z)), (q8, .inl (cI, 6, .inl xi_z)), (q9, .inl (cI, 6, .inl xi_z)), (q10, .inl (cI, 6, .inl xi_z)), (q11, .inl (cI, 60, .inl xi_z)), (q12, .inl (cI, 60, .inl xi_z)), (q13, .inl (cI, 60, .inl xi_z)), (q14, .inl (cI, 60, .inl xi_z)), (q15, .inl (cI, 60, .inl xi_z)), (q16, .inl (cI, 6, .inl xi_z)), (q17, .inl (cI, 6, .inl xi_z)), (q18, .inl (cI, 6, .inl xi_z)), (q19, .inl (cI, 32, .inl xi_z)), (q20, .inl (cI, 32, .inl xi_z)), (q21, .inl (cI, 32, .inl xi_z)), (q22, .inl (cI, 200, .inl xi_z)), (q23, .inl (cZ, 2, .inl xi_z))])) s.heap H locs := hG
  refine lv_aload_n hx hb dX8_init_204 rfl (lv_at hl 0 rfl) ?_
  refine lv_iconst (v := 1) hx hb dX8_init_205 (by decide) ?_
  refine xi_put (ty := .int) (v := .int 1) (C := RX8) (T := TX8) (N := 46) S hK hG (fun w h => List.mem_cons_of_mem _ (List.mem_append_right _ (h))) tyX8 tyX8_ok nmX8 rfl 11 (by decide) k31 (fun _ h9 => h9) rfl (by decide +kernel) rfl rfl (Nat.le_of_ble_eq_true rfl) dX8_init_206 (fun H locs hG => ?_)
  have hG : xg_H D bs (pre ++ (a, .inr (8, [.int 0, .ref q1, .ref q2, .ref q3, .ref q4, .ref q5, .ref q6, .ref q7, .int 2, .int 3, .int 20, .int 1, .int 0, .int 0, .int 0, .ref q8, .ref q9, .ref q10, .int 0, .ref q11, .int 0, .ref q12, .ref q13, .ref q14, .ref q15, .int 0, .int 0, .int 0, .int 0, .int 0, .int 0, .ref q16, .ref q17, .ref q18, .int 0, .int 0, .int 0, .int 0, .long 0, .ref q19, .ref q20, .ref q21, .ref q22, .ref q23, .int 0, .int 0])) :: ([(q1, .inl (cI, 6, .inl xi_z)), (q2, .inl (cI, 6, .inl xi_z)), (q3, .inl (cI, 6, .inl xi_z)), (q4, .inl (cI, 6, .inl xi_z)), (q5, .inl (cI, 6, .inl xi_z)), (q6, .inl (cI, 6, .inl xi_z)), (q7, .inl (cI, 6, .inl xi_z)), (q8, .inl (cI, 6, .inl xi_z)), (q9, .inl (cI, 6, .inl xi_z)), (q10, .inl (cI, 6, .inl xi_z)), (q11, .inl (cI, 60, .inl xi_z)), (q12, .inl (cI, 60, .inl xi_z)), (q13, .inl (cI, 60, .inl xi_z)), (q14, .inl (cI, 60, .inl xi_z)), (q15, .inl (cI, 60, .inl xi_z)), (q16, .inl (cI, 6, .inl xi_z)), (q17, .inl (cI, 6, .inl xi_z)), (q18, .inl (cI, 6, .inl xi_z)), (q19, .inl (cI, 32, .inl xi_z)), (q20, .inl (cI, 32, .inl xi_z)), (q21, .inl (cI, 32, .inl xi_z)), (q22, .inl (cI, 200, .inl xi_z)), (q23, .inl (cZ, 2, .inl xi_z))])) s.heap H locs := hG
  refine lv_aload_n hx hb dX8_init_209 rfl (lv_at hl 0 rfl) ?_
  refine lv_bipush (v := 6) hx hb dX8_init_210 (by decide) ?_
  refine xi_put (ty := .int) (v := .int 6) (C := RX8) (T := TX8) (N := 46) S hK hG (fun w h => List.mem_cons_of_mem _ (List.mem_append_right _ (h))) tyX8 tyX8_ok nmX8 rfl 12 (by decide) k32 (fun _ h9 => h9) rfl (by decide +kernel) rfl rfl (Nat.le_of_ble_eq_true rfl) dX8_init_212 (fun H locs hG => ?_)
  have hG : xg_H D bs (pre ++ (a, .inr (8, [.int 0, .ref q1, .ref q2, .ref q3, .ref q4, .ref q5, .ref q6, .ref q7, .int 2, .int 3, .int 20, .int 1, .int 6, .int 0, .int 0, .ref q8, .ref q9, .ref q10, .int 0, .ref q11, .int 0, .ref q12, .ref q13, .ref q14, .ref q15, .int 0, .int 0, .int 0, .int 0, .int 0, .int 0, .ref q16, .ref q17, .ref q18, .int 0, .int 0, .int 0, .int 0, .long 0, .ref q19, .ref q20, .ref q21, .ref q22, .ref q23, .int 0, .int 0])) :: ([(q1, .inl (cI, 6, .inl xi_z)), (q2, .inl (cI, 6, .inl xi_z)), (q3, .inl (cI, 6, .inl xi_z)), (q4, .inl (cI, 6, .inl xi_z)), (q5, .inl (cI, 6, .inl xi_z)), (q6, .inl (cI, 6, .inl xi_z)), (q7, .inl (cI, 6, .inl xi_z)), (q8, .inl (cI, 6, .inl xi_z)), (q9, .inl (cI, 6, .inl xi_z)), (q10, .inl (cI, 6, .inl xi_z)), (q11, .inl (cI, 60, .inl xi_z)), (q12, .inl (cI, 60, .inl xi_z)), (q13, .inl (cI, 60, .inl xi_z)), (q14, .inl (cI, 60, .inl xi_z)), (q15, .inl (cI, 60, .inl xi_z)), (q16, .inl (cI, 6, .inl xi_z)), (q17, .inl (cI, 6, .inl xi_z)), (q18, .inl (cI, 6, .inl xi_z)), (q19, .inl (cI, 32, .inl xi_z)), (q20, .inl (cI, 32, .inl xi_z)), (q21, .inl (cI, 32, .inl xi_z)), (q22, .inl (cI, 200, .inl xi_z)), (q23, .inl (cZ, 2, .inl xi_z))])) s.heap H locs := hG
  refine lv_aload_n hx hb dX8_init_215 rfl (lv_at hl 0 rfl) ?_
  refine lv_iconst (v := 1) hx hb dX8_init_216 (by decide) ?_
  refine xi_put (ty := .int) (v := .int 1) (C := RX8) (T := TX8) (N := 46) S hK hG (fun w h => List.mem_cons_of_mem _ (List.mem_append_right _ (h))) tyX8 tyX8_ok nmX8 rfl 14 (by decide) k33 (fun _ h9 => h9) rfl (by decide +kernel) rfl rfl (Nat.le_of_ble_eq_true rfl) dX8_init_217 (fun H locs hG => ?_)
  have hG : xg_H D bs (pre ++ (a, .inr (8, [.int 0, .ref q1, .ref q2, .ref q3, .ref q4, .ref q5, .ref q6, .ref q7, .int 2, .int 3, .int 20, .int 1, .int 6, .int 0, .int 1, .ref q8, .ref q9, .ref q10, .int 0, .ref q11, .int 0, .ref q12, .ref q13, .ref q14, .ref q15, .int 0, .int 0, .int 0, .int 0, .int 0, .int 0, .ref q16, .ref q17, .ref q18, .int 0, .int 0, .int 0, .int 0, .long 0, .ref q19, .ref q20, .ref q21, .ref q22, .ref q23, .int 0, .int 0])) :: ([(q1, .inl (cI, 6, .inl xi_z)), (q2, .inl (cI, 6, .inl xi_z)), (q3, .inl (cI, 6, .inl xi_z)), (q4, .inl (cI, 6, .inl xi_z)), (q5, .inl (cI, 6, .inl xi_z)), (q6, .inl (cI, 6, .inl xi_z)), (q7, .inl (cI, 6, .inl xi_z)), (q8, .inl (cI, 6, .inl xi_z)), (q9, .inl (cI, 6, .inl xi_z)), (q10, .inl (cI, 6, .inl xi_z)), (q11, .inl (cI, 60, .inl xi_z)), (q12, .inl (cI, 60, .inl xi_z)), (q13, .inl (cI, 60, .inl xi_z)), (q14, .inl (cI, 60, .inl xi_z)), (q15, .inl (cI, 60, .inl xi_z)), (q16, .inl (cI, 6, .inl xi_z)), (q17, .inl (cI, 6, .inl xi_z)), (q18, .inl (cI, 6, .inl xi_z)), (q19, .inl (cI, 32, .inl xi_z)), (q20, .inl (cI, 32, .inl xi_z)), (q21, .inl (cI, 32, .inl xi_z)), (q22, .inl (cI, 200, .inl xi_z)), (q23, .inl (cZ, 2, .inl xi_z))])) s.heap H locs := hG
  rw [hQ]
  exact xg_emv S hr hlk hK hG ⟨fun k => if k = 0 then a else if k < 2 then q1 else if k < 3 then q2 else if k < 4 then q3 else if k < 5 then q4 else if k < 6 then q5 else if k < 7 then q6 else if k < 8 then q7 else if k < 9 then q8 else if k < 10 then q9 else if k < 11 then q10 else if k < 12 then q11 else if k < 13 then q12 else if k < 14 then q13 else if k < 15 then q14 else if k < 16 then q15 else if k < 17 then q16 else if k < 18 then q17 else if k < 19 then q18 else if k < 20 then q19 else if k < 21 then q20 else if k < 22 then q21 else if k < 23 then q22 else if k < 24 then q23 else 0, rfl, rfl⟩ dX8_init_220
