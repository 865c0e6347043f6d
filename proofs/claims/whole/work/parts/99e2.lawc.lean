set_option maxHeartbeats 4000000 in
set_option maxRecDepth 100000 in
theorem law_behind {p : Program} {l : Launch} {e : Env} {s : State} {m : MethodId} {below : List Frame} {meth : Method} {c : Code} {H : Heap} {locs : List Loc} {Q : State → Prop} {ls : Array Slot} {sb N b B : Nat} {xs : Nat → Int32} {D : va_G} {cI cZ : ClassId} {ad : Nat → Nat} {ws : va_W} {x3 : Int32} (C : lq s m meth p c sb N xs D cI cZ) (hJ : lj cI cZ ad b B ws) (hB : B + 2000 < 2 ^ 30) (hG : xg_H D s.heap.size ws s.heap H locs) (hl : lv_has ls 4 [(0, .ref sb), (1, .ref (ad b)), (2, .ref (ad (b + 75))), (3, .int x3)]) (i1 : vp_in (x3 + 1) N) (i2 : vp_in (x3 + 2) N) (i3 : vp_in (x3 + 3) N) (i4 : vp_in (x3 + 4) N) (i5 : vp_in (x3 + 5) N) (kk : ∀ (w : va_W) (H1 : Heap) (locs1 : List Loc), lj cI cZ ad b (B + 2000) w → xg_H D s.heap.size w s.heap H1 locs1 → W p l e room_1 s m #[Value.ref sb] below meth c H1 locs1 99 1284 Q (F0 m 1240 ls [])) : W p l e room_1 s m #[Value.ref sb] below meth c H locs 99 1284 Q (F0 m 416 ls []) := by
  obtain ⟨S, hret, hlk, hK, hXs, hsb⟩ := id C
  obtain ⟨hx, hb, hml, hown, hts⟩ := id S
  obtain ⟨a1, e1⟩ : ∃ y : Int32, xs (x3 + 1).toNatClampNeg = y := ⟨_, rfl⟩
  obtain ⟨a2, e2⟩ : ∃ y : Int32, xs (x3 + 2).toNatClampNeg = y := ⟨_, rfl⟩
  obtain ⟨a3, e3⟩ : ∃ y : Int32, xs (x3 + 3).toNatClampNeg = y := ⟨_, rfl⟩
  obtain ⟨a4, e4⟩ : ∃ y : Int32, xs (x3 + 4).toNatClampNeg = y := ⟨_, rfl⟩
  obtain ⟨a5, e5⟩ : ∃ y : Int32, xs (x3 + 5).toNatClampNeg = y := ⟨_, rfl⟩
  obtain ⟨fk, sk, nn, T, TF, TS, g, A, I, L, hX, hE⟩ := hJ
  obtain ⟨hO, hT, hF, hSd, hPo, hP, ⟨ev, wh, dn, rf, db, he, TA, f, u, v, hSo, hA, hTi, hCh⟩, ⟨dn0, la0, re0, u0, v0, hCl, hCc⟩, ⟨ch0, td0, tr0, hGa⟩, ⟨dnY, rfY, huY, TY, hYo, hYt⟩, hM⟩ := id hX
  refine lv_aload_n hx hb dL_law_416 rfl (lv_at hl 1 rfl) ?_
  refine lv_aload_n hx hb dL_law_417 rfl (lv_at hl 0 rfl) ?_
  refine lv_iload_n hx hb dL_law_418 rfl (lv_at hl 3 rfl) ?_
  refine lv_iconst (v := 1) hx hb dL_law_419 (by decide) ?_
  refine lv_iadd hx hb dL_law_420 ?_
  refine lq_ld C hG i1 e1 dL_law_421 ?_
  refine lv_aload_n hx hb dL_law_422 rfl (lv_at hl 0 rfl) ?_
  refine lv_iload_n hx hb dL_law_423 rfl (lv_at hl 3 rfl) ?_
  refine lv_iconst (v := 2) hx hb dL_law_424 (by decide) ?_
  refine lv_iadd hx hb dL_law_425 ?_
  refine lq_ld C hG i2 e2 dL_law_426 ?_
  refine xg_mi (va_runV (As := [.int a1, .int a2]) (rest := []) S (mX7_behind l D cI cZ s.heap.size ad ws b fk sk hO T hT (nI nn) hPo g hP ev wh dn rf db he hSo TA hA f hTi u v hCh a1 a2 nn rfl hE.2.2.1) (cwV 2 hts gL_law_X7_behind rfl rfl rfl (by decide +kernel) ⟨Nat.le_of_ble_eq_true rfl, Nat.le_of_ble_eq_true rfl⟩) (xg_preV hK hG b hO rfl rfl) rfl rfl hl.1 rfl (lv_room (Nat.le_of_ble_eq_true rfl)) dL_law_427 ⟨Nat.le_of_ble_eq_true rfl, Nat.le_of_ble_eq_true rfl⟩) hG (fun r1 w1 H locs hq1 hG => ?_)
  obtain ⟨hr1, -, -, -, -, hSo1, hA1, hTi1, hCh1, hS1⟩ := hq1
  have hX := hX.sum ⟨_, _, _, _, _, _, _, _, _, _, hSo1, hA1, hTi1, hCh1⟩ hS1
  have hM := hX.2.2.2.2.2.2.2.2.2.2
  refine lv_aload_n hx hb dL_law_430 rfl (lv_at hl 2 rfl) ?_
  refine lv_aload_n hx hb dL_law_431 rfl (lv_at hl 0 rfl) ?_
  refine lv_iload_n hx hb dL_law_432 rfl (lv_at hl 3 rfl) ?_
  refine lv_iconst (v := 1) hx hb dL_law_433 (by decide) ?_
  refine lv_iadd hx hb dL_law_434 ?_
  refine lq_ld C hG i1 e1 dL_law_435 ?_
  refine lv_aload_n hx hb dL_law_436 rfl (lv_at hl 0 rfl) ?_
  refine lv_iload_n hx hb dL_law_437 rfl (lv_at hl 3 rfl) ?_
  refine lv_iconst (v := 2) hx hb dL_law_438 (by decide) ?_
  refine lv_iadd hx hb dL_law_439 ?_
  refine lq_ld C hG i2 e2 dL_law_440 ?_
  refine xg_mi (va_runV (As := [.int a1, .int a2]) (rest := [.int r1]) S (mX8_behind l D cI cZ s.heap.size ad w1 (b + 75) A I L hM a1 a2 nn hE.2.2.2.1 hE.2.2.1) (cwV 2 hts gL_law_X8_behind rfl rfl rfl (by decide +kernel) ⟨Nat.le_of_ble_eq_true rfl, Nat.le_of_ble_eq_true rfl⟩) (xg_preV hK hG (b + 75) hM.1 rfl rfl) rfl rfl hl.1 rfl (lv_room (Nat.le_of_ble_eq_true rfl)) dL_law_441 ⟨Nat.le_of_ble_eq_true rfl, Nat.le_of_ble_eq_true rfl⟩) hG (fun r2 w2 H locs hq2 hG => ?_)
  obtain ⟨hr2, hM2, hS2⟩ := hq2
  have hX := hX.M hM2 hS2
  refine lv_icmp_eq (tgt := 1240) hx hb dL_law_444 (by decide) (fun _ => ?_) (fun q => absurd (hr1.trans ((eq_beh hE.1 hE.2.1 hB hE.2.2.1 hE.2.2.2.1 hE.2.2.2.2.1 (ev, wh, (TA, f, (he, u, v), (dn, rf, db))) a1 a2).trans hr2.symm)) q)
  exact kk _ _ _ ⟨_, _, _, _, _, _, _, _, _, _, hX, la_behind hE a1 a2⟩ hG
set_option maxHeartbeats 4000000 in
set_option maxRecDepth 100000 in
theorem law_done {p : Program} {l : Launch} {e : Env} {s : State} {m : MethodId} {below : List Frame} {meth : Method} {c : Code} {H : Heap} {locs : List Loc} {Q : State → Prop} {ls : Array Slot} {sb N b B : Nat} {xs : Nat → Int32} {D : va_G} {cI cZ : ClassId} {ad : Nat → Nat} {ws : va_W} {x3 : Int32} (C : lq s m meth p c sb N xs D cI cZ) (hJ : lj cI cZ ad b B ws) (hB : B + 2000 < 2 ^ 30) (hG : xg_H D s.heap.size ws s.heap H locs) (hl : lv_has ls 4 [(0, .ref sb), (1, .ref (ad b)), (2, .ref (ad (b + 75))), (3, .int x3)]) (i1 : vp_in (x3 + 1) N) (i2 : vp_in (x3 + 2) N) (i3 : vp_in (x3 + 3) N) (i4 : vp_in (x3 + 4) N) (i5 : vp_in (x3 + 5) N) (kk : ∀ (w : va_W) (H1 : Heap) (locs1 : List Loc), lj cI cZ ad b (B + 2000) w → xg_H D s.heap.size w s.heap H1 locs1 → W p l e room_1 s m #[Value.ref sb] below meth c H1 locs1 99 1284 Q (F0 m 1240 ls [])) : W p l e room_1 s m #[Value.ref sb] below meth c H locs 99 1284 Q (F0 m 449 ls []) := by
  obtain ⟨S, hret, hlk, hK, hXs, hsb⟩ := id C
  obtain ⟨hx, hb, hml, hown, hts⟩ := id S
  obtain ⟨a1, e1⟩ : ∃ y : Int32, xs (x3 + 1).toNatClampNeg = y := ⟨_, rfl⟩
  obtain ⟨a2, e2⟩ : ∃ y : Int32, xs (x3 + 2).toNatClampNeg = y := ⟨_, rfl⟩
  obtain ⟨a3, e3⟩ : ∃ y : Int32, xs (x3 + 3).toNatClampNeg = y := ⟨_, rfl⟩
  obtain ⟨a4, e4⟩ : ∃ y : Int32, xs (x3 + 4).toNatClampNeg = y := ⟨_, rfl⟩
  obtain ⟨a5, e5⟩ : ∃ y : Int32, xs (x3 + 5).toNatClampNeg = y := ⟨_, rfl⟩
  obtain ⟨fk, sk, nn, T, TF, TS, g, A, I, L, hX, hE⟩ := hJ
  obtain ⟨hO, hT, hF, hSd, hPo, hP, ⟨ev, wh, dn, rf, db, he, TA, f, u, v, hSo, hA, hTi, hCh⟩, ⟨dn0, la0, re0, u0, v0, hCl, hCc⟩, ⟨ch0, td0, tr0, hGa⟩, ⟨dnY, rfY, huY, TY, hYo, hYt⟩, hM⟩ := id hX
  refine lv_aload_n hx hb dL_law_449 rfl (lv_at hl 1 rfl) ?_
  refine xg_mi (va_runV (As := []) (rest := []) S (mX7_done l D cI cZ s.heap.size ad ws b fk sk hO T hT (nI nn) hPo g hP ev wh dn rf db he hSo TA hA f hTi u v hCh TF hF TS hSd nn rfl hE.2.2.1) (cwV 0 hts gL_law_X7_done rfl rfl rfl (by decide +kernel) ⟨Nat.le_of_ble_eq_true rfl, Nat.le_of_ble_eq_true rfl⟩) (xg_preV hK hG b hO rfl rfl) rfl rfl hl.1 rfl (lv_room (Nat.le_of_ble_eq_true rfl)) dL_law_450 ⟨Nat.le_of_ble_eq_true rfl, Nat.le_of_ble_eq_true rfl⟩) hG (fun r1 w1 H locs hq1 hG => ?_)
  obtain ⟨hr1, -, hT1, hPo1, hP1, hSo1, hA1, hTi1, hCh1, hF1, hSd1, hS1⟩ := hq1
  have hX := hX.don hT1 hF1 hSd1 hPo1 hP1 ⟨_, _, _, _, _, _, _, _, _, _, hSo1, hA1, hTi1, hCh1⟩ hS1
  have hM := hX.2.2.2.2.2.2.2.2.2.2
  refine lv_aload_n hx hb dL_law_453 rfl (lv_at hl 2 rfl) ?_
  refine xg_mi (va_runV (As := []) (rest := [.int r1]) S (mX8_done l D cI cZ s.heap.size ad w1 (b + 75) A I L hM nn hE.2.2.2.1 hE.2.2.1) (cwV 0 hts gL_law_X8_done rfl rfl rfl (by decide +kernel) ⟨Nat.le_of_ble_eq_true rfl, Nat.le_of_ble_eq_true rfl⟩) (xg_preV hK hG (b + 75) hM.1 rfl rfl) rfl rfl hl.1 rfl (lv_room (Nat.le_of_ble_eq_true rfl)) dL_law_454 ⟨Nat.le_of_ble_eq_true rfl, Nat.le_of_ble_eq_true rfl⟩) hG (fun r2 w2 H locs hq2 hG => ?_)
  obtain ⟨hr2, hM2, hS2⟩ := hq2
  have hX := hX.M hM2 hS2
  refine lv_icmp_eq (tgt := 1240) hx hb dL_law_457 (by decide) (fun _ => ?_) (fun q => absurd (hr1.trans ((eq_don hE.1 hE.2.1 hB hE.2.2.1 hE.2.2.2.1 hE.2.2.2.2.1 (ev, wh, (TA, f, (he, u, v), (dn, rf, db)))).trans hr2.symm)) q)
  obtain ⟨n1, hn1, hE1⟩ := la_done hE hB (ev, wh, (TA, f, (he, u, v), (dn, rf, db)))
  rw [hn1] at hX
  exact kk _ _ _ ⟨_, _, _, _, _, _, _, _, _, _, hX, hE1⟩ hG
set_option maxHeartbeats 4000000 in
set_option maxRecDepth 100000 in
theorem law_ties {p : Program} {l : Launch} {e : Env} {s : State} {m : MethodId} {below : List Frame} {meth : Method} {c : Code} {H : Heap} {locs : List Loc} {Q : State → Prop} {ls : Array Slot} {sb N b B : Nat} {xs : Nat → Int32} {D : va_G} {cI cZ : ClassId} {ad : Nat → Nat} {ws : va_W} {x3 : Int32} (C : lq s m meth p c sb N xs D cI cZ) (hJ : lj cI cZ ad b B ws) (hB : B + 2000 < 2 ^ 30) (hG : xg_H D s.heap.size ws s.heap H locs) (hl : lv_has ls 4 [(0, .ref sb), (1, .ref (ad b)), (2, .ref (ad (b + 75))), (3, .int x3)]) (i1 : vp_in (x3 + 1) N) (i2 : vp_in (x3 + 2) N) (i3 : vp_in (x3 + 3) N) (i4 : vp_in (x3 + 4) N) (i5 : vp_in (x3 + 5) N) (kk : ∀ (w : va_W) (H1 : Heap) (locs1 : List Loc), lj cI cZ ad b (B + 2000) w → xg_H D s.heap.size w s.heap H1 locs1 → W p l e room_1 s m #[Value.ref sb] below meth c H1 locs1 99 1284 Q (F0 m 1240 ls [])) : W p l e room_1 s m #[Value.ref sb] below meth c H locs 99 1284 Q (F0 m 462 ls []) := by
  obtain ⟨S, hret, hlk, hK, hXs, hsb⟩ := id C
  obtain ⟨hx, hb, hml, hown, hts⟩ := id S
  obtain ⟨a1, e1⟩ : ∃ y : Int32, xs (x3 + 1).toNatClampNeg = y := ⟨_, rfl⟩
  obtain ⟨a2, e2⟩ : ∃ y : Int32, xs (x3 + 2).toNatClampNeg = y := ⟨_, rfl⟩
  obtain ⟨a3, e3⟩ : ∃ y : Int32, xs (x3 + 3).toNatClampNeg = y := ⟨_, rfl⟩
  obtain ⟨a4, e4⟩ : ∃ y : Int32, xs (x3 + 4).toNatClampNeg = y := ⟨_, rfl⟩
  obtain ⟨a5, e5⟩ : ∃ y : Int32, xs (x3 + 5).toNatClampNeg = y := ⟨_, rfl⟩
  obtain ⟨fk, sk, nn, T, TF, TS, g, A, I, L, hX, hE⟩ := hJ
  obtain ⟨hO, hT, hF, hSd, hPo, hP, ⟨ev, wh, dn, rf, db, he, TA, f, u, v, hSo, hA, hTi, hCh⟩, ⟨dn0, la0, re0, u0, v0, hCl, hCc⟩, ⟨ch0, td0, tr0, hGa⟩, ⟨dnY, rfY, huY, TY, hYo, hYt⟩, hM⟩ := id hX
  obtain ⟨e9, he90, he9⟩ := em_rfG_25 A I nn
  have he60 : e9 ≤ 60 := Nat.le_trans he90 hE.2.2.1
  refine lv_aload_n hx hb dL_law_462 rfl (lv_at hl 1 rfl) ?_
  refine lv_aload_n hx hb dL_law_463 rfl (lv_at hl 0 rfl) ?_
  refine lv_iload_n hx hb dL_law_464 rfl (lv_at hl 3 rfl) ?_
  refine lv_iconst (v := 1) hx hb dL_law_465 (by decide) ?_
  refine lv_iadd hx hb dL_law_466 ?_
  refine lq_ld C hG i1 e1 dL_law_467 ?_
  refine xg_mi (va_runV (As := [.int a1]) (rest := []) S (mX7_ties l D cI cZ s.heap.size ad ws b fk sk hO T hT (nI nn) hPo g hP ev wh dn rf db he hSo TA hA f hTi u v hCh a1 nn rfl hE.2.2.1) (cwV 1 hts gL_law_X7_ties rfl rfl rfl (by decide +kernel) ⟨Nat.le_of_ble_eq_true rfl, Nat.le_of_ble_eq_true rfl⟩) (xg_preV hK hG b hO rfl rfl) rfl rfl hl.1 rfl (lv_room (Nat.le_of_ble_eq_true rfl)) dL_law_468 ⟨Nat.le_of_ble_eq_true rfl, Nat.le_of_ble_eq_true rfl⟩) hG (fun r1 w1 H locs hq1 hG => ?_)
  obtain ⟨hr1, -, -, -, -, hSo1, hA1, hTi1, hCh1, hS1⟩ := hq1
  have hX := hX.sum ⟨_, _, _, _, _, _, _, _, _, _, hSo1, hA1, hTi1, hCh1⟩ hS1
  have hM := hX.2.2.2.2.2.2.2.2.2.2
  refine lv_aload_n hx hb dL_law_471 rfl (lv_at hl 2 rfl) ?_
  refine lv_aload_n hx hb dL_law_472 rfl (lv_at hl 0 rfl) ?_
  refine lv_iload_n hx hb dL_law_473 rfl (lv_at hl 3 rfl) ?_
  refine lv_iconst (v := 1) hx hb dL_law_474 (by decide) ?_
  refine lv_iadd hx hb dL_law_475 ?_
  refine lq_ld C hG i1 e1 dL_law_476 ?_
  refine xg_mi (va_runV (As := [.int a1]) (rest := [.int r1]) S (mX8_ties l D cI cZ s.heap.size ad w1 (b + 75) A I L hM a1 nn hE.2.2.2.1 hE.2.2.1 e9 he9 he60) (cwV 1 hts gL_law_X8_ties rfl rfl rfl (by decide +kernel) ⟨Nat.le_of_ble_eq_true rfl, Nat.le_of_ble_eq_true rfl⟩) (xg_preV hK hG (b + 75) hM.1 rfl rfl) rfl rfl hl.1 rfl (lv_room (Nat.le_of_ble_eq_true rfl)) dL_law_477 ⟨Nat.le_of_ble_eq_true rfl, Nat.le_of_ble_eq_true rfl⟩) hG (fun r2 w2 H locs hq2 hG => ?_)
  obtain ⟨hr2, hM2, hS2⟩ := hq2
  have hX := hX.M hM2 hS2
  refine lv_icmp_eq (tgt := 1240) hx hb dL_law_480 (by decide) (fun _ => ?_) (fun q => absurd (hr1.trans ((eq_tieA hE.1 hE.2.1 hB hE.2.2.1 hE.2.2.2.1 hE.2.2.2.2.1 (ev, wh, (TA, f, (he, u, v), (dn, rf, db))) he9 he60 a1).trans hr2.symm)) q)
  exact kk _ _ _ ⟨_, _, _, _, _, _, _, _, _, _, hX, la_ties hE a1⟩ hG
set_option maxHeartbeats 4000000 in
set_option maxRecDepth 100000 in
theorem law_unhurt {p : Program} {l : Launch} {e : Env} {s : State} {m : MethodId} {below : List Frame} {meth : Method} {c : Code} {H : Heap} {locs : List Loc} {Q : State → Prop} {ls : Array Slot} {sb N b B : Nat} {xs : Nat → Int32} {D : va_G} {cI cZ : ClassId} {ad : Nat → Nat} {ws : va_W} {x3 : Int32} (C : lq s m meth p c sb N xs D cI cZ) (hJ : lj cI cZ ad b B ws) (hB : B + 2000 < 2 ^ 30) (hG : xg_H D s.heap.size ws s.heap H locs) (hl : lv_has ls 4 [(0, .ref sb), (1, .ref (ad b)), (2, .ref (ad (b + 75))), (3, .int x3)]) (i1 : vp_in (x3 + 1) N) (i2 : vp_in (x3 + 2) N) (i3 : vp_in (x3 + 3) N) (i4 : vp_in (x3 + 4) N) (i5 : vp_in (x3 + 5) N) (kk : ∀ (w : va_W) (H1 : Heap) (locs1 : List Loc), lj cI cZ ad b (B + 2000) w → xg_H D s.heap.size w s.heap H1 locs1 → W p l e room_1 s m #[Value.ref sb] below meth c H1 locs1 99 1284 Q (F0 m 1240 ls [])) : W p l e room_1 s m #[Value.ref sb] below meth c H locs 99 1284 Q (F0 m 485 ls []) := by
  obtain ⟨S, hret, hlk, hK, hXs, hsb⟩ := id C
  obtain ⟨hx, hb, hml, hown, hts⟩ := id S
  obtain ⟨a1, e1⟩ : ∃ y : Int32, xs (x3 + 1).toNatClampNeg = y := ⟨_, rfl⟩
  obtain ⟨a2, e2⟩ : ∃ y : Int32, xs (x3 + 2).toNatClampNeg = y := ⟨_, rfl⟩
  obtain ⟨a3, e3⟩ : ∃ y : Int32, xs (x3 + 3).toNatClampNeg = y := ⟨_, rfl⟩
  obtain ⟨a4, e4⟩ : ∃ y : Int32, xs (x3 + 4).toNatClampNeg = y := ⟨_, rfl⟩
  obtain ⟨a5, e5⟩ : ∃ y : Int32, xs (x3 + 5).toNatClampNeg = y := ⟨_, rfl⟩
  obtain ⟨fk, sk, nn, T, TF, TS, g, A, I, L, hX, hE⟩ := hJ
  obtain ⟨hO, hT, hF, hSd, hPo, hP, ⟨ev, wh, dn, rf, db, he, TA, f, u, v, hSo, hA, hTi, hCh⟩, ⟨dn0, la0, re0, u0, v0, hCl, hCc⟩, ⟨ch0, td0, tr0, hGa⟩, ⟨dnY, rfY, huY, TY, hYo, hYt⟩, hM⟩ := id hX
  obtain ⟨e9, he90, he9⟩ := em_rfG_25 A I nn
  have he60 : e9 ≤ 60 := Nat.le_trans he90 hE.2.2.1
  refine lv_aload_n hx hb dL_law_485 rfl (lv_at hl 1 rfl) ?_
  refine lv_aload_n hx hb dL_law_486 rfl (lv_at hl 0 rfl) ?_
  refine lv_iload_n hx hb dL_law_487 rfl (lv_at hl 3 rfl) ?_
  refine lv_iconst (v := 1) hx hb dL_law_488 (by decide) ?_
  refine lv_iadd hx hb dL_law_489 ?_
  refine lq_ld C hG i1 e1 dL_law_490 ?_
  refine xg_ml (va_runV (As := [.int a1]) (rest := []) S (mX7_unhurt l D cI cZ s.heap.size ad ws b fk sk hO T hT (nI nn) hPo g hP ev wh dn rf db he hSo TA hA f hTi u v hCh a1 nn rfl hE.2.2.1) (cwV 1 hts gL_law_X7_unhurt rfl rfl rfl (by decide +kernel) ⟨Nat.le_of_ble_eq_true rfl, Nat.le_of_ble_eq_true rfl⟩) (xg_preV hK hG b hO rfl rfl) rfl rfl hl.1 rfl (lv_room (Nat.le_of_ble_eq_true rfl)) dL_law_491 ⟨Nat.le_of_ble_eq_true rfl, Nat.le_of_ble_eq_true rfl⟩) hG (fun r1 w1 H locs hq1 hG => ?_)
  obtain ⟨hr1, -, -, -, -, hSo1, hA1, hTi1, hCh1, hS1⟩ := hq1
  have hX := hX.sum ⟨_, _, _, _, _, _, _, _, _, _, hSo1, hA1, hTi1, hCh1⟩ hS1
  have hM := hX.2.2.2.2.2.2.2.2.2.2
  refine lv_aload_n hx hb dL_law_494 rfl (lv_at hl 2 rfl) ?_
  refine lv_aload_n hx hb dL_law_495 rfl (lv_at hl 0 rfl) ?_
  refine lv_iload_n hx hb dL_law_496 rfl (lv_at hl 3 rfl) ?_
  refine lv_iconst (v := 1) hx hb dL_law_497 (by decide) ?_
  refine lv_iadd hx hb dL_law_498 ?_
  refine lq_ld C hG i1 e1 dL_law_499 ?_
  refine xg_ml (va_runV (As := [.int a1]) (rest := [.long r1]) S (mX8_unhurt l D cI cZ s.heap.size ad w1 (b + 75) A I L hM a1 nn hE.2.2.2.1 hE.2.2.1 e9 he9 he60 (eq_hev hE.2.2.1 hE.2.2.2.1 hE.2.2.2.2.1 he9 he60)) (cwV 1 hts gL_law_X8_unhurt rfl rfl rfl (by decide +kernel) ⟨Nat.le_of_ble_eq_true rfl, Nat.le_of_ble_eq_true rfl⟩) (xg_preV hK hG (b + 75) hM.1 rfl rfl) rfl rfl hl.1 rfl (lv_room (Nat.le_of_ble_eq_true rfl)) dL_law_500 ⟨Nat.le_of_ble_eq_true rfl, Nat.le_of_ble_eq_true rfl⟩) hG (fun r2 w2 H locs hq2 hG => ?_)
  obtain ⟨hr2, hM2, hS2⟩ := hq2
  have hX := hX.M hM2 hS2
  refine xb_lcmp S dL_law_503 ?_
  refine xb_leq (tgt := 1240) S dL_law_504 (by decide) (fun _ => ?_) (fun q => absurd (hr1.trans ((eq_unh hE.1 hE.2.1 hB hE.2.2.1 hE.2.2.2.1 hE.2.2.2.2.1 (ev, wh, (TA, f, (he, u, v), (dn, rf, db))) he9 he60 a1).trans hr2.symm)) q)
  exact kk _ _ _ ⟨_, _, _, _, _, _, _, _, _, _, hX, la_ties hE a1⟩ hG
set_option maxHeartbeats 4000000 in
set_option maxRecDepth 100000 in
theorem law_odds {p : Program} {l : Launch} {e : Env} {s : State} {m : MethodId} {below : List Frame} {meth : Method} {c : Code} {H : Heap} {locs : List Loc} {Q : State → Prop} {ls : Array Slot} {sb N b B : Nat} {xs : Nat → Int32} {D : va_G} {cI cZ : ClassId} {ad : Nat → Nat} {ws : va_W} {x3 : Int32} (C : lq s m meth p c sb N xs D cI cZ) (hJ : lj cI cZ ad b B ws) (hB : B + 2000 < 2 ^ 30) (hG : xg_H D s.heap.size ws s.heap H locs) (hl : lv_has ls 4 [(0, .ref sb), (1, .ref (ad b)), (2, .ref (ad (b + 75))), (3, .int x3)]) (i1 : vp_in (x3 + 1) N) (i2 : vp_in (x3 + 2) N) (i3 : vp_in (x3 + 3) N) (i4 : vp_in (x3 + 4) N) (i5 : vp_in (x3 + 5) N) (kk : ∀ (w : va_W) (H1 : Heap) (locs1 : List Loc), lj cI cZ ad b (B + 2000) w → xg_H D s.heap.size w s.heap H1 locs1 → W p l e room_1 s m #[Value.ref sb] below meth c H1 locs1 99 1284 Q (F0 m 1240 ls [])) : W p l e room_1 s m #[Value.ref sb] below meth c H locs 99 1284 Q (F0 m 509 ls []) := by
  obtain ⟨S, hret, hlk, hK, hXs, hsb⟩ := id C
  obtain ⟨hx, hb, hml, hown, hts⟩ := id S
  obtain ⟨a1, e1⟩ : ∃ y : Int32, xs (x3 + 1).toNatClampNeg = y := ⟨_, rfl⟩
  obtain ⟨a2, e2⟩ : ∃ y : Int32, xs (x3 + 2).toNatClampNeg = y := ⟨_, rfl⟩
  obtain ⟨a3, e3⟩ : ∃ y : Int32, xs (x3 + 3).toNatClampNeg = y := ⟨_, rfl⟩
  obtain ⟨a4, e4⟩ : ∃ y : Int32, xs (x3 + 4).toNatClampNeg = y := ⟨_, rfl⟩
  obtain ⟨a5, e5⟩ : ∃ y : Int32, xs (x3 + 5).toNatClampNeg = y := ⟨_, rfl⟩
  obtain ⟨fk, sk, nn, T, TF, TS, g, A, I, L, hX, hE⟩ := hJ
  obtain ⟨hO, hT, hF, hSd, hPo, hP, ⟨ev, wh, dn, rf, db, he, TA, f, u, v, hSo, hA, hTi, hCh⟩, ⟨dn0, la0, re0, u0, v0, hCl, hCc⟩, ⟨ch0, td0, tr0, hGa⟩, ⟨dnY, rfY, huY, TY, hYo, hYt⟩, hM⟩ := id hX
  refine lv_aload_n hx hb dL_law_509 rfl (lv_at hl 1 rfl) ?_
  refine lv_aload_n hx hb dL_law_510 rfl (lv_at hl 0 rfl) ?_
  refine lv_iload_n hx hb dL_law_511 rfl (lv_at hl 3 rfl) ?_
  refine lv_iconst (v := 1) hx hb dL_law_512 (by decide) ?_
  refine lv_iadd hx hb dL_law_513 ?_
  refine lq_ld C hG i1 e1 dL_law_514 ?_
  refine lv_aload_n hx hb dL_law_515 rfl (lv_at hl 0 rfl) ?_
  refine lv_iload_n hx hb dL_law_516 rfl (lv_at hl 3 rfl) ?_
  refine lv_iconst (v := 2) hx hb dL_law_517 (by decide) ?_
  refine lv_iadd hx hb dL_law_518 ?_
  refine lq_ld C hG i2 e2 dL_law_519 ?_
  refine xg_ri (va_runV (As := [.int a1, .int a2]) (rest := []) S (mX7_odds l D cI cZ s.heap.size ad ws b fk sk hO T hT a1 a2) (cwV 2 hts gL_law_X7_odds rfl rfl rfl (by decide +kernel) ⟨Nat.le_of_ble_eq_true rfl, Nat.le_of_ble_eq_true rfl⟩) (xg_preV hK hG b hO rfl rfl) rfl rfl hl.1 rfl (lv_room (Nat.le_of_ble_eq_true rfl)) dL_law_520 ⟨Nat.le_of_ble_eq_true rfl, Nat.le_of_ble_eq_true rfl⟩) (fun r1 hr1 => ?_)
  refine lv_aload_n hx hb dL_law_523 rfl (lv_at hl 2 rfl) ?_
  refine lv_aload_n hx hb dL_law_524 rfl (lv_at hl 0 rfl) ?_
  refine lv_iload_n hx hb dL_law_525 rfl (lv_at hl 3 rfl) ?_
  refine lv_iconst (v := 1) hx hb dL_law_526 (by decide) ?_
  refine lv_iadd hx hb dL_law_527 ?_
  refine lq_ld C hG i1 e1 dL_law_528 ?_
  refine lv_aload_n hx hb dL_law_529 rfl (lv_at hl 0 rfl) ?_
  refine lv_iload_n hx hb dL_law_530 rfl (lv_at hl 3 rfl) ?_
  refine lv_iconst (v := 2) hx hb dL_law_531 (by decide) ?_
  refine lv_iadd hx hb dL_law_532 ?_
  refine lq_ld C hG i2 e2 dL_law_533 ?_
  refine xg_ri (va_runV (As := [.int a1, .int a2]) (rest := [.int r1]) S (mX8_odds l D cI cZ s.heap.size ad ws (b + 75) A I L hM a1 a2) (cwV 2 hts gL_law_X8_odds rfl rfl rfl (by decide +kernel) ⟨Nat.le_of_ble_eq_true rfl, Nat.le_of_ble_eq_true rfl⟩) (xg_preV hK hG (b + 75) hM.1 rfl rfl) rfl rfl hl.1 rfl (lv_room (Nat.le_of_ble_eq_true rfl)) dL_law_534 ⟨Nat.le_of_ble_eq_true rfl, Nat.le_of_ble_eq_true rfl⟩) (fun r2 hr2 => ?_)
  refine lv_icmp_eq (tgt := 1240) hx hb dL_law_537 (by decide) (fun _ => ?_) (fun q => absurd (hr1.trans ((eq_odds hE.1 a1 a2).trans hr2.symm)) q)
  exact kk _ _ _ ⟨_, _, _, _, _, _, _, _, _, _, hX, la_same hE⟩ hG
set_option maxHeartbeats 4000000 in
set_option maxRecDepth 100000 in
theorem law_worth {p : Program} {l : Launch} {e : Env} {s : State} {m : MethodId} {below : List Frame} {meth : Method} {c : Code} {H : Heap} {locs : List Loc} {Q : State → Prop} {ls : Array Slot} {sb N b B : Nat} {xs : Nat → Int32} {D : va_G} {cI cZ : ClassId} {ad : Nat → Nat} {ws : va_W} {x3 : Int32} (C : lq s m meth p c sb N xs D cI cZ) (hJ : lj cI cZ ad b B ws) (hB : B + 2000 < 2 ^ 30) (hG : xg_H D s.heap.size ws s.heap H locs) (hl : lv_has ls 4 [(0, .ref sb), (1, .ref (ad b)), (2, .ref (ad (b + 75))), (3, .int x3)]) (i1 : vp_in (x3 + 1) N) (i2 : vp_in (x3 + 2) N) (i3 : vp_in (x3 + 3) N) (i4 : vp_in (x3 + 4) N) (i5 : vp_in (x3 + 5) N) (kk : ∀ (w : va_W) (H1 : Heap) (locs1 : List Loc), lj cI cZ ad b (B + 2000) w → xg_H D s.heap.size w s.heap H1 locs1 → W p l e room_1 s m #[Value.ref sb] below meth c H1 locs1 99 1284 Q (F0 m 1240 ls [])) : W p l e room_1 s m #[Value.ref sb] below meth c H locs 99 1284 Q (F0 m 542 ls []) := by
  obtain ⟨S, hret, hlk, hK, hXs, hsb⟩ := id C
  obtain ⟨hx, hb, hml, hown, hts⟩ := id S
  obtain ⟨a1, e1⟩ : ∃ y : Int32, xs (x3 + 1).toNatClampNeg = y := ⟨_, rfl⟩
  obtain ⟨a2, e2⟩ : ∃ y : Int32, xs (x3 + 2).toNatClampNeg = y := ⟨_, rfl⟩
  obtain ⟨a3, e3⟩ : ∃ y : Int32, xs (x3 + 3).toNatClampNeg = y := ⟨_, rfl⟩
  obtain ⟨a4, e4⟩ : ∃ y : Int32, xs (x3 + 4).toNatClampNeg = y := ⟨_, rfl⟩
  obtain ⟨a5, e5⟩ : ∃ y : Int32, xs (x3 + 5).toNatClampNeg = y := ⟨_, rfl⟩
  obtain ⟨fk, sk, nn, T, TF, TS, g, A, I, L, hX, hE⟩ := hJ
  obtain ⟨hO, hT, hF, hSd, hPo, hP, ⟨ev, wh, dn, rf, db, he, TA, f, u, v, hSo, hA, hTi, hCh⟩, ⟨dn0, la0, re0, u0, v0, hCl, hCc⟩, ⟨ch0, td0, tr0, hGa⟩, ⟨dnY, rfY, huY, TY, hYo, hYt⟩, hM⟩ := id hX
  refine lv_aload_n hx hb dL_law_542 rfl (lv_at hl 1 rfl) ?_
  refine lv_aload_n hx hb dL_law_543 rfl (lv_at hl 0 rfl) ?_
  refine lv_iload_n hx hb dL_law_544 rfl (lv_at hl 3 rfl) ?_
  refine lv_iconst (v := 1) hx hb dL_law_545 (by decide) ?_
  refine lv_iadd hx hb dL_law_546 ?_
  refine lq_ld C hG i1 e1 dL_law_547 ?_
  refine lv_aload_n hx hb dL_law_548 rfl (lv_at hl 0 rfl) ?_
  refine lv_iload_n hx hb dL_law_549 rfl (lv_at hl 3 rfl) ?_
  refine lv_iconst (v := 2) hx hb dL_law_550 (by decide) ?_
  refine lv_iadd hx hb dL_law_551 ?_
  refine lq_ld C hG i2 e2 dL_law_552 ?_
  refine lv_aload_n hx hb dL_law_553 rfl (lv_at hl 0 rfl) ?_
  refine lv_iload_n hx hb dL_law_554 rfl (lv_at hl 3 rfl) ?_
  refine lv_iconst (v := 3) hx hb dL_law_555 (by decide) ?_
  refine lv_iadd hx hb dL_law_556 ?_
  refine lq_ld C hG i3 e3 dL_law_557 ?_
  refine xg_ri (va_runV (As := [.int a1, .int a2, .int a3]) (rest := []) S (mX7_worth l D cI cZ s.heap.size ad ws b fk sk hO T hT a1 a2 a3) (cwV 3 hts gL_law_X7_worth rfl rfl rfl (by decide +kernel) ⟨Nat.le_of_ble_eq_true rfl, Nat.le_of_ble_eq_true rfl⟩) (xg_preV hK hG b hO rfl rfl) rfl rfl hl.1 rfl (lv_room (Nat.le_of_ble_eq_true rfl)) dL_law_558 ⟨Nat.le_of_ble_eq_true rfl, Nat.le_of_ble_eq_true rfl⟩) (fun r1 hr1 => ?_)
  refine lv_aload_n hx hb dL_law_561 rfl (lv_at hl 2 rfl) ?_
  refine lv_aload_n hx hb dL_law_562 rfl (lv_at hl 0 rfl) ?_
  refine lv_iload_n hx hb dL_law_563 rfl (lv_at hl 3 rfl) ?_
  refine lv_iconst (v := 1) hx hb dL_law_564 (by decide) ?_
  refine lv_iadd hx hb dL_law_565 ?_
  refine lq_ld C hG i1 e1 dL_law_566 ?_
  refine lv_aload_n hx hb dL_law_567 rfl (lv_at hl 0 rfl) ?_
  refine lv_iload_n hx hb dL_law_568 rfl (lv_at hl 3 rfl) ?_
  refine lv_iconst (v := 2) hx hb dL_law_569 (by decide) ?_
  refine lv_iadd hx hb dL_law_570 ?_
  refine lq_ld C hG i2 e2 dL_law_571 ?_
  refine lv_aload_n hx hb dL_law_572 rfl (lv_at hl 0 rfl) ?_
  refine lv_iload_n hx hb dL_law_573 rfl (lv_at hl 3 rfl) ?_
  refine lv_iconst (v := 3) hx hb dL_law_574 (by decide) ?_
  refine lv_iadd hx hb dL_law_575 ?_
  refine lq_ld C hG i3 e3 dL_law_576 ?_
  refine xg_ri (va_runV (As := [.int a1, .int a2, .int a3]) (rest := [.int r1]) S (mX8_worth l D cI cZ s.heap.size ad ws (b + 75) A I L hM a1 a2 a3) (cwV 3 hts gL_law_X8_worth rfl rfl rfl (by decide +kernel) ⟨Nat.le_of_ble_eq_true rfl, Nat.le_of_ble_eq_true rfl⟩) (xg_preV hK hG (b + 75) hM.1 rfl rfl) rfl rfl hl.1 rfl (lv_room (Nat.le_of_ble_eq_true rfl)) dL_law_577 ⟨Nat.le_of_ble_eq_true rfl, Nat.le_of_ble_eq_true rfl⟩) (fun r2 hr2 => ?_)
  refine lv_icmp_eq (tgt := 1240) hx hb dL_law_580 (by decide) (fun _ => ?_) (fun q => absurd (hr1.trans ((eq_wor hE.1 a1 a2 a3).trans hr2.symm)) q)
  exact kk _ _ _ ⟨_, _, _, _, _, _, _, _, _, _, hX, la_same hE⟩ hG
set_option maxHeartbeats 4000000 in
set_option maxRecDepth 100000 in
theorem law_does {p : Program} {l : Launch} {e : Env} {s : State} {m : MethodId} {below : List Frame} {meth : Method} {c : Code} {H : Heap} {locs : List Loc} {Q : State → Prop} {ls : Array Slot} {sb N b B : Nat} {xs : Nat → Int32} {D : va_G} {cI cZ : ClassId} {ad : Nat → Nat} {ws : va_W} {x3 : Int32} (C : lq s m meth p c sb N xs D cI cZ) (hJ : lj cI cZ ad b B ws) (hB : B + 2000 < 2 ^ 30) (hG : xg_H D s.heap.size ws s.heap H locs) (hl : lv_has ls 4 [(0, .ref sb), (1, .ref (ad b)), (2, .ref (ad (b + 75))), (3, .int x3)]) (i1 : vp_in (x3 + 1) N) (i2 : vp_in (x3 + 2) N) (i3 : vp_in (x3 + 3) N) (i4 : vp_in (x3 + 4) N) (i5 : vp_in (x3 + 5) N) (kk : ∀ (w : va_W) (H1 : Heap) (locs1 : List Loc), lj cI cZ ad b (B + 2000) w → xg_H D s.heap.size w s.heap H1 locs1 → W p l e room_1 s m #[Value.ref sb] below meth c H1 locs1 99 1284 Q (F0 m 1240 ls [])) : W p l e room_1 s m #[Value.ref sb] below meth c H locs 99 1284 Q (F0 m 585 ls []) := by
  obtain ⟨S, hret, hlk, hK, hXs, hsb⟩ := id C
  obtain ⟨hx, hb, hml, hown, hts⟩ := id S
  obtain ⟨a1, e1⟩ : ∃ y : Int32, xs (x3 + 1).toNatClampNeg = y := ⟨_, rfl⟩
  obtain ⟨a2, e2⟩ : ∃ y : Int32, xs (x3 + 2).toNatClampNeg = y := ⟨_, rfl⟩
  obtain ⟨a3, e3⟩ : ∃ y : Int32, xs (x3 + 3).toNatClampNeg = y := ⟨_, rfl⟩
  obtain ⟨a4, e4⟩ : ∃ y : Int32, xs (x3 + 4).toNatClampNeg = y := ⟨_, rfl⟩
  obtain ⟨a5, e5⟩ : ∃ y : Int32, xs (x3 + 5).toNatClampNeg = y := ⟨_, rfl⟩
  obtain ⟨fk, sk, nn, T, TF, TS, g, A, I, L, hX, hE⟩ := hJ
  obtain ⟨hO, hT, hF, hSd, hPo, hP, ⟨ev, wh, dn, rf, db, he, TA, f, u, v, hSo, hA, hTi, hCh⟩, ⟨dn0, la0, re0, u0, v0, hCl, hCc⟩, ⟨ch0, td0, tr0, hGa⟩, ⟨dnY, rfY, huY, TY, hYo, hYt⟩, hM⟩ := id hX
  refine lv_aload_n hx hb dL_law_585 rfl (lv_at hl 1 rfl) ?_
  refine lv_aload_n hx hb dL_law_586 rfl (lv_at hl 0 rfl) ?_
  refine lv_iload_n hx hb dL_law_587 rfl (lv_at hl 3 rfl) ?_
  refine lv_iconst (v := 1) hx hb dL_law_588 (by decide) ?_
  refine lv_iadd hx hb dL_law_589 ?_
  refine lq_ld C hG i1 e1 dL_law_590 ?_
  refine lv_aload_n hx hb dL_law_591 rfl (lv_at hl 0 rfl) ?_
  refine lv_iload_n hx hb dL_law_592 rfl (lv_at hl 3 rfl) ?_
  refine lv_iconst (v := 2) hx hb dL_law_593 (by decide) ?_
  refine lv_iadd hx hb dL_law_594 ?_
  refine lq_ld C hG i2 e2 dL_law_595 ?_
  refine xg_ri (va_runV (As := [.int a1, .int a2]) (rest := []) S (mX7_does l D cI cZ s.heap.size ad ws b fk sk hO T hT a1 a2) (cwV 2 hts gL_law_X7_does rfl rfl rfl (by decide +kernel) ⟨Nat.le_of_ble_eq_true rfl, Nat.le_of_ble_eq_true rfl⟩) (xg_preV hK hG b hO rfl rfl) rfl rfl hl.1 rfl (lv_room (Nat.le_of_ble_eq_true rfl)) dL_law_596 ⟨Nat.le_of_ble_eq_true rfl, Nat.le_of_ble_eq_true rfl⟩) (fun r1 hr1 => ?_)
  refine lv_aload_n hx hb dL_law_599 rfl (lv_at hl 2 rfl) ?_
  refine lv_aload_n hx hb dL_law_600 rfl (lv_at hl 0 rfl) ?_
  refine lv_iload_n hx hb dL_law_601 rfl (lv_at hl 3 rfl) ?_
  refine lv_iconst (v := 1) hx hb dL_law_602 (by decide) ?_
  refine lv_iadd hx hb dL_law_603 ?_
  refine lq_ld C hG i1 e1 dL_law_604 ?_
  refine lv_aload_n hx hb dL_law_605 rfl (lv_at hl 0 rfl) ?_
  refine lv_iload_n hx hb dL_law_606 rfl (lv_at hl 3 rfl) ?_
  refine lv_iconst (v := 2) hx hb dL_law_607 (by decide) ?_
  refine lv_iadd hx hb dL_law_608 ?_
  refine lq_ld C hG i2 e2 dL_law_609 ?_
  refine xg_ri (va_runV (As := [.int a1, .int a2]) (rest := [.int r1]) S (mX8_does l D cI cZ s.heap.size ad ws (b + 75) A I L hM a1 a2) (cwV 2 hts gL_law_X8_does rfl rfl rfl (by decide +kernel) ⟨Nat.le_of_ble_eq_true rfl, Nat.le_of_ble_eq_true rfl⟩) (xg_preV hK hG (b + 75) hM.1 rfl rfl) rfl rfl hl.1 rfl (lv_room (Nat.le_of_ble_eq_true rfl)) dL_law_610 ⟨Nat.le_of_ble_eq_true rfl, Nat.le_of_ble_eq_true rfl⟩) (fun r2 hr2 => ?_)
  refine lv_icmp_eq (tgt := 1240) hx hb dL_law_613 (by decide) (fun _ => ?_) (fun q => absurd (hr1.trans ((eq_doe hE.1 a1 a2).trans hr2.symm)) q)
  exact kk _ _ _ ⟨_, _, _, _, _, _, _, _, _, _, hX, la_same hE⟩ hG
set_option maxHeartbeats 4000000 in
set_option maxRecDepth 100000 in
theorem law_nerve {p : Program} {l : Launch} {e : Env} {s : State} {m : MethodId} {below : List Frame} {meth : Method} {c : Code} {H : Heap} {locs : List Loc} {Q : State → Prop} {ls : Array Slot} {sb N b B : Nat} {xs : Nat → Int32} {D : va_G} {cI cZ : ClassId} {ad : Nat → Nat} {ws : va_W} {x3 : Int32} (C : lq s m meth p c sb N xs D cI cZ) (hJ : lj cI cZ ad b B ws) (hB : B + 2000 < 2 ^ 30) (hG : xg_H D s.heap.size ws s.heap H locs) (hl : lv_has ls 4 [(0, .ref sb), (1, .ref (ad b)), (2, .ref (ad (b + 75))), (3, .int x3)]) (i1 : vp_in (x3 + 1) N) (i2 : vp_in (x3 + 2) N) (i3 : vp_in (x3 + 3) N) (i4 : vp_in (x3 + 4) N) (i5 : vp_in (x3 + 5) N) (kk : ∀ (w : va_W) (H1 : Heap) (locs1 : List Loc), lj cI cZ ad b (B + 2000) w → xg_H D s.heap.size w s.heap H1 locs1 → W p l e room_1 s m #[Value.ref sb] below meth c H1 locs1 99 1284 Q (F0 m 1240 ls [])) : W p l e room_1 s m #[Value.ref sb] below meth c H locs 99 1284 Q (F0 m 618 ls []) := by
  obtain ⟨S, hret, hlk, hK, hXs, hsb⟩ := id C
  obtain ⟨hx, hb, hml, hown, hts⟩ := id S
  obtain ⟨a1, e1⟩ : ∃ y : Int32, xs (x3 + 1).toNatClampNeg = y := ⟨_, rfl⟩
  obtain ⟨a2, e2⟩ : ∃ y : Int32, xs (x3 + 2).toNatClampNeg = y := ⟨_, rfl⟩
  obtain ⟨a3, e3⟩ : ∃ y : Int32, xs (x3 + 3).toNatClampNeg = y := ⟨_, rfl⟩
  obtain ⟨a4, e4⟩ : ∃ y : Int32, xs (x3 + 4).toNatClampNeg = y := ⟨_, rfl⟩
  obtain ⟨a5, e5⟩ : ∃ y : Int32, xs (x3 + 5).toNatClampNeg = y := ⟨_, rfl⟩
  obtain ⟨fk, sk, nn, T, TF, TS, g, A, I, L, hX, hE⟩ := hJ
  obtain ⟨hO, hT, hF, hSd, hPo, hP, ⟨ev, wh, dn, rf, db, he, TA, f, u, v, hSo, hA, hTi, hCh⟩, ⟨dn0, la0, re0, u0, v0, hCl, hCc⟩, ⟨ch0, td0, tr0, hGa⟩, ⟨dnY, rfY, huY, TY, hYo, hYt⟩, hM⟩ := id hX
  refine lv_aload_n hx hb dL_law_618 rfl (lv_at hl 1 rfl) ?_
  refine lv_aload_n hx hb dL_law_619 rfl (lv_at hl 0 rfl) ?_
  refine lv_iload_n hx hb dL_law_620 rfl (lv_at hl 3 rfl) ?_
  refine lv_iconst (v := 1) hx hb dL_law_621 (by decide) ?_
  refine lv_iadd hx hb dL_law_622 ?_
  refine lq_ld C hG i1 e1 dL_law_623 ?_
  refine lv_aload_n hx hb dL_law_624 rfl (lv_at hl 0 rfl) ?_
  refine lv_iload_n hx hb dL_law_625 rfl (lv_at hl 3 rfl) ?_
  refine lv_iconst (v := 2) hx hb dL_law_626 (by decide) ?_
  refine lv_iadd hx hb dL_law_627 ?_
  refine lq_ld C hG i2 e2 dL_law_628 ?_
  refine xg_ri (va_runV (As := [.int a1, .int a2]) (rest := []) S (mX7_nerve l D cI cZ s.heap.size ad ws b fk sk hO T hT a1 a2) (cwV 2 hts gL_law_X7_nerve rfl rfl rfl (by decide +kernel) ⟨Nat.le_of_ble_eq_true rfl, Nat.le_of_ble_eq_true rfl⟩) (xg_preV hK hG b hO rfl rfl) rfl rfl hl.1 rfl (lv_room (Nat.le_of_ble_eq_true rfl)) dL_law_629 ⟨Nat.le_of_ble_eq_true rfl, Nat.le_of_ble_eq_true rfl⟩) (fun r1 hr1 => ?_)
  refine lv_aload_n hx hb dL_law_632 rfl (lv_at hl 2 rfl) ?_
  refine lv_aload_n hx hb dL_law_633 rfl (lv_at hl 0 rfl) ?_
  refine lv_iload_n hx hb dL_law_634 rfl (lv_at hl 3 rfl) ?_
  refine lv_iconst (v := 1) hx hb dL_law_635 (by decide) ?_
  refine lv_iadd hx hb dL_law_636 ?_
  refine lq_ld C hG i1 e1 dL_law_637 ?_
  refine lv_aload_n hx hb dL_law_638 rfl (lv_at hl 0 rfl) ?_
  refine lv_iload_n hx hb dL_law_639 rfl (lv_at hl 3 rfl) ?_
  refine lv_iconst (v := 2) hx hb dL_law_640 (by decide) ?_
  refine lv_iadd hx hb dL_law_641 ?_
  refine lq_ld C hG i2 e2 dL_law_642 ?_
  refine xg_ri (va_runV (As := [.int a1, .int a2]) (rest := [.int r1]) S (mX8_nerve l D cI cZ s.heap.size ad ws (b + 75) A I L hM a1 a2) (cwV 2 hts gL_law_X8_nerve rfl rfl rfl (by decide +kernel) ⟨Nat.le_of_ble_eq_true rfl, Nat.le_of_ble_eq_true rfl⟩) (xg_preV hK hG (b + 75) hM.1 rfl rfl) rfl rfl hl.1 rfl (lv_room (Nat.le_of_ble_eq_true rfl)) dL_law_643 ⟨Nat.le_of_ble_eq_true rfl, Nat.le_of_ble_eq_true rfl⟩) (fun r2 hr2 => ?_)
  refine lv_icmp_eq (tgt := 1240) hx hb dL_law_646 (by decide) (fun _ => ?_) (fun q => absurd (hr1.trans ((eq_ner hE.1 a1 a2).trans hr2.symm)) q)
  exact kk _ _ _ ⟨_, _, _, _, _, _, _, _, _, _, hX, la_same hE⟩ hG
