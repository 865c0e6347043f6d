set_option maxHeartbeats 4000000 in
set_option maxRecDepth 100000 in
theorem law_likely {p : Program} {l : Launch} {e : Env} {s : State} {m : MethodId} {below : List Frame} {meth : Method} {c : Code} {H : Heap} {locs : List Loc} {Q : State → Prop} {ls : Array Slot} {sb N b B : Nat} {xs : Nat → Int32} {D : va_G} {cI cZ : ClassId} {ad : Nat → Nat} {ws : va_W} {x3 : Int32} (C : lq s m meth p c sb N xs D cI cZ) (hJ : lj cI cZ ad b B ws) (hB : B + 2000 < 2 ^ 30) (hG : xg_H D s.heap.size ws s.heap H locs) (hl : lv_has ls 4 [(0, .ref sb), (1, .ref (ad b)), (2, .ref (ad (b + 75))), (3, .int x3)]) (i1 : vp_in (x3 + 1) N) (i2 : vp_in (x3 + 2) N) (i3 : vp_in (x3 + 3) N) (i4 : vp_in (x3 + 4) N) (i5 : vp_in (x3 + 5) N) (kk : ∀ (w : va_W) (H1 : Heap) (locs1 : List Loc), lj cI cZ ad b (B + 2000) w → xg_H D s.heap.size w s.heap H1 locs1 → W p l e room_1 s m #[Value.ref sb] below meth c H1 locs1 99 1284 Q (F0 m 1240 ls [])) : W p l e room_1 s m #[Value.ref sb] below meth c H locs 99 1284 Q (F0 m 1006 ls []) := by
  obtain ⟨S, hret, hlk, hK, hXs, hsb⟩ := id C
  obtain ⟨hx, hb, hml, hown, hts⟩ := id S
  obtain ⟨a1, e1⟩ : ∃ y : Int32, xs (x3 + 1).toNatClampNeg = y := ⟨_, rfl⟩
  obtain ⟨a2, e2⟩ : ∃ y : Int32, xs (x3 + 2).toNatClampNeg = y := ⟨_, rfl⟩
  obtain ⟨a3, e3⟩ : ∃ y : Int32, xs (x3 + 3).toNatClampNeg = y := ⟨_, rfl⟩
  obtain ⟨a4, e4⟩ : ∃ y : Int32, xs (x3 + 4).toNatClampNeg = y := ⟨_, rfl⟩
  obtain ⟨a5, e5⟩ : ∃ y : Int32, xs (x3 + 5).toNatClampNeg = y := ⟨_, rfl⟩
  obtain ⟨fk, sk, nn, T, TF, TS, g, A, I, L, hX, hE⟩ := hJ
  obtain ⟨hO, hT, hF, hSd, hPo, hP, ⟨ev, wh, dn, rf, db, he, TA, f, u, v, hSo, hA, hTi, hCh⟩, ⟨dn0, la0, re0, u0, v0, hCl, hCc⟩, ⟨ch0, td0, tr0, hGa⟩, ⟨dnY, rfY, huY, TY, hYo, hYt⟩, hM⟩ := id hX
  refine lv_aload_n hx hb dL_law_1006 rfl (lv_at hl 1 rfl) ?_
  refine lv_aload_n hx hb dL_law_1007 rfl (lv_at hl 0 rfl) ?_
  refine lv_iload_n hx hb dL_law_1008 rfl (lv_at hl 3 rfl) ?_
  refine lv_iconst (v := 1) hx hb dL_law_1009 (by decide) ?_
  refine lv_iadd hx hb dL_law_1010 ?_
  refine lq_ld C hG i1 e1 dL_law_1011 ?_
  refine lv_aload_n hx hb dL_law_1012 rfl (lv_at hl 0 rfl) ?_
  refine lv_iload_n hx hb dL_law_1013 rfl (lv_at hl 3 rfl) ?_
  refine lv_iconst (v := 2) hx hb dL_law_1014 (by decide) ?_
  refine lv_iadd hx hb dL_law_1015 ?_
  refine lq_ld C hG i2 e2 dL_law_1016 ?_
  refine xg_ri (va_runV (As := [.int a1, .int a2]) (rest := []) S (mX7_likely l D cI cZ s.heap.size ad ws b fk sk hO T hT a1 a2) (cwV 2 hts gL_law_X7_likely rfl rfl rfl (by decide +kernel) ⟨Nat.le_of_ble_eq_true rfl, Nat.le_of_ble_eq_true rfl⟩) (xg_preV hK hG b hO rfl rfl) rfl rfl hl.1 rfl (lv_room (Nat.le_of_ble_eq_true rfl)) dL_law_1017 ⟨Nat.le_of_ble_eq_true rfl, Nat.le_of_ble_eq_true rfl⟩) (fun r1 hr1 => ?_)
  refine lv_aload_n hx hb dL_law_1020 rfl (lv_at hl 2 rfl) ?_
  refine lv_aload_n hx hb dL_law_1021 rfl (lv_at hl 0 rfl) ?_
  refine lv_iload_n hx hb dL_law_1022 rfl (lv_at hl 3 rfl) ?_
  refine lv_iconst (v := 1) hx hb dL_law_1023 (by decide) ?_
  refine lv_iadd hx hb dL_law_1024 ?_
  refine lq_ld C hG i1 e1 dL_law_1025 ?_
  refine lv_aload_n hx hb dL_law_1026 rfl (lv_at hl 0 rfl) ?_
  refine lv_iload_n hx hb dL_law_1027 rfl (lv_at hl 3 rfl) ?_
  refine lv_iconst (v := 2) hx hb dL_law_1028 (by decide) ?_
  refine lv_iadd hx hb dL_law_1029 ?_
  refine lq_ld C hG i2 e2 dL_law_1030 ?_
  refine xg_ri (va_runV (As := [.int a1, .int a2]) (rest := [.int r1]) S (mX8_likely l D cI cZ s.heap.size ad ws (b + 75) A I L hM a1 a2) (cwV 2 hts gL_law_X8_likely rfl rfl rfl (by decide +kernel) ⟨Nat.le_of_ble_eq_true rfl, Nat.le_of_ble_eq_true rfl⟩) (xg_preV hK hG (b + 75) hM.1 rfl rfl) rfl rfl hl.1 rfl (lv_room (Nat.le_of_ble_eq_true rfl)) dL_law_1031 ⟨Nat.le_of_ble_eq_true rfl, Nat.le_of_ble_eq_true rfl⟩) (fun r2 hr2 => ?_)
  refine lv_icmp_eq (tgt := 1240) hx hb dL_law_1034 (by decide) (fun _ => ?_) (fun q => absurd (hr1.trans ((eq_lik hE.1 a1 a2).trans hr2.symm)) q)
  exact kk _ _ _ ⟨_, _, _, _, _, _, _, _, _, _, hX, la_same hE⟩ hG
set_option maxHeartbeats 4000000 in
set_option maxRecDepth 100000 in
theorem law_seen {p : Program} {l : Launch} {e : Env} {s : State} {m : MethodId} {below : List Frame} {meth : Method} {c : Code} {H : Heap} {locs : List Loc} {Q : State → Prop} {ls : Array Slot} {sb N b B : Nat} {xs : Nat → Int32} {D : va_G} {cI cZ : ClassId} {ad : Nat → Nat} {ws : va_W} {x3 : Int32} (C : lq s m meth p c sb N xs D cI cZ) (hJ : lj cI cZ ad b B ws) (hB : B + 2000 < 2 ^ 30) (hG : xg_H D s.heap.size ws s.heap H locs) (hl : lv_has ls 4 [(0, .ref sb), (1, .ref (ad b)), (2, .ref (ad (b + 75))), (3, .int x3)]) (i1 : vp_in (x3 + 1) N) (i2 : vp_in (x3 + 2) N) (i3 : vp_in (x3 + 3) N) (i4 : vp_in (x3 + 4) N) (i5 : vp_in (x3 + 5) N) (kk : ∀ (w : va_W) (H1 : Heap) (locs1 : List Loc), lj cI cZ ad b (B + 2000) w → xg_H D s.heap.size w s.heap H1 locs1 → W p l e room_1 s m #[Value.ref sb] below meth c H1 locs1 99 1284 Q (F0 m 1240 ls [])) : W p l e room_1 s m #[Value.ref sb] below meth c H locs 99 1284 Q (F0 m 1039 ls []) := by
  obtain ⟨S, hret, hlk, hK, hXs, hsb⟩ := id C
  obtain ⟨hx, hb, hml, hown, hts⟩ := id S
  obtain ⟨a1, e1⟩ : ∃ y : Int32, xs (x3 + 1).toNatClampNeg = y := ⟨_, rfl⟩
  obtain ⟨a2, e2⟩ : ∃ y : Int32, xs (x3 + 2).toNatClampNeg = y := ⟨_, rfl⟩
  obtain ⟨a3, e3⟩ : ∃ y : Int32, xs (x3 + 3).toNatClampNeg = y := ⟨_, rfl⟩
  obtain ⟨a4, e4⟩ : ∃ y : Int32, xs (x3 + 4).toNatClampNeg = y := ⟨_, rfl⟩
  obtain ⟨a5, e5⟩ : ∃ y : Int32, xs (x3 + 5).toNatClampNeg = y := ⟨_, rfl⟩
  obtain ⟨fk, sk, nn, T, TF, TS, g, A, I, L, hX, hE⟩ := hJ
  obtain ⟨hO, hT, hF, hSd, hPo, hP, ⟨ev, wh, dn, rf, db, he, TA, f, u, v, hSo, hA, hTi, hCh⟩, ⟨dn0, la0, re0, u0, v0, hCl, hCc⟩, ⟨ch0, td0, tr0, hGa⟩, ⟨dnY, rfY, huY, TY, hYo, hYt⟩, hM⟩ := id hX
  obtain ⟨ns, hn6, hns8, hnsT, h9⟩ := la_ns hE
  refine lv_aload_n hx hb dL_law_1039 rfl (lv_at hl 1 rfl) ?_
  refine lv_aload_n hx hb dL_law_1040 rfl (lv_at hl 0 rfl) ?_
  refine lv_iload_n hx hb dL_law_1041 rfl (lv_at hl 3 rfl) ?_
  refine lv_iconst (v := 1) hx hb dL_law_1042 (by decide) ?_
  refine lv_iadd hx hb dL_law_1043 ?_
  refine lq_ld C hG i1 e1 dL_law_1044 ?_
  refine lv_aload_n hx hb dL_law_1045 rfl (lv_at hl 0 rfl) ?_
  refine lv_iload_n hx hb dL_law_1046 rfl (lv_at hl 3 rfl) ?_
  refine lv_iconst (v := 2) hx hb dL_law_1047 (by decide) ?_
  refine lv_iadd hx hb dL_law_1048 ?_
  refine lq_ld C hG i2 e2 dL_law_1049 ?_
  refine lv_aload_n hx hb dL_law_1050 rfl (lv_at hl 0 rfl) ?_
  refine lv_iload_n hx hb dL_law_1051 rfl (lv_at hl 3 rfl) ?_
  refine lv_iconst (v := 3) hx hb dL_law_1052 (by decide) ?_
  refine lv_iadd hx hb dL_law_1053 ?_
  refine lq_ld C hG i3 e3 dL_law_1054 ?_
  refine xg_mi (va_runV (As := [.int a1, .int a2, .int a3]) (rest := []) S (mX7_seen l D cI cZ s.heap.size ad ws b fk sk hO T hT a1 a2 a3) (cwV 3 hts gL_law_X7_seen rfl rfl rfl (by decide +kernel) ⟨Nat.le_of_ble_eq_true rfl, Nat.le_of_ble_eq_true rfl⟩) (xg_preV hK hG b hO rfl rfl) rfl rfl hl.1 rfl (lv_room (Nat.le_of_ble_eq_true rfl)) dL_law_1055 ⟨Nat.le_of_ble_eq_true rfl, Nat.le_of_ble_eq_true rfl⟩) hG (fun r1 w1 H locs hq1 hG => ?_)
  obtain ⟨hr1, -, hT1, hS1⟩ := hq1
  have hX := hX.now hT1 hS1
  have hM := hX.2.2.2.2.2.2.2.2.2.2
  refine lv_aload_n hx hb dL_law_1058 rfl (lv_at hl 2 rfl) ?_
  refine lv_aload_n hx hb dL_law_1059 rfl (lv_at hl 0 rfl) ?_
  refine lv_iload_n hx hb dL_law_1060 rfl (lv_at hl 3 rfl) ?_
  refine lv_iconst (v := 1) hx hb dL_law_1061 (by decide) ?_
  refine lv_iadd hx hb dL_law_1062 ?_
  refine lq_ld C hG i1 e1 dL_law_1063 ?_
  refine lv_aload_n hx hb dL_law_1064 rfl (lv_at hl 0 rfl) ?_
  refine lv_iload_n hx hb dL_law_1065 rfl (lv_at hl 3 rfl) ?_
  refine lv_iconst (v := 2) hx hb dL_law_1066 (by decide) ?_
  refine lv_iadd hx hb dL_law_1067 ?_
  refine lq_ld C hG i2 e2 dL_law_1068 ?_
  refine lv_aload_n hx hb dL_law_1069 rfl (lv_at hl 0 rfl) ?_
  refine lv_iload_n hx hb dL_law_1070 rfl (lv_at hl 3 rfl) ?_
  refine lv_iconst (v := 3) hx hb dL_law_1071 (by decide) ?_
  refine lv_iadd hx hb dL_law_1072 ?_
  refine lq_ld C hG i3 e3 dL_law_1073 ?_
  refine xg_mi (va_runV (As := [.int a1, .int a2, .int a3]) (rest := [.int r1]) S (mX8_seen l D cI cZ s.heap.size ad w1 (b + 75) A I L hM a1 a2 a3 ns hns8 hn6) (cwV 3 hts gL_law_X8_seen rfl rfl rfl (by decide +kernel) ⟨Nat.le_of_ble_eq_true rfl, Nat.le_of_ble_eq_true rfl⟩) (xg_preV hK hG (b + 75) hM.1 rfl rfl) rfl rfl hl.1 rfl (lv_room (Nat.le_of_ble_eq_true rfl)) dL_law_1074 ⟨Nat.le_of_ble_eq_true rfl, Nat.le_of_ble_eq_true rfl⟩) hG (fun r2 w2 H locs hq2 hG => ?_)
  obtain ⟨hr2, hM2, hS2⟩ := hq2
  have hX := hX.M hM2 hS2
  refine lv_icmp_eq (tgt := 1240) hx hb dL_law_1077 (by decide) (fun _ => ?_) (fun q => absurd (hr1.trans (((eq_see hE.1 hE.2.1 a1 a2 a3).2.2).trans hr2.symm)) q)
  exact kk _ _ _ ⟨_, _, _, _, _, _, _, _, _, _, hX, la_seen hE a1 a2 a3⟩ hG
set_option maxHeartbeats 4000000 in
set_option maxRecDepth 100000 in
theorem law_forget {p : Program} {l : Launch} {e : Env} {s : State} {m : MethodId} {below : List Frame} {meth : Method} {c : Code} {H : Heap} {locs : List Loc} {Q : State → Prop} {ls : Array Slot} {sb N b B : Nat} {xs : Nat → Int32} {D : va_G} {cI cZ : ClassId} {ad : Nat → Nat} {ws : va_W} {x3 : Int32} (C : lq s m meth p c sb N xs D cI cZ) (hJ : lj cI cZ ad b B ws) (hB : B + 2000 < 2 ^ 30) (hG : xg_H D s.heap.size ws s.heap H locs) (hl : lv_has ls 4 [(0, .ref sb), (1, .ref (ad b)), (2, .ref (ad (b + 75))), (3, .int x3)]) (i1 : vp_in (x3 + 1) N) (i2 : vp_in (x3 + 2) N) (i3 : vp_in (x3 + 3) N) (i4 : vp_in (x3 + 4) N) (i5 : vp_in (x3 + 5) N) (kk : ∀ (w : va_W) (H1 : Heap) (locs1 : List Loc), lj cI cZ ad b (B + 2000) w → xg_H D s.heap.size w s.heap H1 locs1 → W p l e room_1 s m #[Value.ref sb] below meth c H1 locs1 99 1284 Q (F0 m 1240 ls [])) : W p l e room_1 s m #[Value.ref sb] below meth c H locs 99 1284 Q (F0 m 1082 ls []) := by
  obtain ⟨S, hret, hlk, hK, hXs, hsb⟩ := id C
  obtain ⟨hx, hb, hml, hown, hts⟩ := id S
  obtain ⟨a1, e1⟩ : ∃ y : Int32, xs (x3 + 1).toNatClampNeg = y := ⟨_, rfl⟩
  obtain ⟨a2, e2⟩ : ∃ y : Int32, xs (x3 + 2).toNatClampNeg = y := ⟨_, rfl⟩
  obtain ⟨a3, e3⟩ : ∃ y : Int32, xs (x3 + 3).toNatClampNeg = y := ⟨_, rfl⟩
  obtain ⟨a4, e4⟩ : ∃ y : Int32, xs (x3 + 4).toNatClampNeg = y := ⟨_, rfl⟩
  obtain ⟨a5, e5⟩ : ∃ y : Int32, xs (x3 + 5).toNatClampNeg = y := ⟨_, rfl⟩
  obtain ⟨fk, sk, nn, T, TF, TS, g, A, I, L, hX, hE⟩ := hJ
  obtain ⟨hO, hT, hF, hSd, hPo, hP, ⟨ev, wh, dn, rf, db, he, TA, f, u, v, hSo, hA, hTi, hCh⟩, ⟨dn0, la0, re0, u0, v0, hCl, hCc⟩, ⟨ch0, td0, tr0, hGa⟩, ⟨dnY, rfY, huY, TY, hYo, hYt⟩, hM⟩ := id hX
  refine lv_aload_n hx hb dL_law_1082 rfl (lv_at hl 1 rfl) ?_
  refine xg_mi (va_runV (As := []) (rest := []) S (mX7_forget l D cI cZ s.heap.size ad ws b fk sk hO T hT) (cwV 0 hts gL_law_X7_forget rfl rfl rfl (by decide +kernel) ⟨Nat.le_of_ble_eq_true rfl, Nat.le_of_ble_eq_true rfl⟩) (xg_preV hK hG b hO rfl rfl) rfl rfl hl.1 rfl (lv_room (Nat.le_of_ble_eq_true rfl)) dL_law_1083 ⟨Nat.le_of_ble_eq_true rfl, Nat.le_of_ble_eq_true rfl⟩) hG (fun r1 w1 H locs hq1 hG => ?_)
  obtain ⟨hr1, -, hT1, hS1⟩ := hq1
  have hX := hX.now hT1 hS1
  have hM := hX.2.2.2.2.2.2.2.2.2.2
  refine lv_aload_n hx hb dL_law_1086 rfl (lv_at hl 2 rfl) ?_
  refine xg_mi (va_runV (As := []) (rest := [.int r1]) S (mX8_forget l D cI cZ s.heap.size ad w1 (b + 75) A I L hM) (cwV 0 hts gL_law_X8_forget rfl rfl rfl (by decide +kernel) ⟨Nat.le_of_ble_eq_true rfl, Nat.le_of_ble_eq_true rfl⟩) (xg_preV hK hG (b + 75) hM.1 rfl rfl) rfl rfl hl.1 rfl (lv_room (Nat.le_of_ble_eq_true rfl)) dL_law_1087 ⟨Nat.le_of_ble_eq_true rfl, Nat.le_of_ble_eq_true rfl⟩) hG (fun r2 w2 H locs hq2 hG => ?_)
  obtain ⟨hr2, hM2, hS2⟩ := hq2
  have hX := hX.M hM2 hS2
  refine lv_icmp_eq (tgt := 1240) hx hb dL_law_1090 (by decide) (fun _ => ?_) (fun q => absurd (hr1.trans ((hE.1.2.2.2.2).trans hr2.symm)) q)
  exact kk _ _ _ ⟨_, _, _, _, _, _, _, _, _, _, hX, la_forget hE⟩ hG
set_option maxHeartbeats 4000000 in
set_option maxRecDepth 100000 in
theorem law_prides {p : Program} {l : Launch} {e : Env} {s : State} {m : MethodId} {below : List Frame} {meth : Method} {c : Code} {H : Heap} {locs : List Loc} {Q : State → Prop} {ls : Array Slot} {sb N b B : Nat} {xs : Nat → Int32} {D : va_G} {cI cZ : ClassId} {ad : Nat → Nat} {ws : va_W} {x3 : Int32} (C : lq s m meth p c sb N xs D cI cZ) (hJ : lj cI cZ ad b B ws) (hB : B + 2000 < 2 ^ 30) (hG : xg_H D s.heap.size ws s.heap H locs) (hl : lv_has ls 4 [(0, .ref sb), (1, .ref (ad b)), (2, .ref (ad (b + 75))), (3, .int x3)]) (i1 : vp_in (x3 + 1) N) (i2 : vp_in (x3 + 2) N) (i3 : vp_in (x3 + 3) N) (i4 : vp_in (x3 + 4) N) (i5 : vp_in (x3 + 5) N) (kk : ∀ (w : va_W) (H1 : Heap) (locs1 : List Loc), lj cI cZ ad b (B + 2000) w → xg_H D s.heap.size w s.heap H1 locs1 → W p l e room_1 s m #[Value.ref sb] below meth c H1 locs1 99 1284 Q (F0 m 1240 ls [])) : W p l e room_1 s m #[Value.ref sb] below meth c H locs 99 1284 Q (F0 m 1095 ls []) := by
  obtain ⟨S, hret, hlk, hK, hXs, hsb⟩ := id C
  obtain ⟨hx, hb, hml, hown, hts⟩ := id S
  obtain ⟨a1, e1⟩ : ∃ y : Int32, xs (x3 + 1).toNatClampNeg = y := ⟨_, rfl⟩
  obtain ⟨a2, e2⟩ : ∃ y : Int32, xs (x3 + 2).toNatClampNeg = y := ⟨_, rfl⟩
  obtain ⟨a3, e3⟩ : ∃ y : Int32, xs (x3 + 3).toNatClampNeg = y := ⟨_, rfl⟩
  obtain ⟨a4, e4⟩ : ∃ y : Int32, xs (x3 + 4).toNatClampNeg = y := ⟨_, rfl⟩
  obtain ⟨a5, e5⟩ : ∃ y : Int32, xs (x3 + 5).toNatClampNeg = y := ⟨_, rfl⟩
  obtain ⟨fk, sk, nn, T, TF, TS, g, A, I, L, hX, hE⟩ := hJ
  obtain ⟨hO, hT, hF, hSd, hPo, hP, ⟨ev, wh, dn, rf, db, he, TA, f, u, v, hSo, hA, hTi, hCh⟩, ⟨dn0, la0, re0, u0, v0, hCl, hCc⟩, ⟨ch0, td0, tr0, hGa⟩, ⟨dnY, rfY, huY, TY, hYo, hYt⟩, hM⟩ := id hX
  obtain ⟨ns, hn6, hns8, hnsT, h9⟩ := la_ns hE
  refine lv_aload_n hx hb dL_law_1095 rfl (lv_at hl 1 rfl) ?_
  refine lv_aload_n hx hb dL_law_1096 rfl (lv_at hl 0 rfl) ?_
  refine lv_iload_n hx hb dL_law_1097 rfl (lv_at hl 3 rfl) ?_
  refine lv_iconst (v := 1) hx hb dL_law_1098 (by decide) ?_
  refine lv_iadd hx hb dL_law_1099 ?_
  refine lq_ld C hG i1 e1 dL_law_1100 ?_
  refine lv_aload_n hx hb dL_law_1101 rfl (lv_at hl 0 rfl) ?_
  refine lv_iload_n hx hb dL_law_1102 rfl (lv_at hl 3 rfl) ?_
  refine lv_iconst (v := 2) hx hb dL_law_1103 (by decide) ?_
  refine lv_iadd hx hb dL_law_1104 ?_
  refine lq_ld C hG i2 e2 dL_law_1105 ?_
  refine xg_ri (va_runV (As := [.int a1, .int a2]) (rest := []) S (mX7_prides l D cI cZ s.heap.size ad ws b fk sk hO T hT a1 a2 ns hnsT hn6) (cwV 2 hts gL_law_X7_prides rfl rfl rfl (by decide +kernel) ⟨Nat.le_of_ble_eq_true rfl, Nat.le_of_ble_eq_true rfl⟩) (xg_preV hK hG b hO rfl rfl) rfl rfl hl.1 rfl (lv_room (Nat.le_of_ble_eq_true rfl)) dL_law_1106 ⟨Nat.le_of_ble_eq_true rfl, Nat.le_of_ble_eq_true rfl⟩) (fun r1 hr1 => ?_)
  refine lv_aload_n hx hb dL_law_1109 rfl (lv_at hl 2 rfl) ?_
  refine lv_aload_n hx hb dL_law_1110 rfl (lv_at hl 0 rfl) ?_
  refine lv_iload_n hx hb dL_law_1111 rfl (lv_at hl 3 rfl) ?_
  refine lv_iconst (v := 1) hx hb dL_law_1112 (by decide) ?_
  refine lv_iadd hx hb dL_law_1113 ?_
  refine lq_ld C hG i1 e1 dL_law_1114 ?_
  refine lv_aload_n hx hb dL_law_1115 rfl (lv_at hl 0 rfl) ?_
  refine lv_iload_n hx hb dL_law_1116 rfl (lv_at hl 3 rfl) ?_
  refine lv_iconst (v := 2) hx hb dL_law_1117 (by decide) ?_
  refine lv_iadd hx hb dL_law_1118 ?_
  refine lq_ld C hG i2 e2 dL_law_1119 ?_
  refine xg_ri (va_runV (As := [.int a1, .int a2]) (rest := [.int r1]) S (mX8_prides l D cI cZ s.heap.size ad ws (b + 75) A I L hM a1 a2 ns hns8 hn6) (cwV 2 hts gL_law_X8_prides rfl rfl rfl (by decide +kernel) ⟨Nat.le_of_ble_eq_true rfl, Nat.le_of_ble_eq_true rfl⟩) (xg_preV hK hG (b + 75) hM.1 rfl rfl) rfl rfl hl.1 rfl (lv_room (Nat.le_of_ble_eq_true rfl)) dL_law_1120 ⟨Nat.le_of_ble_eq_true rfl, Nat.le_of_ble_eq_true rfl⟩) (fun r2 hr2 => ?_)
  refine lv_icmp_eq (tgt := 1240) hx hb dL_law_1123 (by decide) (fun _ => ?_) (fun q => absurd (hr1.trans ((eq_pri hE.1 hn6 h9 a1 a2).trans hr2.symm)) q)
  exact kk _ _ _ ⟨_, _, _, _, _, _, _, _, _, _, hX, la_same hE⟩ hG
set_option maxHeartbeats 4000000 in
set_option maxRecDepth 100000 in
theorem law_year {p : Program} {l : Launch} {e : Env} {s : State} {m : MethodId} {below : List Frame} {meth : Method} {c : Code} {H : Heap} {locs : List Loc} {Q : State → Prop} {ls : Array Slot} {sb N b B : Nat} {xs : Nat → Int32} {D : va_G} {cI cZ : ClassId} {ad : Nat → Nat} {ws : va_W} {x3 : Int32} (C : lq s m meth p c sb N xs D cI cZ) (hJ : lj cI cZ ad b B ws) (hB : B + 2000 < 2 ^ 30) (hG : xg_H D s.heap.size ws s.heap H locs) (hl : lv_has ls 4 [(0, .ref sb), (1, .ref (ad b)), (2, .ref (ad (b + 75))), (3, .int x3)]) (i1 : vp_in (x3 + 1) N) (i2 : vp_in (x3 + 2) N) (i3 : vp_in (x3 + 3) N) (i4 : vp_in (x3 + 4) N) (i5 : vp_in (x3 + 5) N) (kk : ∀ (w : va_W) (H1 : Heap) (locs1 : List Loc), lj cI cZ ad b (B + 2000) w → xg_H D s.heap.size w s.heap H1 locs1 → W p l e room_1 s m #[Value.ref sb] below meth c H1 locs1 99 1284 Q (F0 m 1240 ls [])) : W p l e room_1 s m #[Value.ref sb] below meth c H locs 99 1284 Q (F0 m 1128 ls []) := by
  obtain ⟨S, hret, hlk, hK, hXs, hsb⟩ := id C
  obtain ⟨hx, hb, hml, hown, hts⟩ := id S
  obtain ⟨a1, e1⟩ : ∃ y : Int32, xs (x3 + 1).toNatClampNeg = y := ⟨_, rfl⟩
  obtain ⟨a2, e2⟩ : ∃ y : Int32, xs (x3 + 2).toNatClampNeg = y := ⟨_, rfl⟩
  obtain ⟨a3, e3⟩ : ∃ y : Int32, xs (x3 + 3).toNatClampNeg = y := ⟨_, rfl⟩
  obtain ⟨a4, e4⟩ : ∃ y : Int32, xs (x3 + 4).toNatClampNeg = y := ⟨_, rfl⟩
  obtain ⟨a5, e5⟩ : ∃ y : Int32, xs (x3 + 5).toNatClampNeg = y := ⟨_, rfl⟩
  obtain ⟨fk, sk, nn, T, TF, TS, g, A, I, L, hX, hE⟩ := hJ
  obtain ⟨hO, hT, hF, hSd, hPo, hP, ⟨ev, wh, dn, rf, db, he, TA, f, u, v, hSo, hA, hTi, hCh⟩, ⟨dn0, la0, re0, u0, v0, hCl, hCc⟩, ⟨ch0, td0, tr0, hGa⟩, ⟨dnY, rfY, huY, TY, hYo, hYt⟩, hM⟩ := id hX
  refine lv_aload_n hx hb dL_law_1128 rfl (lv_at hl 1 rfl) ?_
  refine lv_aload_n hx hb dL_law_1129 rfl (lv_at hl 0 rfl) ?_
  refine lv_iload_n hx hb dL_law_1130 rfl (lv_at hl 3 rfl) ?_
  refine lv_iconst (v := 1) hx hb dL_law_1131 (by decide) ?_
  refine lv_iadd hx hb dL_law_1132 ?_
  refine lq_ld C hG i1 e1 dL_law_1133 ?_
  refine lv_aload_n hx hb dL_law_1134 rfl (lv_at hl 0 rfl) ?_
  refine lv_iload_n hx hb dL_law_1135 rfl (lv_at hl 3 rfl) ?_
  refine lv_iconst (v := 2) hx hb dL_law_1136 (by decide) ?_
  refine lv_iadd hx hb dL_law_1137 ?_
  refine lq_ld C hG i2 e2 dL_law_1138 ?_
  refine lv_aload_n hx hb dL_law_1139 rfl (lv_at hl 0 rfl) ?_
  refine lv_iload_n hx hb dL_law_1140 rfl (lv_at hl 3 rfl) ?_
  refine lv_iconst (v := 3) hx hb dL_law_1141 (by decide) ?_
  refine lv_iadd hx hb dL_law_1142 ?_
  refine lq_ld C hG i3 e3 dL_law_1143 ?_
  refine xg_mi (va_runV (As := [.int a1, .int a2, .int a3]) (rest := []) S (mX7_year l D cI cZ s.heap.size ad ws b fk sk hO T hT dnY rfY huY hYo TY hYt a1 a2 a3) (cwV 3 hts gL_law_X7_year rfl rfl rfl (by decide +kernel) ⟨Nat.le_of_ble_eq_true rfl, Nat.le_of_ble_eq_true rfl⟩) (xg_preV hK hG b hO rfl rfl) rfl rfl hl.1 rfl (lv_room (Nat.le_of_ble_eq_true rfl)) dL_law_1144 ⟨Nat.le_of_ble_eq_true rfl, Nat.le_of_ble_eq_true rfl⟩) hG (fun r1 w1 H locs hq1 hG => ?_)
  obtain ⟨hr1, -, -, ⟨d1, d2, d3, hYo1⟩, ⟨d4, hYt1⟩, hS1⟩ := hq1
  have hX := hX.ye ⟨d1, d2, d3, d4, hYo1, hYt1⟩ hS1
  have hM := hX.2.2.2.2.2.2.2.2.2.2
  refine lv_aload_n hx hb dL_law_1147 rfl (lv_at hl 2 rfl) ?_
  refine lv_aload_n hx hb dL_law_1148 rfl (lv_at hl 0 rfl) ?_
  refine lv_iload_n hx hb dL_law_1149 rfl (lv_at hl 3 rfl) ?_
  refine lv_iconst (v := 1) hx hb dL_law_1150 (by decide) ?_
  refine lv_iadd hx hb dL_law_1151 ?_
  refine lq_ld C hG i1 e1 dL_law_1152 ?_
  refine lv_aload_n hx hb dL_law_1153 rfl (lv_at hl 0 rfl) ?_
  refine lv_iload_n hx hb dL_law_1154 rfl (lv_at hl 3 rfl) ?_
  refine lv_iconst (v := 2) hx hb dL_law_1155 (by decide) ?_
  refine lv_iadd hx hb dL_law_1156 ?_
  refine lq_ld C hG i2 e2 dL_law_1157 ?_
  refine lv_aload_n hx hb dL_law_1158 rfl (lv_at hl 0 rfl) ?_
  refine lv_iload_n hx hb dL_law_1159 rfl (lv_at hl 3 rfl) ?_
  refine lv_iconst (v := 3) hx hb dL_law_1160 (by decide) ?_
  refine lv_iadd hx hb dL_law_1161 ?_
  refine lq_ld C hG i3 e3 dL_law_1162 ?_
  refine xg_mi (va_runV (As := [.int a1, .int a2, .int a3]) (rest := [.int r1]) S (mX8_year l D cI cZ s.heap.size ad w1 (b + 75) A I L hM a1 a2 a3) (cwV 3 hts gL_law_X8_year rfl rfl rfl (by decide +kernel) ⟨Nat.le_of_ble_eq_true rfl, Nat.le_of_ble_eq_true rfl⟩) (xg_preV hK hG (b + 75) hM.1 rfl rfl) rfl rfl hl.1 rfl (lv_room (Nat.le_of_ble_eq_true rfl)) dL_law_1163 ⟨Nat.le_of_ble_eq_true rfl, Nat.le_of_ble_eq_true rfl⟩) hG (fun r2 w2 H locs hq2 hG => ?_)
  obtain ⟨hr2, hM2, hS2⟩ := hq2
  have hX := hX.M hM2 hS2
  refine lv_icmp_eq (tgt := 1240) hx hb dL_law_1166 (by decide) (fun _ => ?_) (fun q => absurd (hr1.trans ((eq_yea hE.1 hE.2.1 hB a1 a2 a3).trans hr2.symm)) q)
  exact kk _ _ _ ⟨_, _, _, _, _, _, _, _, _, _, hX, la_year hE hB a1 a2 a3⟩ hG
set_option maxHeartbeats 4000000 in
set_option maxRecDepth 100000 in
theorem law_image {p : Program} {l : Launch} {e : Env} {s : State} {m : MethodId} {below : List Frame} {meth : Method} {c : Code} {H : Heap} {locs : List Loc} {Q : State → Prop} {ls : Array Slot} {sb N b B : Nat} {xs : Nat → Int32} {D : va_G} {cI cZ : ClassId} {ad : Nat → Nat} {ws : va_W} {x3 : Int32} (C : lq s m meth p c sb N xs D cI cZ) (hJ : lj cI cZ ad b B ws) (hB : B + 2000 < 2 ^ 30) (hG : xg_H D s.heap.size ws s.heap H locs) (hl : lv_has ls 4 [(0, .ref sb), (1, .ref (ad b)), (2, .ref (ad (b + 75))), (3, .int x3)]) (i1 : vp_in (x3 + 1) N) (i2 : vp_in (x3 + 2) N) (i3 : vp_in (x3 + 3) N) (i4 : vp_in (x3 + 4) N) (i5 : vp_in (x3 + 5) N) (kk : ∀ (w : va_W) (H1 : Heap) (locs1 : List Loc), lj cI cZ ad b (B + 2000) w → xg_H D s.heap.size w s.heap H1 locs1 → W p l e room_1 s m #[Value.ref sb] below meth c H1 locs1 99 1284 Q (F0 m 1240 ls [])) : W p l e room_1 s m #[Value.ref sb] below meth c H locs 99 1284 Q (F0 m 1171 ls []) := by
  obtain ⟨S, hret, hlk, hK, hXs, hsb⟩ := id C
  obtain ⟨hx, hb, hml, hown, hts⟩ := id S
  obtain ⟨a1, e1⟩ : ∃ y : Int32, xs (x3 + 1).toNatClampNeg = y := ⟨_, rfl⟩
  obtain ⟨a2, e2⟩ : ∃ y : Int32, xs (x3 + 2).toNatClampNeg = y := ⟨_, rfl⟩
  obtain ⟨a3, e3⟩ : ∃ y : Int32, xs (x3 + 3).toNatClampNeg = y := ⟨_, rfl⟩
  obtain ⟨a4, e4⟩ : ∃ y : Int32, xs (x3 + 4).toNatClampNeg = y := ⟨_, rfl⟩
  obtain ⟨a5, e5⟩ : ∃ y : Int32, xs (x3 + 5).toNatClampNeg = y := ⟨_, rfl⟩
  obtain ⟨fk, sk, nn, T, TF, TS, g, A, I, L, hX, hE⟩ := hJ
  obtain ⟨hO, hT, hF, hSd, hPo, hP, ⟨ev, wh, dn, rf, db, he, TA, f, u, v, hSo, hA, hTi, hCh⟩, ⟨dn0, la0, re0, u0, v0, hCl, hCc⟩, ⟨ch0, td0, tr0, hGa⟩, ⟨dnY, rfY, huY, TY, hYo, hYt⟩, hM⟩ := id hX
  refine lv_aload_n hx hb dL_law_1171 rfl (lv_at hl 1 rfl) ?_
  refine lv_aload_n hx hb dL_law_1172 rfl (lv_at hl 0 rfl) ?_
  refine lv_iload_n hx hb dL_law_1173 rfl (lv_at hl 3 rfl) ?_
  refine lv_iconst (v := 1) hx hb dL_law_1174 (by decide) ?_
  refine lv_iadd hx hb dL_law_1175 ?_
  refine lq_ld C hG i1 e1 dL_law_1176 ?_
  refine xg_mi (va_runV (As := [.int a1]) (rest := []) S (mX7_image l D cI cZ s.heap.size ad ws b fk sk hO T hT TF hF TS hSd a1) (cwV 1 hts gL_law_X7_image rfl rfl rfl (by decide +kernel) ⟨Nat.le_of_ble_eq_true rfl, Nat.le_of_ble_eq_true rfl⟩) (xg_preV hK hG b hO rfl rfl) rfl rfl hl.1 rfl (lv_room (Nat.le_of_ble_eq_true rfl)) dL_law_1177 ⟨Nat.le_of_ble_eq_true rfl, Nat.le_of_ble_eq_true rfl⟩) hG (fun r1 w1 H locs hq1 hG => ?_)
  obtain ⟨hr1, hO1, hT1, hF1, hSd1, hS1⟩ := hq1
  have hX := hX.img hO1 hT1 hF1 hSd1 hS1
  have hM := hX.2.2.2.2.2.2.2.2.2.2
  refine lv_aload_n hx hb dL_law_1180 rfl (lv_at hl 2 rfl) ?_
  refine lv_aload_n hx hb dL_law_1181 rfl (lv_at hl 0 rfl) ?_
  refine lv_iload_n hx hb dL_law_1182 rfl (lv_at hl 3 rfl) ?_
  refine lv_iconst (v := 1) hx hb dL_law_1183 (by decide) ?_
  refine lv_iadd hx hb dL_law_1184 ?_
  refine lq_ld C hG i1 e1 dL_law_1185 ?_
  refine xg_mi (va_runV (As := [.int a1]) (rest := [.int r1]) S (mX8_image l D cI cZ s.heap.size ad w1 (b + 75) A I L hM a1) (cwV 1 hts gL_law_X8_image rfl rfl rfl (by decide +kernel) ⟨Nat.le_of_ble_eq_true rfl, Nat.le_of_ble_eq_true rfl⟩) (xg_preV hK hG (b + 75) hM.1 rfl rfl) rfl rfl hl.1 rfl (lv_room (Nat.le_of_ble_eq_true rfl)) dL_law_1186 ⟨Nat.le_of_ble_eq_true rfl, Nat.le_of_ble_eq_true rfl⟩) hG (fun r2 w2 H locs hq2 hG => ?_)
  obtain ⟨hr2, hM2, hS2⟩ := hq2
  have hX := hX.M hM2 hS2
  refine lv_icmp_eq (tgt := 1240) hx hb dL_law_1189 (by decide) (fun _ => ?_) (fun q => absurd (hr1.trans ((rfl).trans hr2.symm)) q)
  exact kk _ _ _ ⟨_, _, _, _, _, _, _, _, _, _, hX, la_image hE a1⟩ hG
set_option maxHeartbeats 4000000 in
set_option maxRecDepth 100000 in
theorem law_restore {p : Program} {l : Launch} {e : Env} {s : State} {m : MethodId} {below : List Frame} {meth : Method} {c : Code} {H : Heap} {locs : List Loc} {Q : State → Prop} {ls : Array Slot} {sb N b B : Nat} {xs : Nat → Int32} {D : va_G} {cI cZ : ClassId} {ad : Nat → Nat} {ws : va_W} {x3 : Int32} (C : lq s m meth p c sb N xs D cI cZ) (hJ : lj cI cZ ad b B ws) (hB : B + 2000 < 2 ^ 30) (hG : xg_H D s.heap.size ws s.heap H locs) (hl : lv_has ls 4 [(0, .ref sb), (1, .ref (ad b)), (2, .ref (ad (b + 75))), (3, .int x3)]) (i1 : vp_in (x3 + 1) N) (i2 : vp_in (x3 + 2) N) (i3 : vp_in (x3 + 3) N) (i4 : vp_in (x3 + 4) N) (i5 : vp_in (x3 + 5) N) (kk : ∀ (w : va_W) (H1 : Heap) (locs1 : List Loc), lj cI cZ ad b (B + 2000) w → xg_H D s.heap.size w s.heap H1 locs1 → W p l e room_1 s m #[Value.ref sb] below meth c H1 locs1 99 1284 Q (F0 m 1240 ls [])) : W p l e room_1 s m #[Value.ref sb] below meth c H locs 99 1284 Q (F0 m 1194 ls []) := by
  obtain ⟨S, hret, hlk, hK, hXs, hsb⟩ := id C
  obtain ⟨hx, hb, hml, hown, hts⟩ := id S
  obtain ⟨a1, e1⟩ : ∃ y : Int32, xs (x3 + 1).toNatClampNeg = y := ⟨_, rfl⟩
  obtain ⟨a2, e2⟩ : ∃ y : Int32, xs (x3 + 2).toNatClampNeg = y := ⟨_, rfl⟩
  obtain ⟨a3, e3⟩ : ∃ y : Int32, xs (x3 + 3).toNatClampNeg = y := ⟨_, rfl⟩
  obtain ⟨a4, e4⟩ : ∃ y : Int32, xs (x3 + 4).toNatClampNeg = y := ⟨_, rfl⟩
  obtain ⟨a5, e5⟩ : ∃ y : Int32, xs (x3 + 5).toNatClampNeg = y := ⟨_, rfl⟩
  obtain ⟨fk, sk, nn, T, TF, TS, g, A, I, L, hX, hE⟩ := hJ
  obtain ⟨hO, hT, hF, hSd, hPo, hP, ⟨ev, wh, dn, rf, db, he, TA, f, u, v, hSo, hA, hTi, hCh⟩, ⟨dn0, la0, re0, u0, v0, hCl, hCc⟩, ⟨ch0, td0, tr0, hGa⟩, ⟨dnY, rfY, huY, TY, hYo, hYt⟩, hM⟩ := id hX
  refine lv_aload_n hx hb dL_law_1194 rfl (lv_at hl 1 rfl) ?_
  refine lv_aload_n hx hb dL_law_1195 rfl (lv_at hl 0 rfl) ?_
  refine lv_iload_n hx hb dL_law_1196 rfl (lv_at hl 3 rfl) ?_
  refine lv_iconst (v := 1) hx hb dL_law_1197 (by decide) ?_
  refine lv_iadd hx hb dL_law_1198 ?_
  refine lq_ld C hG i1 e1 dL_law_1199 ?_
  refine xg_mi (va_runV (As := [.int a1]) (rest := []) S (mX7_restore l D cI cZ s.heap.size ad ws b fk sk hO T hT TF hF TS hSd a1) (cwV 1 hts gL_law_X7_restore rfl rfl rfl (by decide +kernel) ⟨Nat.le_of_ble_eq_true rfl, Nat.le_of_ble_eq_true rfl⟩) (xg_preV hK hG b hO rfl rfl) rfl rfl hl.1 rfl (lv_room (Nat.le_of_ble_eq_true rfl)) dL_law_1200 ⟨Nat.le_of_ble_eq_true rfl, Nat.le_of_ble_eq_true rfl⟩) hG (fun r1 w1 H locs hq1 hG => ?_)
  obtain ⟨hr1, -, hT1, -, -, hS1⟩ := hq1
  have hX := hX.now hT1 hS1
  have hM := hX.2.2.2.2.2.2.2.2.2.2
  refine lv_aload_n hx hb dL_law_1203 rfl (lv_at hl 2 rfl) ?_
  refine lv_aload_n hx hb dL_law_1204 rfl (lv_at hl 0 rfl) ?_
  refine lv_iload_n hx hb dL_law_1205 rfl (lv_at hl 3 rfl) ?_
  refine lv_iconst (v := 1) hx hb dL_law_1206 (by decide) ?_
  refine lv_iadd hx hb dL_law_1207 ?_
  refine lq_ld C hG i1 e1 dL_law_1208 ?_
  refine xg_mi (va_runV (As := [.int a1]) (rest := [.int r1]) S (mX8_restore l D cI cZ s.heap.size ad w1 (b + 75) A I L hM a1) (cwV 1 hts gL_law_X8_restore rfl rfl rfl (by decide +kernel) ⟨Nat.le_of_ble_eq_true rfl, Nat.le_of_ble_eq_true rfl⟩) (xg_preV hK hG (b + 75) hM.1 rfl rfl) rfl rfl hl.1 rfl (lv_room (Nat.le_of_ble_eq_true rfl)) dL_law_1209 ⟨Nat.le_of_ble_eq_true rfl, Nat.le_of_ble_eq_true rfl⟩) hG (fun r2 w2 H locs hq2 hG => ?_)
  obtain ⟨hr2, hM2, hS2⟩ := hq2
  have hX := hX.M hM2 hS2
  refine lv_icmp_eq (tgt := 1240) hx hb dL_law_1212 (by decide) (fun _ => ?_) (fun q => absurd (hr1.trans (((eq_rst hE a1).2).trans hr2.symm)) q)
  exact kk _ _ _ ⟨_, _, _, _, _, _, _, _, _, _, hX, la_restore hE a1⟩ hG
set_option maxHeartbeats 4000000 in
set_option maxRecDepth 100000 in
theorem law_told {p : Program} {l : Launch} {e : Env} {s : State} {m : MethodId} {below : List Frame} {meth : Method} {c : Code} {H : Heap} {locs : List Loc} {Q : State → Prop} {ls : Array Slot} {sb N b B : Nat} {xs : Nat → Int32} {D : va_G} {cI cZ : ClassId} {ad : Nat → Nat} {ws : va_W} {x3 : Int32} (C : lq s m meth p c sb N xs D cI cZ) (hJ : lj cI cZ ad b B ws) (hB : B + 2000 < 2 ^ 30) (hG : xg_H D s.heap.size ws s.heap H locs) (hl : lv_has ls 4 [(0, .ref sb), (1, .ref (ad b)), (2, .ref (ad (b + 75))), (3, .int x3)]) (i1 : vp_in (x3 + 1) N) (i2 : vp_in (x3 + 2) N) (i3 : vp_in (x3 + 3) N) (i4 : vp_in (x3 + 4) N) (i5 : vp_in (x3 + 5) N) (kk : ∀ (w : va_W) (H1 : Heap) (locs1 : List Loc), lj cI cZ ad b (B + 2000) w → xg_H D s.heap.size w s.heap H1 locs1 → W p l e room_1 s m #[Value.ref sb] below meth c H1 locs1 99 1284 Q (F0 m 1240 ls [])) : W p l e room_1 s m #[Value.ref sb] below meth c H locs 99 1284 Q (F0 m 1217 ls []) := by
  obtain ⟨S, hret, hlk, hK, hXs, hsb⟩ := id C
  obtain ⟨hx, hb, hml, hown, hts⟩ := id S
  obtain ⟨a1, e1⟩ : ∃ y : Int32, xs (x3 + 1).toNatClampNeg = y := ⟨_, rfl⟩
  obtain ⟨a2, e2⟩ : ∃ y : Int32, xs (x3 + 2).toNatClampNeg = y := ⟨_, rfl⟩
  obtain ⟨a3, e3⟩ : ∃ y : Int32, xs (x3 + 3).toNatClampNeg = y := ⟨_, rfl⟩
  obtain ⟨a4, e4⟩ : ∃ y : Int32, xs (x3 + 4).toNatClampNeg = y := ⟨_, rfl⟩
  obtain ⟨a5, e5⟩ : ∃ y : Int32, xs (x3 + 5).toNatClampNeg = y := ⟨_, rfl⟩
  obtain ⟨fk, sk, nn, T, TF, TS, g, A, I, L, hX, hE⟩ := hJ
  obtain ⟨hO, hT, hF, hSd, hPo, hP, ⟨ev, wh, dn, rf, db, he, TA, f, u, v, hSo, hA, hTi, hCh⟩, ⟨dn0, la0, re0, u0, v0, hCl, hCc⟩, ⟨ch0, td0, tr0, hGa⟩, ⟨dnY, rfY, huY, TY, hYo, hYt⟩, hM⟩ := id hX
  refine lv_aload_n hx hb dL_law_1217 rfl (lv_at hl 1 rfl) ?_
  refine lv_aload_n hx hb dL_law_1218 rfl (lv_at hl 0 rfl) ?_
  refine lv_iload_n hx hb dL_law_1219 rfl (lv_at hl 3 rfl) ?_
  refine lv_iconst (v := 1) hx hb dL_law_1220 (by decide) ?_
  refine lv_iadd hx hb dL_law_1221 ?_
  refine lq_ld C hG i1 e1 dL_law_1222 ?_
  refine xg_ri (va_runV (As := [.int a1]) (rest := []) S (mX7_told l D cI cZ s.heap.size ad ws b fk sk hO T hT (nI nn) hPo a1) (cwV 1 hts gL_law_X7_told rfl rfl rfl (by decide +kernel) ⟨Nat.le_of_ble_eq_true rfl, Nat.le_of_ble_eq_true rfl⟩) (xg_preV hK hG b hO rfl rfl) rfl rfl hl.1 rfl (lv_room (Nat.le_of_ble_eq_true rfl)) dL_law_1223 ⟨Nat.le_of_ble_eq_true rfl, Nat.le_of_ble_eq_true rfl⟩) (fun r1 hr1 => ?_)
  refine lv_aload_n hx hb dL_law_1226 rfl (lv_at hl 2 rfl) ?_
  refine lv_aload_n hx hb dL_law_1227 rfl (lv_at hl 0 rfl) ?_
  refine lv_iload_n hx hb dL_law_1228 rfl (lv_at hl 3 rfl) ?_
  refine lv_iconst (v := 1) hx hb dL_law_1229 (by decide) ?_
  refine lv_iadd hx hb dL_law_1230 ?_
  refine lq_ld C hG i1 e1 dL_law_1231 ?_
  refine xg_ri (va_runV (As := [.int a1]) (rest := [.int r1]) S (mX8_told l D cI cZ s.heap.size ad ws (b + 75) A I L hM a1) (cwV 1 hts gL_law_X8_told rfl rfl rfl (by decide +kernel) ⟨Nat.le_of_ble_eq_true rfl, Nat.le_of_ble_eq_true rfl⟩) (xg_preV hK hG (b + 75) hM.1 rfl rfl) rfl rfl hl.1 rfl (lv_room (Nat.le_of_ble_eq_true rfl)) dL_law_1232 ⟨Nat.le_of_ble_eq_true rfl, Nat.le_of_ble_eq_true rfl⟩) (fun r2 hr2 => ?_)
  refine lv_icmp_eq (tgt := 1240) hx hb dL_law_1235 (by decide) (fun _ => ?_) (fun q => absurd (hr1.trans ((eq_tll hE.1 hE.2.2.2.1.symm a1).trans hr2.symm)) q)
  exact kk _ _ _ ⟨_, _, _, _, _, _, _, _, _, _, hX, la_same hE⟩ hG
