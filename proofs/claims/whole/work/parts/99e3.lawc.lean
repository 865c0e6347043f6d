set_option maxHeartbeats 4000000 in
set_option maxRecDepth 100000 in
theorem law_climb {p : Program} {l : Launch} {e : Env} {s : State} {m : MethodId} {below : List Frame} {meth : Method} {c : Code} {H : Heap} {locs : List Loc} {Q : State → Prop} {ls : Array Slot} {sb N b B : Nat} {xs : Nat → Int32} {D : va_G} {cI cZ : ClassId} {ad : Nat → Nat} {ws : va_W} {x3 : Int32} (C : lq s m meth p c sb N xs D cI cZ) (hJ : lj cI cZ ad b B ws) (hB : B + 2000 < 2 ^ 30) (hG : xg_H D s.heap.size ws s.heap H locs) (hl : lv_has ls 4 [(0, .ref sb), (1, .ref (ad b)), (2, .ref (ad (b + 75))), (3, .int x3)]) (i1 : vp_in (x3 + 1) N) (i2 : vp_in (x3 + 2) N) (i3 : vp_in (x3 + 3) N) (i4 : vp_in (x3 + 4) N) (i5 : vp_in (x3 + 5) N) (kk : ∀ (w : va_W) (H1 : Heap) (locs1 : List Loc), lj cI cZ ad b (B + 2000) w → xg_H D s.heap.size w s.heap H1 locs1 → W p l e room_1 s m #[Value.ref sb] below meth c H1 locs1 99 1284 Q (F0 m 1240 ls [])) : W p l e room_1 s m #[Value.ref sb] below meth c H locs 99 1284 Q (F0 m 651 ls []) := by
  obtain ⟨S, hret, hlk, hK, hXs, hsb⟩ := id C
  obtain ⟨hx, hb, hml, hown, hts⟩ := id S
  obtain ⟨a1, e1⟩ : ∃ y : Int32, xs (x3 + 1).toNatClampNeg = y := ⟨_, rfl⟩
  obtain ⟨a2, e2⟩ : ∃ y : Int32, xs (x3 + 2).toNatClampNeg = y := ⟨_, rfl⟩
  obtain ⟨a3, e3⟩ : ∃ y : Int32, xs (x3 + 3).toNatClampNeg = y := ⟨_, rfl⟩
  obtain ⟨a4, e4⟩ : ∃ y : Int32, xs (x3 + 4).toNatClampNeg = y := ⟨_, rfl⟩
  obtain ⟨a5, e5⟩ : ∃ y : Int32, xs (x3 + 5).toNatClampNeg = y := ⟨_, rfl⟩
  obtain ⟨fk, sk, nn, T, TF, TS, g, A, I, L, hX, hE⟩ := hJ
  obtain ⟨hO, hT, hF, hSd, hPo, hP, ⟨ev, wh, dn, rf, db, he, TA, f, u, v, hSo, hA, hTi, hCh⟩, ⟨dn0, la0, re0, u0, v0, hCl, hCc⟩, ⟨ch0, td0, tr0, hGa⟩, ⟨dnY, rfY, huY, TY, hYo, hYt⟩, hM⟩ := id hX
  obtain ⟨st, h4, h5, hst8, hstT⟩ := la_step hE
  refine lv_aload_n hx hb dL_law_651 rfl (lv_at hl 1 rfl) ?_
  refine lv_aload_n hx hb dL_law_652 rfl (lv_at hl 0 rfl) ?_
  refine lv_iload_n hx hb dL_law_653 rfl (lv_at hl 3 rfl) ?_
  refine lv_iconst (v := 1) hx hb dL_law_654 (by decide) ?_
  refine lv_iadd hx hb dL_law_655 ?_
  refine lq_ld C hG i1 e1 dL_law_656 ?_
  refine lv_aload_n hx hb dL_law_657 rfl (lv_at hl 0 rfl) ?_
  refine lv_iload_n hx hb dL_law_658 rfl (lv_at hl 3 rfl) ?_
  refine lv_iconst (v := 2) hx hb dL_law_659 (by decide) ?_
  refine lv_iadd hx hb dL_law_660 ?_
  refine lq_ld C hG i2 e2 dL_law_661 ?_
  refine lv_aload_n hx hb dL_law_662 rfl (lv_at hl 0 rfl) ?_
  refine lv_iload_n hx hb dL_law_663 rfl (lv_at hl 3 rfl) ?_
  refine lv_iconst (v := 3) hx hb dL_law_664 (by decide) ?_
  refine lv_iadd hx hb dL_law_665 ?_
  refine lq_ld C hG i3 e3 dL_law_666 ?_
  refine lv_aload_n hx hb dL_law_667 rfl (lv_at hl 0 rfl) ?_
  refine lv_iload_n hx hb dL_law_668 rfl (lv_at hl 3 rfl) ?_
  refine lv_iconst (v := 4) hx hb dL_law_669 (by decide) ?_
  refine lv_iadd hx hb dL_law_670 ?_
  refine lq_ld C hG i4 e4 dL_law_671 ?_
  refine lv_aload_n hx hb dL_law_672 rfl (lv_at hl 0 rfl) ?_
  refine lv_iload_n hx hb dL_law_673 rfl (lv_at hl 3 rfl) ?_
  refine lv_iconst (v := 5) hx hb dL_law_674 (by decide) ?_
  refine lv_iadd hx hb dL_law_675 ?_
  refine lq_ld C hG i5 e5 dL_law_676 ?_
  refine xg_mi (va_runV (As := [.int a1, .int a2, .int a3, .int a4, .int a5]) (rest := []) S (mX7_climb l D cI cZ s.heap.size ad ws b fk sk hO T hT dn0 la0 re0 hCl u0 v0 hCc a1 a2 a3 a4 a5 st hstT h4 h5) (cwV 5 hts gL_law_X7_climb rfl rfl rfl (by decide +kernel) ⟨Nat.le_of_ble_eq_true rfl, Nat.le_of_ble_eq_true rfl⟩) (xg_preV hK hG b hO rfl rfl) rfl rfl hl.1 rfl (lv_room (Nat.le_of_ble_eq_true rfl)) dL_law_677 ⟨Nat.le_of_ble_eq_true rfl, Nat.le_of_ble_eq_true rfl⟩) hG (fun r1 w1 H locs hq1 hG => ?_)
  obtain ⟨hr1, -, -, ⟨d1, d2, d3, hCl1⟩, ⟨d4, d5, hCc1⟩, hS1⟩ := hq1
  have hX := hX.cl ⟨d1, d2, d3, d4, d5, hCl1, hCc1⟩ hS1
  have hM := hX.2.2.2.2.2.2.2.2.2.2
  refine lv_aload_n hx hb dL_law_680 rfl (lv_at hl 2 rfl) ?_
  refine lv_aload_n hx hb dL_law_681 rfl (lv_at hl 0 rfl) ?_
  refine lv_iload_n hx hb dL_law_682 rfl (lv_at hl 3 rfl) ?_
  refine lv_iconst (v := 1) hx hb dL_law_683 (by decide) ?_
  refine lv_iadd hx hb dL_law_684 ?_
  refine lq_ld C hG i1 e1 dL_law_685 ?_
  refine lv_aload_n hx hb dL_law_686 rfl (lv_at hl 0 rfl) ?_
  refine lv_iload_n hx hb dL_law_687 rfl (lv_at hl 3 rfl) ?_
  refine lv_iconst (v := 2) hx hb dL_law_688 (by decide) ?_
  refine lv_iadd hx hb dL_law_689 ?_
  refine lq_ld C hG i2 e2 dL_law_690 ?_
  refine lv_aload_n hx hb dL_law_691 rfl (lv_at hl 0 rfl) ?_
  refine lv_iload_n hx hb dL_law_692 rfl (lv_at hl 3 rfl) ?_
  refine lv_iconst (v := 3) hx hb dL_law_693 (by decide) ?_
  refine lv_iadd hx hb dL_law_694 ?_
  refine lq_ld C hG i3 e3 dL_law_695 ?_
  refine lv_aload_n hx hb dL_law_696 rfl (lv_at hl 0 rfl) ?_
  refine lv_iload_n hx hb dL_law_697 rfl (lv_at hl 3 rfl) ?_
  refine lv_iconst (v := 4) hx hb dL_law_698 (by decide) ?_
  refine lv_iadd hx hb dL_law_699 ?_
  refine lq_ld C hG i4 e4 dL_law_700 ?_
  refine lv_aload_n hx hb dL_law_701 rfl (lv_at hl 0 rfl) ?_
  refine lv_iload_n hx hb dL_law_702 rfl (lv_at hl 3 rfl) ?_
  refine lv_iconst (v := 5) hx hb dL_law_703 (by decide) ?_
  refine lv_iadd hx hb dL_law_704 ?_
  refine lq_ld C hG i5 e5 dL_law_705 ?_
  refine xg_mi (va_runV (As := [.int a1, .int a2, .int a3, .int a4, .int a5]) (rest := [.int r1]) S (mX8_climb l D cI cZ s.heap.size ad w1 (b + 75) A I L hM a1 a2 a3 a4 a5 st hst8 h4 h5) (cwV 5 hts gL_law_X8_climb rfl rfl rfl (by decide +kernel) ⟨Nat.le_of_ble_eq_true rfl, Nat.le_of_ble_eq_true rfl⟩) (xg_preV hK hG (b + 75) hM.1 rfl rfl) rfl rfl hl.1 rfl (lv_room (Nat.le_of_ble_eq_true rfl)) dL_law_706 ⟨Nat.le_of_ble_eq_true rfl, Nat.le_of_ble_eq_true rfl⟩) hG (fun r2 w2 H locs hq2 hG => ?_)
  obtain ⟨hr2, hM2, hS2⟩ := hq2
  have hX := hX.M hM2 hS2
  refine lv_icmp_eq (tgt := 1240) hx hb dL_law_709 (by decide) (fun _ => ?_) (fun q => absurd (hr1.trans ((eq_cli hE.1 h4 a1 a2 a3 a4 a5).trans hr2.symm)) q)
  exact kk _ _ _ ⟨_, _, _, _, _, _, _, _, _, _, hX, la_climb hE a1 a2 a3 a4 a5 2 st⟩ hG
set_option maxHeartbeats 4000000 in
set_option maxRecDepth 100000 in
theorem law_safe {p : Program} {l : Launch} {e : Env} {s : State} {m : MethodId} {below : List Frame} {meth : Method} {c : Code} {H : Heap} {locs : List Loc} {Q : State → Prop} {ls : Array Slot} {sb N b B : Nat} {xs : Nat → Int32} {D : va_G} {cI cZ : ClassId} {ad : Nat → Nat} {ws : va_W} {x3 : Int32} (C : lq s m meth p c sb N xs D cI cZ) (hJ : lj cI cZ ad b B ws) (hB : B + 2000 < 2 ^ 30) (hG : xg_H D s.heap.size ws s.heap H locs) (hl : lv_has ls 4 [(0, .ref sb), (1, .ref (ad b)), (2, .ref (ad (b + 75))), (3, .int x3)]) (i1 : vp_in (x3 + 1) N) (i2 : vp_in (x3 + 2) N) (i3 : vp_in (x3 + 3) N) (i4 : vp_in (x3 + 4) N) (i5 : vp_in (x3 + 5) N) (kk : ∀ (w : va_W) (H1 : Heap) (locs1 : List Loc), lj cI cZ ad b (B + 2000) w → xg_H D s.heap.size w s.heap H1 locs1 → W p l e room_1 s m #[Value.ref sb] below meth c H1 locs1 99 1284 Q (F0 m 1240 ls [])) : W p l e room_1 s m #[Value.ref sb] below meth c H locs 99 1284 Q (F0 m 714 ls []) := by
  obtain ⟨S, hret, hlk, hK, hXs, hsb⟩ := id C
  obtain ⟨hx, hb, hml, hown, hts⟩ := id S
  obtain ⟨a1, e1⟩ : ∃ y : Int32, xs (x3 + 1).toNatClampNeg = y := ⟨_, rfl⟩
  obtain ⟨a2, e2⟩ : ∃ y : Int32, xs (x3 + 2).toNatClampNeg = y := ⟨_, rfl⟩
  obtain ⟨a3, e3⟩ : ∃ y : Int32, xs (x3 + 3).toNatClampNeg = y := ⟨_, rfl⟩
  obtain ⟨a4, e4⟩ : ∃ y : Int32, xs (x3 + 4).toNatClampNeg = y := ⟨_, rfl⟩
  obtain ⟨a5, e5⟩ : ∃ y : Int32, xs (x3 + 5).toNatClampNeg = y := ⟨_, rfl⟩
  obtain ⟨fk, sk, nn, T, TF, TS, g, A, I, L, hX, hE⟩ := hJ
  obtain ⟨hO, hT, hF, hSd, hPo, hP, ⟨ev, wh, dn, rf, db, he, TA, f, u, v, hSo, hA, hTi, hCh⟩, ⟨dn0, la0, re0, u0, v0, hCl, hCc⟩, ⟨ch0, td0, tr0, hGa⟩, ⟨dnY, rfY, huY, TY, hYo, hYt⟩, hM⟩ := id hX
  obtain ⟨st, h4, h5, hst8, hstT⟩ := la_step hE
  refine lv_aload_n hx hb dL_law_714 rfl (lv_at hl 1 rfl) ?_
  refine lv_aload_n hx hb dL_law_715 rfl (lv_at hl 0 rfl) ?_
  refine lv_iload_n hx hb dL_law_716 rfl (lv_at hl 3 rfl) ?_
  refine lv_iconst (v := 1) hx hb dL_law_717 (by decide) ?_
  refine lv_iadd hx hb dL_law_718 ?_
  refine lq_ld C hG i1 e1 dL_law_719 ?_
  refine lv_aload_n hx hb dL_law_720 rfl (lv_at hl 0 rfl) ?_
  refine lv_iload_n hx hb dL_law_721 rfl (lv_at hl 3 rfl) ?_
  refine lv_iconst (v := 2) hx hb dL_law_722 (by decide) ?_
  refine lv_iadd hx hb dL_law_723 ?_
  refine lq_ld C hG i2 e2 dL_law_724 ?_
  refine lv_aload_n hx hb dL_law_725 rfl (lv_at hl 0 rfl) ?_
  refine lv_iload_n hx hb dL_law_726 rfl (lv_at hl 3 rfl) ?_
  refine lv_iconst (v := 3) hx hb dL_law_727 (by decide) ?_
  refine lv_iadd hx hb dL_law_728 ?_
  refine lq_ld C hG i3 e3 dL_law_729 ?_
  refine lv_aload_n hx hb dL_law_730 rfl (lv_at hl 0 rfl) ?_
  refine lv_iload_n hx hb dL_law_731 rfl (lv_at hl 3 rfl) ?_
  refine lv_iconst (v := 4) hx hb dL_law_732 (by decide) ?_
  refine lv_iadd hx hb dL_law_733 ?_
  refine lq_ld C hG i4 e4 dL_law_734 ?_
  refine lv_aload_n hx hb dL_law_735 rfl (lv_at hl 0 rfl) ?_
  refine lv_iload_n hx hb dL_law_736 rfl (lv_at hl 3 rfl) ?_
  refine lv_iconst (v := 5) hx hb dL_law_737 (by decide) ?_
  refine lv_iadd hx hb dL_law_738 ?_
  refine lq_ld C hG i5 e5 dL_law_739 ?_
  refine xg_ml (va_runV (As := [.int a1, .int a2, .int a3, .int a4, .int a5]) (rest := []) S (mX7_safe l D cI cZ s.heap.size ad ws b fk sk hO T hT dn0 la0 re0 hCl u0 v0 hCc a1 a2 a3 a4 a5 st hstT h4 h5) (cwV 5 hts gL_law_X7_safe rfl rfl rfl (by decide +kernel) ⟨Nat.le_of_ble_eq_true rfl, Nat.le_of_ble_eq_true rfl⟩) (xg_preV hK hG b hO rfl rfl) rfl rfl hl.1 rfl (lv_room (Nat.le_of_ble_eq_true rfl)) dL_law_740 ⟨Nat.le_of_ble_eq_true rfl, Nat.le_of_ble_eq_true rfl⟩) hG (fun r1 w1 H locs hq1 hG => ?_)
  obtain ⟨hr1, -, -, ⟨d1, d2, d3, hCl1⟩, ⟨d4, d5, hCc1⟩, hS1⟩ := hq1
  have hX := hX.cl ⟨d1, d2, d3, d4, d5, hCl1, hCc1⟩ hS1
  have hM := hX.2.2.2.2.2.2.2.2.2.2
  refine lv_aload_n hx hb dL_law_743 rfl (lv_at hl 2 rfl) ?_
  refine lv_aload_n hx hb dL_law_744 rfl (lv_at hl 0 rfl) ?_
  refine lv_iload_n hx hb dL_law_745 rfl (lv_at hl 3 rfl) ?_
  refine lv_iconst (v := 1) hx hb dL_law_746 (by decide) ?_
  refine lv_iadd hx hb dL_law_747 ?_
  refine lq_ld C hG i1 e1 dL_law_748 ?_
  refine lv_aload_n hx hb dL_law_749 rfl (lv_at hl 0 rfl) ?_
  refine lv_iload_n hx hb dL_law_750 rfl (lv_at hl 3 rfl) ?_
  refine lv_iconst (v := 2) hx hb dL_law_751 (by decide) ?_
  refine lv_iadd hx hb dL_law_752 ?_
  refine lq_ld C hG i2 e2 dL_law_753 ?_
  refine lv_aload_n hx hb dL_law_754 rfl (lv_at hl 0 rfl) ?_
  refine lv_iload_n hx hb dL_law_755 rfl (lv_at hl 3 rfl) ?_
  refine lv_iconst (v := 3) hx hb dL_law_756 (by decide) ?_
  refine lv_iadd hx hb dL_law_757 ?_
  refine lq_ld C hG i3 e3 dL_law_758 ?_
  refine lv_aload_n hx hb dL_law_759 rfl (lv_at hl 0 rfl) ?_
  refine lv_iload_n hx hb dL_law_760 rfl (lv_at hl 3 rfl) ?_
  refine lv_iconst (v := 4) hx hb dL_law_761 (by decide) ?_
  refine lv_iadd hx hb dL_law_762 ?_
  refine lq_ld C hG i4 e4 dL_law_763 ?_
  refine lv_aload_n hx hb dL_law_764 rfl (lv_at hl 0 rfl) ?_
  refine lv_iload_n hx hb dL_law_765 rfl (lv_at hl 3 rfl) ?_
  refine lv_iconst (v := 5) hx hb dL_law_766 (by decide) ?_
  refine lv_iadd hx hb dL_law_767 ?_
  refine lq_ld C hG i5 e5 dL_law_768 ?_
  refine xg_ml (va_runV (As := [.int a1, .int a2, .int a3, .int a4, .int a5]) (rest := [.long r1]) S (mX8_safe l D cI cZ s.heap.size ad w1 (b + 75) A I L hM a1 a2 a3 a4 a5 st hst8 h4 h5) (cwV 5 hts gL_law_X8_safe rfl rfl rfl (by decide +kernel) ⟨Nat.le_of_ble_eq_true rfl, Nat.le_of_ble_eq_true rfl⟩) (xg_preV hK hG (b + 75) hM.1 rfl rfl) rfl rfl hl.1 rfl (lv_room (Nat.le_of_ble_eq_true rfl)) dL_law_769 ⟨Nat.le_of_ble_eq_true rfl, Nat.le_of_ble_eq_true rfl⟩) hG (fun r2 w2 H locs hq2 hG => ?_)
  obtain ⟨hr2, hM2, hS2⟩ := hq2
  have hX := hX.M hM2 hS2
  refine xb_lcmp S dL_law_772 ?_
  refine xb_leq (tgt := 1240) S dL_law_773 (by decide) (fun _ => ?_) (fun q => absurd (hr1.trans ((eq_saf hE.1 h4 a1 a2 a3 a4 a5).trans hr2.symm)) q)
  exact kk _ _ _ ⟨_, _, _, _, _, _, _, _, _, _, hX, la_climb hE a1 a2 a3 a4 a5 1 st⟩ hG
set_option maxHeartbeats 4000000 in
set_option maxRecDepth 100000 in
theorem law_law {p : Program} {l : Launch} {e : Env} {s : State} {m : MethodId} {below : List Frame} {meth : Method} {c : Code} {H : Heap} {locs : List Loc} {Q : State → Prop} {ls : Array Slot} {sb N b B : Nat} {xs : Nat → Int32} {D : va_G} {cI cZ : ClassId} {ad : Nat → Nat} {ws : va_W} {x3 : Int32} (C : lq s m meth p c sb N xs D cI cZ) (hJ : lj cI cZ ad b B ws) (hB : B + 2000 < 2 ^ 30) (hG : xg_H D s.heap.size ws s.heap H locs) (hl : lv_has ls 4 [(0, .ref sb), (1, .ref (ad b)), (2, .ref (ad (b + 75))), (3, .int x3)]) (i1 : vp_in (x3 + 1) N) (i2 : vp_in (x3 + 2) N) (i3 : vp_in (x3 + 3) N) (i4 : vp_in (x3 + 4) N) (i5 : vp_in (x3 + 5) N) (kk : ∀ (w : va_W) (H1 : Heap) (locs1 : List Loc), lj cI cZ ad b (B + 2000) w → xg_H D s.heap.size w s.heap H1 locs1 → W p l e room_1 s m #[Value.ref sb] below meth c H1 locs1 99 1284 Q (F0 m 1240 ls [])) : W p l e room_1 s m #[Value.ref sb] below meth c H locs 99 1284 Q (F0 m 778 ls []) := by
  obtain ⟨S, hret, hlk, hK, hXs, hsb⟩ := id C
  obtain ⟨hx, hb, hml, hown, hts⟩ := id S
  obtain ⟨a1, e1⟩ : ∃ y : Int32, xs (x3 + 1).toNatClampNeg = y := ⟨_, rfl⟩
  obtain ⟨a2, e2⟩ : ∃ y : Int32, xs (x3 + 2).toNatClampNeg = y := ⟨_, rfl⟩
  obtain ⟨a3, e3⟩ : ∃ y : Int32, xs (x3 + 3).toNatClampNeg = y := ⟨_, rfl⟩
  obtain ⟨a4, e4⟩ : ∃ y : Int32, xs (x3 + 4).toNatClampNeg = y := ⟨_, rfl⟩
  obtain ⟨a5, e5⟩ : ∃ y : Int32, xs (x3 + 5).toNatClampNeg = y := ⟨_, rfl⟩
  obtain ⟨fk, sk, nn, T, TF, TS, g, A, I, L, hX, hE⟩ := hJ
  obtain ⟨hO, hT, hF, hSd, hPo, hP, ⟨ev, wh, dn, rf, db, he, TA, f, u, v, hSo, hA, hTi, hCh⟩, ⟨dn0, la0, re0, u0, v0, hCl, hCc⟩, ⟨ch0, td0, tr0, hGa⟩, ⟨dnY, rfY, huY, TY, hYo, hYt⟩, hM⟩ := id hX
  obtain ⟨st, h4, h5, hst8, hstT⟩ := la_step hE
  refine lv_aload_n hx hb dL_law_778 rfl (lv_at hl 1 rfl) ?_
  refine lv_aload_n hx hb dL_law_779 rfl (lv_at hl 0 rfl) ?_
  refine lv_iload_n hx hb dL_law_780 rfl (lv_at hl 3 rfl) ?_
  refine lv_iconst (v := 1) hx hb dL_law_781 (by decide) ?_
  refine lv_iadd hx hb dL_law_782 ?_
  refine lq_ld C hG i1 e1 dL_law_783 ?_
  refine lv_aload_n hx hb dL_law_784 rfl (lv_at hl 0 rfl) ?_
  refine lv_iload_n hx hb dL_law_785 rfl (lv_at hl 3 rfl) ?_
  refine lv_iconst (v := 2) hx hb dL_law_786 (by decide) ?_
  refine lv_iadd hx hb dL_law_787 ?_
  refine lq_ld C hG i2 e2 dL_law_788 ?_
  refine lv_aload_n hx hb dL_law_789 rfl (lv_at hl 0 rfl) ?_
  refine lv_iload_n hx hb dL_law_790 rfl (lv_at hl 3 rfl) ?_
  refine lv_iconst (v := 3) hx hb dL_law_791 (by decide) ?_
  refine lv_iadd hx hb dL_law_792 ?_
  refine lq_ld C hG i3 e3 dL_law_793 ?_
  refine lv_aload_n hx hb dL_law_794 rfl (lv_at hl 0 rfl) ?_
  refine lv_iload_n hx hb dL_law_795 rfl (lv_at hl 3 rfl) ?_
  refine lv_iconst (v := 4) hx hb dL_law_796 (by decide) ?_
  refine lv_iadd hx hb dL_law_797 ?_
  refine lq_ld C hG i4 e4 dL_law_798 ?_
  refine lv_aload_n hx hb dL_law_799 rfl (lv_at hl 0 rfl) ?_
  refine lv_iload_n hx hb dL_law_800 rfl (lv_at hl 3 rfl) ?_
  refine lv_iconst (v := 5) hx hb dL_law_801 (by decide) ?_
  refine lv_iadd hx hb dL_law_802 ?_
  refine lq_ld C hG i5 e5 dL_law_803 ?_
  refine xg_mi (va_runV (As := [.int a1, .int a2, .int a3, .int a4, .int a5]) (rest := []) S (mX7_law l D cI cZ s.heap.size ad ws b fk sk hO T hT dn0 la0 re0 hCl u0 v0 hCc a1 a2 a3 a4 a5 st hstT h4 h5) (cwV 5 hts gL_law_X7_law rfl rfl rfl (by decide +kernel) ⟨Nat.le_of_ble_eq_true rfl, Nat.le_of_ble_eq_true rfl⟩) (xg_preV hK hG b hO rfl rfl) rfl rfl hl.1 rfl (lv_room (Nat.le_of_ble_eq_true rfl)) dL_law_804 ⟨Nat.le_of_ble_eq_true rfl, Nat.le_of_ble_eq_true rfl⟩) hG (fun r1 w1 H locs hq1 hG => ?_)
  obtain ⟨hr1, -, -, ⟨d1, d2, d3, hCl1⟩, ⟨d4, d5, hCc1⟩, hS1⟩ := hq1
  have hX := hX.cl ⟨d1, d2, d3, d4, d5, hCl1, hCc1⟩ hS1
  have hM := hX.2.2.2.2.2.2.2.2.2.2
  refine lv_aload_n hx hb dL_law_807 rfl (lv_at hl 2 rfl) ?_
  refine lv_aload_n hx hb dL_law_808 rfl (lv_at hl 0 rfl) ?_
  refine lv_iload_n hx hb dL_law_809 rfl (lv_at hl 3 rfl) ?_
  refine lv_iconst (v := 1) hx hb dL_law_810 (by decide) ?_
  refine lv_iadd hx hb dL_law_811 ?_
  refine lq_ld C hG i1 e1 dL_law_812 ?_
  refine lv_aload_n hx hb dL_law_813 rfl (lv_at hl 0 rfl) ?_
  refine lv_iload_n hx hb dL_law_814 rfl (lv_at hl 3 rfl) ?_
  refine lv_iconst (v := 2) hx hb dL_law_815 (by decide) ?_
  refine lv_iadd hx hb dL_law_816 ?_
  refine lq_ld C hG i2 e2 dL_law_817 ?_
  refine lv_aload_n hx hb dL_law_818 rfl (lv_at hl 0 rfl) ?_
  refine lv_iload_n hx hb dL_law_819 rfl (lv_at hl 3 rfl) ?_
  refine lv_iconst (v := 3) hx hb dL_law_820 (by decide) ?_
  refine lv_iadd hx hb dL_law_821 ?_
  refine lq_ld C hG i3 e3 dL_law_822 ?_
  refine lv_aload_n hx hb dL_law_823 rfl (lv_at hl 0 rfl) ?_
  refine lv_iload_n hx hb dL_law_824 rfl (lv_at hl 3 rfl) ?_
  refine lv_iconst (v := 4) hx hb dL_law_825 (by decide) ?_
  refine lv_iadd hx hb dL_law_826 ?_
  refine lq_ld C hG i4 e4 dL_law_827 ?_
  refine lv_aload_n hx hb dL_law_828 rfl (lv_at hl 0 rfl) ?_
  refine lv_iload_n hx hb dL_law_829 rfl (lv_at hl 3 rfl) ?_
  refine lv_iconst (v := 5) hx hb dL_law_830 (by decide) ?_
  refine lv_iadd hx hb dL_law_831 ?_
  refine lq_ld C hG i5 e5 dL_law_832 ?_
  refine xg_mi (va_runV (As := [.int a1, .int a2, .int a3, .int a4, .int a5]) (rest := [.int r1]) S (mX8_law l D cI cZ s.heap.size ad w1 (b + 75) A I L hM a1 a2 a3 a4 a5 st hst8 h4 h5) (cwV 5 hts gL_law_X8_law rfl rfl rfl (by decide +kernel) ⟨Nat.le_of_ble_eq_true rfl, Nat.le_of_ble_eq_true rfl⟩) (xg_preV hK hG (b + 75) hM.1 rfl rfl) rfl rfl hl.1 rfl (lv_room (Nat.le_of_ble_eq_true rfl)) dL_law_833 ⟨Nat.le_of_ble_eq_true rfl, Nat.le_of_ble_eq_true rfl⟩) hG (fun r2 w2 H locs hq2 hG => ?_)
  obtain ⟨hr2, hM2, hS2⟩ := hq2
  have hX := hX.M hM2 hS2
  refine lv_icmp_eq (tgt := 1240) hx hb dL_law_836 (by decide) (fun _ => ?_) (fun q => absurd (hr1.trans ((eq_law hE.1 h4 a1 a2 a3 a4 a5).trans hr2.symm)) q)
  exact kk _ _ _ ⟨_, _, _, _, _, _, _, _, _, _, hX, la_law hE a1 a2 a3 a4 a5 st⟩ hG
set_option maxHeartbeats 4000000 in
set_option maxRecDepth 100000 in
theorem law_game {p : Program} {l : Launch} {e : Env} {s : State} {m : MethodId} {below : List Frame} {meth : Method} {c : Code} {H : Heap} {locs : List Loc} {Q : State → Prop} {ls : Array Slot} {sb N b B : Nat} {xs : Nat → Int32} {D : va_G} {cI cZ : ClassId} {ad : Nat → Nat} {ws : va_W} {x3 : Int32} (C : lq s m meth p c sb N xs D cI cZ) (hJ : lj cI cZ ad b B ws) (hB : B + 2000 < 2 ^ 30) (hG : xg_H D s.heap.size ws s.heap H locs) (hl : lv_has ls 4 [(0, .ref sb), (1, .ref (ad b)), (2, .ref (ad (b + 75))), (3, .int x3)]) (i1 : vp_in (x3 + 1) N) (i2 : vp_in (x3 + 2) N) (i3 : vp_in (x3 + 3) N) (i4 : vp_in (x3 + 4) N) (i5 : vp_in (x3 + 5) N) (kk : ∀ (w : va_W) (H1 : Heap) (locs1 : List Loc), lj cI cZ ad b (B + 2000) w → xg_H D s.heap.size w s.heap H1 locs1 → W p l e room_1 s m #[Value.ref sb] below meth c H1 locs1 99 1284 Q (F0 m 1240 ls [])) : W p l e room_1 s m #[Value.ref sb] below meth c H locs 99 1284 Q (F0 m 841 ls []) := by
  obtain ⟨S, hret, hlk, hK, hXs, hsb⟩ := id C
  obtain ⟨hx, hb, hml, hown, hts⟩ := id S
  obtain ⟨a1, e1⟩ : ∃ y : Int32, xs (x3 + 1).toNatClampNeg = y := ⟨_, rfl⟩
  obtain ⟨a2, e2⟩ : ∃ y : Int32, xs (x3 + 2).toNatClampNeg = y := ⟨_, rfl⟩
  obtain ⟨a3, e3⟩ : ∃ y : Int32, xs (x3 + 3).toNatClampNeg = y := ⟨_, rfl⟩
  obtain ⟨a4, e4⟩ : ∃ y : Int32, xs (x3 + 4).toNatClampNeg = y := ⟨_, rfl⟩
  obtain ⟨a5, e5⟩ : ∃ y : Int32, xs (x3 + 5).toNatClampNeg = y := ⟨_, rfl⟩
  obtain ⟨fk, sk, nn, T, TF, TS, g, A, I, L, hX, hE⟩ := hJ
  obtain ⟨hO, hT, hF, hSd, hPo, hP, ⟨ev, wh, dn, rf, db, he, TA, f, u, v, hSo, hA, hTi, hCh⟩, ⟨dn0, la0, re0, u0, v0, hCl, hCc⟩, ⟨ch0, td0, tr0, hGa⟩, ⟨dnY, rfY, huY, TY, hYo, hYt⟩, hM⟩ := id hX
  obtain ⟨st, h4, h5, hst8, hstT⟩ := la_step hE
  refine lv_aload_n hx hb dL_law_841 rfl (lv_at hl 1 rfl) ?_
  refine lv_aload_n hx hb dL_law_842 rfl (lv_at hl 0 rfl) ?_
  refine lv_iload_n hx hb dL_law_843 rfl (lv_at hl 3 rfl) ?_
  refine lv_iconst (v := 1) hx hb dL_law_844 (by decide) ?_
  refine lv_iadd hx hb dL_law_845 ?_
  refine lq_ld C hG i1 e1 dL_law_846 ?_
  refine lv_aload_n hx hb dL_law_847 rfl (lv_at hl 0 rfl) ?_
  refine lv_iload_n hx hb dL_law_848 rfl (lv_at hl 3 rfl) ?_
  refine lv_iconst (v := 2) hx hb dL_law_849 (by decide) ?_
  refine lv_iadd hx hb dL_law_850 ?_
  refine lq_ld C hG i2 e2 dL_law_851 ?_
  refine lv_aload_n hx hb dL_law_852 rfl (lv_at hl 0 rfl) ?_
  refine lv_iload_n hx hb dL_law_853 rfl (lv_at hl 3 rfl) ?_
  refine lv_iconst (v := 3) hx hb dL_law_854 (by decide) ?_
  refine lv_iadd hx hb dL_law_855 ?_
  refine lq_ld C hG i3 e3 dL_law_856 ?_
  refine lv_aload_n hx hb dL_law_857 rfl (lv_at hl 0 rfl) ?_
  refine lv_iload_n hx hb dL_law_858 rfl (lv_at hl 3 rfl) ?_
  refine lv_iconst (v := 4) hx hb dL_law_859 (by decide) ?_
  refine lv_iadd hx hb dL_law_860 ?_
  refine lq_ld C hG i4 e4 dL_law_861 ?_
  refine lv_aload_n hx hb dL_law_862 rfl (lv_at hl 0 rfl) ?_
  refine lv_iload_n hx hb dL_law_863 rfl (lv_at hl 3 rfl) ?_
  refine lv_iconst (v := 5) hx hb dL_law_864 (by decide) ?_
  refine lv_iadd hx hb dL_law_865 ?_
  refine lq_ld C hG i5 e5 dL_law_866 ?_
  refine xg_mi (va_runV (As := [.int a1, .int a2, .int a3, .int a4, .int a5]) (rest := []) S (mX7_game l D cI cZ s.heap.size ad ws b fk sk hO T hT ch0 td0 tr0 hGa a1 a2 a3 a4 a5 st hstT h4 h5) (cwV 5 hts gL_law_X7_game rfl rfl rfl (by decide +kernel) ⟨Nat.le_of_ble_eq_true rfl, Nat.le_of_ble_eq_true rfl⟩) (xg_preV hK hG b hO rfl rfl) rfl rfl hl.1 rfl (lv_room (Nat.le_of_ble_eq_true rfl)) dL_law_867 ⟨Nat.le_of_ble_eq_true rfl, Nat.le_of_ble_eq_true rfl⟩) hG (fun r1 w1 H locs hq1 hG => ?_)
  obtain ⟨hr1, -, -, ⟨d1, d2, d3, hGa1⟩, hS1⟩ := hq1
  have hX := hX.ga ⟨d1, d2, d3, hGa1⟩ hS1
  have hM := hX.2.2.2.2.2.2.2.2.2.2
  refine lv_aload_n hx hb dL_law_870 rfl (lv_at hl 2 rfl) ?_
  refine lv_aload_n hx hb dL_law_871 rfl (lv_at hl 0 rfl) ?_
  refine lv_iload_n hx hb dL_law_872 rfl (lv_at hl 3 rfl) ?_
  refine lv_iconst (v := 1) hx hb dL_law_873 (by decide) ?_
  refine lv_iadd hx hb dL_law_874 ?_
  refine lq_ld C hG i1 e1 dL_law_875 ?_
  refine lv_aload_n hx hb dL_law_876 rfl (lv_at hl 0 rfl) ?_
  refine lv_iload_n hx hb dL_law_877 rfl (lv_at hl 3 rfl) ?_
  refine lv_iconst (v := 2) hx hb dL_law_878 (by decide) ?_
  refine lv_iadd hx hb dL_law_879 ?_
  refine lq_ld C hG i2 e2 dL_law_880 ?_
  refine lv_aload_n hx hb dL_law_881 rfl (lv_at hl 0 rfl) ?_
  refine lv_iload_n hx hb dL_law_882 rfl (lv_at hl 3 rfl) ?_
  refine lv_iconst (v := 3) hx hb dL_law_883 (by decide) ?_
  refine lv_iadd hx hb dL_law_884 ?_
  refine lq_ld C hG i3 e3 dL_law_885 ?_
  refine lv_aload_n hx hb dL_law_886 rfl (lv_at hl 0 rfl) ?_
  refine lv_iload_n hx hb dL_law_887 rfl (lv_at hl 3 rfl) ?_
  refine lv_iconst (v := 4) hx hb dL_law_888 (by decide) ?_
  refine lv_iadd hx hb dL_law_889 ?_
  refine lq_ld C hG i4 e4 dL_law_890 ?_
  refine lv_aload_n hx hb dL_law_891 rfl (lv_at hl 0 rfl) ?_
  refine lv_iload_n hx hb dL_law_892 rfl (lv_at hl 3 rfl) ?_
  refine lv_iconst (v := 5) hx hb dL_law_893 (by decide) ?_
  refine lv_iadd hx hb dL_law_894 ?_
  refine lq_ld C hG i5 e5 dL_law_895 ?_
  refine xg_mi (va_runV (As := [.int a1, .int a2, .int a3, .int a4, .int a5]) (rest := [.int r1]) S (mX8_game l D cI cZ s.heap.size ad w1 (b + 75) A I L hM a1 a2 a3 a4 a5 st hst8 h4 h5) (cwV 5 hts gL_law_X8_game rfl rfl rfl (by decide +kernel) ⟨Nat.le_of_ble_eq_true rfl, Nat.le_of_ble_eq_true rfl⟩) (xg_preV hK hG (b + 75) hM.1 rfl rfl) rfl rfl hl.1 rfl (lv_room (Nat.le_of_ble_eq_true rfl)) dL_law_896 ⟨Nat.le_of_ble_eq_true rfl, Nat.le_of_ble_eq_true rfl⟩) hG (fun r2 w2 H locs hq2 hG => ?_)
  obtain ⟨hr2, hM2, hS2⟩ := hq2
  have hX := hX.M hM2 hS2
  refine lv_icmp_eq (tgt := 1240) hx hb dL_law_899 (by decide) (fun _ => ?_) (fun q => absurd (hr1.trans ((eq_gam hE.1 h4 h5 a1 a2 a3 a4 a5).trans hr2.symm)) q)
  exact kk _ _ _ ⟨_, _, _, _, _, _, _, _, _, _, hX, la_game hE a1 a2 a3 a4 a5 st⟩ hG
set_option maxHeartbeats 4000000 in
set_option maxRecDepth 100000 in
theorem law_enough {p : Program} {l : Launch} {e : Env} {s : State} {m : MethodId} {below : List Frame} {meth : Method} {c : Code} {H : Heap} {locs : List Loc} {Q : State → Prop} {ls : Array Slot} {sb N b B : Nat} {xs : Nat → Int32} {D : va_G} {cI cZ : ClassId} {ad : Nat → Nat} {ws : va_W} {x3 : Int32} (C : lq s m meth p c sb N xs D cI cZ) (hJ : lj cI cZ ad b B ws) (hB : B + 2000 < 2 ^ 30) (hG : xg_H D s.heap.size ws s.heap H locs) (hl : lv_has ls 4 [(0, .ref sb), (1, .ref (ad b)), (2, .ref (ad (b + 75))), (3, .int x3)]) (i1 : vp_in (x3 + 1) N) (i2 : vp_in (x3 + 2) N) (i3 : vp_in (x3 + 3) N) (i4 : vp_in (x3 + 4) N) (i5 : vp_in (x3 + 5) N) (kk : ∀ (w : va_W) (H1 : Heap) (locs1 : List Loc), lj cI cZ ad b (B + 2000) w → xg_H D s.heap.size w s.heap H1 locs1 → W p l e room_1 s m #[Value.ref sb] below meth c H1 locs1 99 1284 Q (F0 m 1240 ls [])) : W p l e room_1 s m #[Value.ref sb] below meth c H locs 99 1284 Q (F0 m 904 ls []) := by
  obtain ⟨S, hret, hlk, hK, hXs, hsb⟩ := id C
  obtain ⟨hx, hb, hml, hown, hts⟩ := id S
  obtain ⟨a1, e1⟩ : ∃ y : Int32, xs (x3 + 1).toNatClampNeg = y := ⟨_, rfl⟩
  obtain ⟨a2, e2⟩ : ∃ y : Int32, xs (x3 + 2).toNatClampNeg = y := ⟨_, rfl⟩
  obtain ⟨a3, e3⟩ : ∃ y : Int32, xs (x3 + 3).toNatClampNeg = y := ⟨_, rfl⟩
  obtain ⟨a4, e4⟩ : ∃ y : Int32, xs (x3 + 4).toNatClampNeg = y := ⟨_, rfl⟩
  obtain ⟨a5, e5⟩ : ∃ y : Int32, xs (x3 + 5).toNatClampNeg = y := ⟨_, rfl⟩
  obtain ⟨fk, sk, nn, T, TF, TS, g, A, I, L, hX, hE⟩ := hJ
  obtain ⟨hO, hT, hF, hSd, hPo, hP, ⟨ev, wh, dn, rf, db, he, TA, f, u, v, hSo, hA, hTi, hCh⟩, ⟨dn0, la0, re0, u0, v0, hCl, hCc⟩, ⟨ch0, td0, tr0, hGa⟩, ⟨dnY, rfY, huY, TY, hYo, hYt⟩, hM⟩ := id hX
  refine lv_aload_n hx hb dL_law_904 rfl (lv_at hl 1 rfl) ?_
  refine lv_aload_n hx hb dL_law_905 rfl (lv_at hl 0 rfl) ?_
  refine lv_iload_n hx hb dL_law_906 rfl (lv_at hl 3 rfl) ?_
  refine lv_iconst (v := 1) hx hb dL_law_907 (by decide) ?_
  refine lv_iadd hx hb dL_law_908 ?_
  refine lq_ld C hG i1 e1 dL_law_909 ?_
  refine xg_ri (va_runV (As := [.int a1]) (rest := []) S (mX7_enough l D cI cZ s.heap.size ad ws b fk sk hO T hT a1) (cwV 1 hts gL_law_X7_enough rfl rfl rfl (by decide +kernel) ⟨Nat.le_of_ble_eq_true rfl, Nat.le_of_ble_eq_true rfl⟩) (xg_preV hK hG b hO rfl rfl) rfl rfl hl.1 rfl (lv_room (Nat.le_of_ble_eq_true rfl)) dL_law_910 ⟨Nat.le_of_ble_eq_true rfl, Nat.le_of_ble_eq_true rfl⟩) (fun r1 hr1 => ?_)
  refine lv_aload_n hx hb dL_law_913 rfl (lv_at hl 2 rfl) ?_
  refine lv_aload_n hx hb dL_law_914 rfl (lv_at hl 0 rfl) ?_
  refine lv_iload_n hx hb dL_law_915 rfl (lv_at hl 3 rfl) ?_
  refine lv_iconst (v := 1) hx hb dL_law_916 (by decide) ?_
  refine lv_iadd hx hb dL_law_917 ?_
  refine lq_ld C hG i1 e1 dL_law_918 ?_
  refine xg_ri (va_runV (As := [.int a1]) (rest := [.int r1]) S (mX8_enough l D cI cZ s.heap.size ad ws (b + 75) A I L hM a1) (cwV 1 hts gL_law_X8_enough rfl rfl rfl (by decide +kernel) ⟨Nat.le_of_ble_eq_true rfl, Nat.le_of_ble_eq_true rfl⟩) (xg_preV hK hG (b + 75) hM.1 rfl rfl) rfl rfl hl.1 rfl (lv_room (Nat.le_of_ble_eq_true rfl)) dL_law_919 ⟨Nat.le_of_ble_eq_true rfl, Nat.le_of_ble_eq_true rfl⟩) (fun r2 hr2 => ?_)
  refine lv_icmp_eq (tgt := 1240) hx hb dL_law_922 (by decide) (fun _ => ?_) (fun q => absurd (hr1.trans ((eq_eno hE.1 a1).trans hr2.symm)) q)
  exact kk _ _ _ ⟨_, _, _, _, _, _, _, _, _, _, hX, la_same hE⟩ hG
set_option maxHeartbeats 4000000 in
set_option maxRecDepth 100000 in
theorem law_holds {p : Program} {l : Launch} {e : Env} {s : State} {m : MethodId} {below : List Frame} {meth : Method} {c : Code} {H : Heap} {locs : List Loc} {Q : State → Prop} {ls : Array Slot} {sb N b B : Nat} {xs : Nat → Int32} {D : va_G} {cI cZ : ClassId} {ad : Nat → Nat} {ws : va_W} {x3 : Int32} (C : lq s m meth p c sb N xs D cI cZ) (hJ : lj cI cZ ad b B ws) (hB : B + 2000 < 2 ^ 30) (hG : xg_H D s.heap.size ws s.heap H locs) (hl : lv_has ls 4 [(0, .ref sb), (1, .ref (ad b)), (2, .ref (ad (b + 75))), (3, .int x3)]) (i1 : vp_in (x3 + 1) N) (i2 : vp_in (x3 + 2) N) (i3 : vp_in (x3 + 3) N) (i4 : vp_in (x3 + 4) N) (i5 : vp_in (x3 + 5) N) (kk : ∀ (w : va_W) (H1 : Heap) (locs1 : List Loc), lj cI cZ ad b (B + 2000) w → xg_H D s.heap.size w s.heap H1 locs1 → W p l e room_1 s m #[Value.ref sb] below meth c H1 locs1 99 1284 Q (F0 m 1240 ls [])) : W p l e room_1 s m #[Value.ref sb] below meth c H locs 99 1284 Q (F0 m 927 ls []) := by
  obtain ⟨S, hret, hlk, hK, hXs, hsb⟩ := id C
  obtain ⟨hx, hb, hml, hown, hts⟩ := id S
  obtain ⟨a1, e1⟩ : ∃ y : Int32, xs (x3 + 1).toNatClampNeg = y := ⟨_, rfl⟩
  obtain ⟨a2, e2⟩ : ∃ y : Int32, xs (x3 + 2).toNatClampNeg = y := ⟨_, rfl⟩
  obtain ⟨a3, e3⟩ : ∃ y : Int32, xs (x3 + 3).toNatClampNeg = y := ⟨_, rfl⟩
  obtain ⟨a4, e4⟩ : ∃ y : Int32, xs (x3 + 4).toNatClampNeg = y := ⟨_, rfl⟩
  obtain ⟨a5, e5⟩ : ∃ y : Int32, xs (x3 + 5).toNatClampNeg = y := ⟨_, rfl⟩
  obtain ⟨fk, sk, nn, T, TF, TS, g, A, I, L, hX, hE⟩ := hJ
  obtain ⟨hO, hT, hF, hSd, hPo, hP, ⟨ev, wh, dn, rf, db, he, TA, f, u, v, hSo, hA, hTi, hCh⟩, ⟨dn0, la0, re0, u0, v0, hCl, hCc⟩, ⟨ch0, td0, tr0, hGa⟩, ⟨dnY, rfY, huY, TY, hYo, hYt⟩, hM⟩ := id hX
  refine lv_aload_n hx hb dL_law_927 rfl (lv_at hl 1 rfl) ?_
  refine lv_aload_n hx hb dL_law_928 rfl (lv_at hl 0 rfl) ?_
  refine lv_iload_n hx hb dL_law_929 rfl (lv_at hl 3 rfl) ?_
  refine lv_iconst (v := 1) hx hb dL_law_930 (by decide) ?_
  refine lv_iadd hx hb dL_law_931 ?_
  refine lq_ld C hG i1 e1 dL_law_932 ?_
  refine xg_ri (va_runV (As := [.int a1]) (rest := []) S (mX7_holds l D cI cZ s.heap.size ad ws b fk sk hO T hT a1) (cwV 1 hts gL_law_X7_holds rfl rfl rfl (by decide +kernel) ⟨Nat.le_of_ble_eq_true rfl, Nat.le_of_ble_eq_true rfl⟩) (xg_preV hK hG b hO rfl rfl) rfl rfl hl.1 rfl (lv_room (Nat.le_of_ble_eq_true rfl)) dL_law_933 ⟨Nat.le_of_ble_eq_true rfl, Nat.le_of_ble_eq_true rfl⟩) (fun r1 hr1 => ?_)
  refine lv_aload_n hx hb dL_law_936 rfl (lv_at hl 2 rfl) ?_
  refine lv_aload_n hx hb dL_law_937 rfl (lv_at hl 0 rfl) ?_
  refine lv_iload_n hx hb dL_law_938 rfl (lv_at hl 3 rfl) ?_
  refine lv_iconst (v := 1) hx hb dL_law_939 (by decide) ?_
  refine lv_iadd hx hb dL_law_940 ?_
  refine lq_ld C hG i1 e1 dL_law_941 ?_
  refine xg_ri (va_runV (As := [.int a1]) (rest := [.int r1]) S (mX8_holds l D cI cZ s.heap.size ad ws (b + 75) A I L hM a1 hE.1.1) (cwV 1 hts gL_law_X8_holds rfl rfl rfl (by decide +kernel) ⟨Nat.le_of_ble_eq_true rfl, Nat.le_of_ble_eq_true rfl⟩) (xg_preV hK hG (b + 75) hM.1 rfl rfl) rfl rfl hl.1 rfl (lv_room (Nat.le_of_ble_eq_true rfl)) dL_law_942 ⟨Nat.le_of_ble_eq_true rfl, Nat.le_of_ble_eq_true rfl⟩) (fun r2 hr2 => ?_)
  refine lv_icmp_eq (tgt := 1240) hx hb dL_law_945 (by decide) (fun _ => ?_) (fun q => absurd (hr1.trans ((eq_hol hE.1 a1).trans hr2.symm)) q)
  exact kk _ _ _ ⟨_, _, _, _, _, _, _, _, _, _, hX, la_same hE⟩ hG
set_option maxHeartbeats 4000000 in
set_option maxRecDepth 100000 in
theorem law_won {p : Program} {l : Launch} {e : Env} {s : State} {m : MethodId} {below : List Frame} {meth : Method} {c : Code} {H : Heap} {locs : List Loc} {Q : State → Prop} {ls : Array Slot} {sb N b B : Nat} {xs : Nat → Int32} {D : va_G} {cI cZ : ClassId} {ad : Nat → Nat} {ws : va_W} {x3 : Int32} (C : lq s m meth p c sb N xs D cI cZ) (hJ : lj cI cZ ad b B ws) (hB : B + 2000 < 2 ^ 30) (hG : xg_H D s.heap.size ws s.heap H locs) (hl : lv_has ls 4 [(0, .ref sb), (1, .ref (ad b)), (2, .ref (ad (b + 75))), (3, .int x3)]) (i1 : vp_in (x3 + 1) N) (i2 : vp_in (x3 + 2) N) (i3 : vp_in (x3 + 3) N) (i4 : vp_in (x3 + 4) N) (i5 : vp_in (x3 + 5) N) (kk : ∀ (w : va_W) (H1 : Heap) (locs1 : List Loc), lj cI cZ ad b (B + 2000) w → xg_H D s.heap.size w s.heap H1 locs1 → W p l e room_1 s m #[Value.ref sb] below meth c H1 locs1 99 1284 Q (F0 m 1240 ls [])) : W p l e room_1 s m #[Value.ref sb] below meth c H locs 99 1284 Q (F0 m 950 ls []) := by
  obtain ⟨S, hret, hlk, hK, hXs, hsb⟩ := id C
  obtain ⟨hx, hb, hml, hown, hts⟩ := id S
  obtain ⟨a1, e1⟩ : ∃ y : Int32, xs (x3 + 1).toNatClampNeg = y := ⟨_, rfl⟩
  obtain ⟨a2, e2⟩ : ∃ y : Int32, xs (x3 + 2).toNatClampNeg = y := ⟨_, rfl⟩
  obtain ⟨a3, e3⟩ : ∃ y : Int32, xs (x3 + 3).toNatClampNeg = y := ⟨_, rfl⟩
  obtain ⟨a4, e4⟩ : ∃ y : Int32, xs (x3 + 4).toNatClampNeg = y := ⟨_, rfl⟩
  obtain ⟨a5, e5⟩ : ∃ y : Int32, xs (x3 + 5).toNatClampNeg = y := ⟨_, rfl⟩
  obtain ⟨fk, sk, nn, T, TF, TS, g, A, I, L, hX, hE⟩ := hJ
  obtain ⟨hO, hT, hF, hSd, hPo, hP, ⟨ev, wh, dn, rf, db, he, TA, f, u, v, hSo, hA, hTi, hCh⟩, ⟨dn0, la0, re0, u0, v0, hCl, hCc⟩, ⟨ch0, td0, tr0, hGa⟩, ⟨dnY, rfY, huY, TY, hYo, hYt⟩, hM⟩ := id hX
  refine lv_aload_n hx hb dL_law_950 rfl (lv_at hl 1 rfl) ?_
  refine lv_aload_n hx hb dL_law_951 rfl (lv_at hl 0 rfl) ?_
  refine lv_iload_n hx hb dL_law_952 rfl (lv_at hl 3 rfl) ?_
  refine lv_iconst (v := 1) hx hb dL_law_953 (by decide) ?_
  refine lv_iadd hx hb dL_law_954 ?_
  refine lq_ld C hG i1 e1 dL_law_955 ?_
  refine xg_ri (va_runV (As := [.int a1]) (rest := []) S (mX7_won l D cI cZ s.heap.size ad ws b fk sk hO T hT a1) (cwV 1 hts gL_law_X7_won rfl rfl rfl (by decide +kernel) ⟨Nat.le_of_ble_eq_true rfl, Nat.le_of_ble_eq_true rfl⟩) (xg_preV hK hG b hO rfl rfl) rfl rfl hl.1 rfl (lv_room (Nat.le_of_ble_eq_true rfl)) dL_law_956 ⟨Nat.le_of_ble_eq_true rfl, Nat.le_of_ble_eq_true rfl⟩) (fun r1 hr1 => ?_)
  refine lv_aload_n hx hb dL_law_959 rfl (lv_at hl 2 rfl) ?_
  refine lv_aload_n hx hb dL_law_960 rfl (lv_at hl 0 rfl) ?_
  refine lv_iload_n hx hb dL_law_961 rfl (lv_at hl 3 rfl) ?_
  refine lv_iconst (v := 1) hx hb dL_law_962 (by decide) ?_
  refine lv_iadd hx hb dL_law_963 ?_
  refine lq_ld C hG i1 e1 dL_law_964 ?_
  refine xg_ri (va_runV (As := [.int a1]) (rest := [.int r1]) S (mX8_won l D cI cZ s.heap.size ad ws (b + 75) A I L hM a1 hE.1.1) (cwV 1 hts gL_law_X8_won rfl rfl rfl (by decide +kernel) ⟨Nat.le_of_ble_eq_true rfl, Nat.le_of_ble_eq_true rfl⟩) (xg_preV hK hG (b + 75) hM.1 rfl rfl) rfl rfl hl.1 rfl (lv_room (Nat.le_of_ble_eq_true rfl)) dL_law_965 ⟨Nat.le_of_ble_eq_true rfl, Nat.le_of_ble_eq_true rfl⟩) (fun r2 hr2 => ?_)
  refine lv_icmp_eq (tgt := 1240) hx hb dL_law_968 (by decide) (fun _ => ?_) (fun q => absurd (hr1.trans ((eq_won hE.1 a1).trans hr2.symm)) q)
  exact kk _ _ _ ⟨_, _, _, _, _, _, _, _, _, _, hX, la_same hE⟩ hG
set_option maxHeartbeats 4000000 in
set_option maxRecDepth 100000 in
theorem law_refuser {p : Program} {l : Launch} {e : Env} {s : State} {m : MethodId} {below : List Frame} {meth : Method} {c : Code} {H : Heap} {locs : List Loc} {Q : State → Prop} {ls : Array Slot} {sb N b B : Nat} {xs : Nat → Int32} {D : va_G} {cI cZ : ClassId} {ad : Nat → Nat} {ws : va_W} {x3 : Int32} (C : lq s m meth p c sb N xs D cI cZ) (hJ : lj cI cZ ad b B ws) (hB : B + 2000 < 2 ^ 30) (hG : xg_H D s.heap.size ws s.heap H locs) (hl : lv_has ls 4 [(0, .ref sb), (1, .ref (ad b)), (2, .ref (ad (b + 75))), (3, .int x3)]) (i1 : vp_in (x3 + 1) N) (i2 : vp_in (x3 + 2) N) (i3 : vp_in (x3 + 3) N) (i4 : vp_in (x3 + 4) N) (i5 : vp_in (x3 + 5) N) (kk : ∀ (w : va_W) (H1 : Heap) (locs1 : List Loc), lj cI cZ ad b (B + 2000) w → xg_H D s.heap.size w s.heap H1 locs1 → W p l e room_1 s m #[Value.ref sb] below meth c H1 locs1 99 1284 Q (F0 m 1240 ls [])) : W p l e room_1 s m #[Value.ref sb] below meth c H locs 99 1284 Q (F0 m 973 ls []) := by
  obtain ⟨S, hret, hlk, hK, hXs, hsb⟩ := id C
  obtain ⟨hx, hb, hml, hown, hts⟩ := id S
  obtain ⟨a1, e1⟩ : ∃ y : Int32, xs (x3 + 1).toNatClampNeg = y := ⟨_, rfl⟩
  obtain ⟨a2, e2⟩ : ∃ y : Int32, xs (x3 + 2).toNatClampNeg = y := ⟨_, rfl⟩
  obtain ⟨a3, e3⟩ : ∃ y : Int32, xs (x3 + 3).toNatClampNeg = y := ⟨_, rfl⟩
  obtain ⟨a4, e4⟩ : ∃ y : Int32, xs (x3 + 4).toNatClampNeg = y := ⟨_, rfl⟩
  obtain ⟨a5, e5⟩ : ∃ y : Int32, xs (x3 + 5).toNatClampNeg = y := ⟨_, rfl⟩
  obtain ⟨fk, sk, nn, T, TF, TS, g, A, I, L, hX, hE⟩ := hJ
  obtain ⟨hO, hT, hF, hSd, hPo, hP, ⟨ev, wh, dn, rf, db, he, TA, f, u, v, hSo, hA, hTi, hCh⟩, ⟨dn0, la0, re0, u0, v0, hCl, hCc⟩, ⟨ch0, td0, tr0, hGa⟩, ⟨dnY, rfY, huY, TY, hYo, hYt⟩, hM⟩ := id hX
  refine lv_aload_n hx hb dL_law_973 rfl (lv_at hl 1 rfl) ?_
  refine lv_aload_n hx hb dL_law_974 rfl (lv_at hl 0 rfl) ?_
  refine lv_iload_n hx hb dL_law_975 rfl (lv_at hl 3 rfl) ?_
  refine lv_iconst (v := 1) hx hb dL_law_976 (by decide) ?_
  refine lv_iadd hx hb dL_law_977 ?_
  refine lq_ld C hG i1 e1 dL_law_978 ?_
  refine lv_aload_n hx hb dL_law_979 rfl (lv_at hl 0 rfl) ?_
  refine lv_iload_n hx hb dL_law_980 rfl (lv_at hl 3 rfl) ?_
  refine lv_iconst (v := 2) hx hb dL_law_981 (by decide) ?_
  refine lv_iadd hx hb dL_law_982 ?_
  refine lq_ld C hG i2 e2 dL_law_983 ?_
  refine xg_ri (va_runV (As := [.int a1, .int a2]) (rest := []) S (mX7_refuser l D cI cZ s.heap.size ad ws b fk sk hO T hT a1 a2) (cwV 2 hts gL_law_X7_refuser rfl rfl rfl (by decide +kernel) ⟨Nat.le_of_ble_eq_true rfl, Nat.le_of_ble_eq_true rfl⟩) (xg_preV hK hG b hO rfl rfl) rfl rfl hl.1 rfl (lv_room (Nat.le_of_ble_eq_true rfl)) dL_law_984 ⟨Nat.le_of_ble_eq_true rfl, Nat.le_of_ble_eq_true rfl⟩) (fun r1 hr1 => ?_)
  refine lv_aload_n hx hb dL_law_987 rfl (lv_at hl 2 rfl) ?_
  refine lv_aload_n hx hb dL_law_988 rfl (lv_at hl 0 rfl) ?_
  refine lv_iload_n hx hb dL_law_989 rfl (lv_at hl 3 rfl) ?_
  refine lv_iconst (v := 1) hx hb dL_law_990 (by decide) ?_
  refine lv_iadd hx hb dL_law_991 ?_
  refine lq_ld C hG i1 e1 dL_law_992 ?_
  refine lv_aload_n hx hb dL_law_993 rfl (lv_at hl 0 rfl) ?_
  refine lv_iload_n hx hb dL_law_994 rfl (lv_at hl 3 rfl) ?_
  refine lv_iconst (v := 2) hx hb dL_law_995 (by decide) ?_
  refine lv_iadd hx hb dL_law_996 ?_
  refine lq_ld C hG i2 e2 dL_law_997 ?_
  refine xg_ri (va_runV (As := [.int a1, .int a2]) (rest := [.int r1]) S (mX8_refuser l D cI cZ s.heap.size ad ws (b + 75) A I L hM a1 a2) (cwV 2 hts gL_law_X8_refuser rfl rfl rfl (by decide +kernel) ⟨Nat.le_of_ble_eq_true rfl, Nat.le_of_ble_eq_true rfl⟩) (xg_preV hK hG (b + 75) hM.1 rfl rfl) rfl rfl hl.1 rfl (lv_room (Nat.le_of_ble_eq_true rfl)) dL_law_998 ⟨Nat.le_of_ble_eq_true rfl, Nat.le_of_ble_eq_true rfl⟩) (fun r2 hr2 => ?_)
  refine lv_icmp_eq (tgt := 1240) hx hb dL_law_1001 (by decide) (fun _ => ?_) (fun q => absurd (hr1.trans ((eq_rfs hE.1 a1 a2).trans hr2.symm)) q)
  exact kk _ _ _ ⟨_, _, _, _, _, _, _, _, _, _, hX, la_same hE⟩ hG
