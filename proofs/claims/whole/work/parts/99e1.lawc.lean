set_option maxHeartbeats 4000000 in
set_option maxRecDepth 100000 in
theorem law_person {p : Program} {l : Launch} {e : Env} {s : State} {m : MethodId} {below : List Frame} {meth : Method} {c : Code} {H : Heap} {locs : List Loc} {Q : State → Prop} {ls : Array Slot} {sb N b B : Nat} {xs : Nat → Int32} {D : va_G} {cI cZ : ClassId} {ad : Nat → Nat} {ws : va_W} {x3 : Int32} (C : lq s m meth p c sb N xs D cI cZ) (hJ : lj cI cZ ad b B ws) (hB : B + 2000 < 2 ^ 30) (hG : xg_H D s.heap.size ws s.heap H locs) (hl : lv_has ls 4 [(0, .ref sb), (1, .ref (ad b)), (2, .ref (ad (b + 75))), (3, .int x3)]) (i1 : vp_in (x3 + 1) N) (i2 : vp_in (x3 + 2) N) (i3 : vp_in (x3 + 3) N) (i4 : vp_in (x3 + 4) N) (i5 : vp_in (x3 + 5) N) (kk : ∀ (w : va_W) (H1 : Heap) (locs1 : List Loc), lj cI cZ ad b (B + 2000) w → xg_H D s.heap.size w s.heap H1 locs1 → W p l e room_1 s m #[Value.ref sb] below meth c H1 locs1 99 1284 Q (F0 m 1240 ls [])) : W p l e room_1 s m #[Value.ref sb] below meth c H locs 99 1284 Q (F0 m 176 ls []) := by
  obtain ⟨S, hret, hlk, hK, hXs, hsb⟩ := id C
  obtain ⟨hx, hb, hml, hown, hts⟩ := id S
  obtain ⟨a1, e1⟩ : ∃ y : Int32, xs (x3 + 1).toNatClampNeg = y := ⟨_, rfl⟩
  obtain ⟨a2, e2⟩ : ∃ y : Int32, xs (x3 + 2).toNatClampNeg = y := ⟨_, rfl⟩
  obtain ⟨a3, e3⟩ : ∃ y : Int32, xs (x3 + 3).toNatClampNeg = y := ⟨_, rfl⟩
  obtain ⟨a4, e4⟩ : ∃ y : Int32, xs (x3 + 4).toNatClampNeg = y := ⟨_, rfl⟩
  obtain ⟨a5, e5⟩ : ∃ y : Int32, xs (x3 + 5).toNatClampNeg = y := ⟨_, rfl⟩
  obtain ⟨fk, sk, nn, T, TF, TS, g, A, I, L, hX, hE⟩ := hJ
  obtain ⟨hO, hT, hF, hSd, hPo, hP, ⟨ev, wh, dn, rf, db, he, TA, f, u, v, hSo, hA, hTi, hCh⟩, ⟨dn0, la0, re0, u0, v0, hCl, hCc⟩, ⟨ch0, td0, tr0, hGa⟩, ⟨dnY, rfY, huY, TY, hYo, hYt⟩, hM⟩ := id hX
  by_cases c5 : a5 = 0
  · skip
    refine lv_aload_n hx hb dL_law_176 rfl (lv_at hl 1 rfl) ?_
    refine lv_aload_n hx hb dL_law_177 rfl (lv_at hl 0 rfl) ?_
    refine lv_iload_n hx hb dL_law_178 rfl (lv_at hl 3 rfl) ?_
    refine lv_iconst (v := 1) hx hb dL_law_179 (by decide) ?_
    refine lv_iadd hx hb dL_law_180 ?_
    refine lq_ld C hG i1 e1 dL_law_181 ?_
    refine lv_aload_n hx hb dL_law_182 rfl (lv_at hl 0 rfl) ?_
    refine lv_iload_n hx hb dL_law_183 rfl (lv_at hl 3 rfl) ?_
    refine lv_iconst (v := 2) hx hb dL_law_184 (by decide) ?_
    refine lv_iadd hx hb dL_law_185 ?_
    refine lq_ld C hG i2 e2 dL_law_186 ?_
    refine lv_aload_n hx hb dL_law_187 rfl (lv_at hl 0 rfl) ?_
    refine lv_iload_n hx hb dL_law_188 rfl (lv_at hl 3 rfl) ?_
    refine lv_iconst (v := 3) hx hb dL_law_189 (by decide) ?_
    refine lv_iadd hx hb dL_law_190 ?_
    refine lq_ld C hG i3 e3 dL_law_191 ?_
    refine lv_aload_n hx hb dL_law_192 rfl (lv_at hl 0 rfl) ?_
    refine lv_iload_n hx hb dL_law_193 rfl (lv_at hl 3 rfl) ?_
    refine lv_iconst (v := 4) hx hb dL_law_194 (by decide) ?_
    refine lv_iadd hx hb dL_law_195 ?_
    refine lq_ld C hG i4 e4 dL_law_196 ?_
    refine lv_aload_n hx hb dL_law_197 rfl (lv_at hl 0 rfl) ?_
    refine lv_iload_n hx hb dL_law_198 rfl (lv_at hl 3 rfl) ?_
    refine lv_iconst (v := 5) hx hb dL_law_199 (by decide) ?_
    refine lv_iadd hx hb dL_law_200 ?_
    refine lq_ld C hG i5 e5 dL_law_201 ?_
    refine lv_if_eq (tgt := 209) hx hb dL_law_202 (by decide) (fun q5 => ?_) (fun q5 => absurd c5 q5)
    refine lv_iconst (v := 0) hx hb dL_law_209 (by decide) ?_
    refine xg_mi (va_runV (As := [.int a1, .int a2, .int a3, .int a4, .int 0]) (rest := []) S (mX7_person l D cI cZ s.heap.size ad ws b fk sk hO T hT a1 a2 a3 a4 0) (cwV 5 hts gL_law_X7_person rfl rfl rfl (by decide +kernel) ⟨Nat.le_of_ble_eq_true rfl, Nat.le_of_ble_eq_true rfl⟩) (xg_preV hK hG b hO rfl rfl) rfl rfl hl.1 rfl (lv_room (Nat.le_of_ble_eq_true rfl)) dL_law_210 ⟨Nat.le_of_ble_eq_true rfl, Nat.le_of_ble_eq_true rfl⟩) hG (fun r1 w1 H locs hq1 hG => ?_)
    obtain ⟨hr1, -, hT1, hS1⟩ := hq1
    have hX := hX.now hT1 hS1
    have hM := hX.2.2.2.2.2.2.2.2.2.2
    refine lv_aload_n hx hb dL_law_213 rfl (lv_at hl 2 rfl) ?_
    refine lv_aload_n hx hb dL_law_214 rfl (lv_at hl 0 rfl) ?_
    refine lv_iload_n hx hb dL_law_215 rfl (lv_at hl 3 rfl) ?_
    refine lv_iconst (v := 1) hx hb dL_law_216 (by decide) ?_
    refine lv_iadd hx hb dL_law_217 ?_
    refine lq_ld C hG i1 e1 dL_law_218 ?_
    refine lv_aload_n hx hb dL_law_219 rfl (lv_at hl 0 rfl) ?_
    refine lv_iload_n hx hb dL_law_220 rfl (lv_at hl 3 rfl) ?_
    refine lv_iconst (v := 2) hx hb dL_law_221 (by decide) ?_
    refine lv_iadd hx hb dL_law_222 ?_
    refine lq_ld C hG i2 e2 dL_law_223 ?_
    refine lv_aload_n hx hb dL_law_224 rfl (lv_at hl 0 rfl) ?_
    refine lv_iload_n hx hb dL_law_225 rfl (lv_at hl 3 rfl) ?_
    refine lv_iconst (v := 3) hx hb dL_law_226 (by decide) ?_
    refine lv_iadd hx hb dL_law_227 ?_
    refine lq_ld C hG i3 e3 dL_law_228 ?_
    refine lv_aload_n hx hb dL_law_229 rfl (lv_at hl 0 rfl) ?_
    refine lv_iload_n hx hb dL_law_230 rfl (lv_at hl 3 rfl) ?_
    refine lv_iconst (v := 4) hx hb dL_law_231 (by decide) ?_
    refine lv_iadd hx hb dL_law_232 ?_
    refine lq_ld C hG i4 e4 dL_law_233 ?_
    refine lv_aload_n hx hb dL_law_234 rfl (lv_at hl 0 rfl) ?_
    refine lv_iload_n hx hb dL_law_235 rfl (lv_at hl 3 rfl) ?_
    refine lv_iconst (v := 5) hx hb dL_law_236 (by decide) ?_
    refine lv_iadd hx hb dL_law_237 ?_
    refine lq_ld C hG i5 e5 dL_law_238 ?_
    refine lv_if_eq (tgt := 246) hx hb dL_law_239 (by decide) (fun q5 => ?_) (fun q5 => absurd c5 q5)
    refine lv_iconst (v := 0) hx hb dL_law_246 (by decide) ?_
    refine xg_mi (va_runV (As := [.int a1, .int a2, .int a3, .int a4, .int 0]) (rest := [.int r1]) S (mX8_person l D cI cZ s.heap.size ad w1 (b + 75) A I L hM a1 a2 a3 a4 0 hE.1.1) (cwV 5 hts gL_law_X8_person rfl rfl rfl (by decide +kernel) ⟨Nat.le_of_ble_eq_true rfl, Nat.le_of_ble_eq_true rfl⟩) (xg_preV hK hG (b + 75) hM.1 rfl rfl) rfl rfl hl.1 rfl (lv_room (Nat.le_of_ble_eq_true rfl)) dL_law_247 ⟨Nat.le_of_ble_eq_true rfl, Nat.le_of_ble_eq_true rfl⟩) hG (fun r2 w2 H locs hq2 hG => ?_)
    obtain ⟨hr2, hM2, hS2⟩ := hq2
    have hX := hX.M hM2 hS2
    refine lv_icmp_eq (tgt := 1240) hx hb dL_law_250 (by decide) (fun _ => ?_) (fun q => absurd (hr1.trans (((eq_per hE.1 a1 a2 a3 a4 0).2).trans hr2.symm)) q)
    exact kk _ _ _ ⟨_, _, _, _, _, _, _, _, _, _, hX, la_person hE a1 a2 a3 a4 0⟩ hG
  · skip
    refine lv_aload_n hx hb dL_law_176 rfl (lv_at hl 1 rfl) ?_
    refine lv_aload_n hx hb dL_law_177 rfl (lv_at hl 0 rfl) ?_
    refine lv_iload_n hx hb dL_law_178 rfl (lv_at hl 3 rfl) ?_
    refine lv_iconst (v := 1) hx hb dL_law_179 (by decide) ?_
    refine lv_iadd hx hb dL_law_180 ?_
    refine lq_ld C hG i1 e1 dL_law_181 ?_
    refine lv_aload_n hx hb dL_law_182 rfl (lv_at hl 0 rfl) ?_
    refine lv_iload_n hx hb dL_law_183 rfl (lv_at hl 3 rfl) ?_
    refine lv_iconst (v := 2) hx hb dL_law_184 (by decide) ?_
    refine lv_iadd hx hb dL_law_185 ?_
    refine lq_ld C hG i2 e2 dL_law_186 ?_
    refine lv_aload_n hx hb dL_law_187 rfl (lv_at hl 0 rfl) ?_
    refine lv_iload_n hx hb dL_law_188 rfl (lv_at hl 3 rfl) ?_
    refine lv_iconst (v := 3) hx hb dL_law_189 (by decide) ?_
    refine lv_iadd hx hb dL_law_190 ?_
    refine lq_ld C hG i3 e3 dL_law_191 ?_
    refine lv_aload_n hx hb dL_law_192 rfl (lv_at hl 0 rfl) ?_
    refine lv_iload_n hx hb dL_law_193 rfl (lv_at hl 3 rfl) ?_
    refine lv_iconst (v := 4) hx hb dL_law_194 (by decide) ?_
    refine lv_iadd hx hb dL_law_195 ?_
    refine lq_ld C hG i4 e4 dL_law_196 ?_
    refine lv_aload_n hx hb dL_law_197 rfl (lv_at hl 0 rfl) ?_
    refine lv_iload_n hx hb dL_law_198 rfl (lv_at hl 3 rfl) ?_
    refine lv_iconst (v := 5) hx hb dL_law_199 (by decide) ?_
    refine lv_iadd hx hb dL_law_200 ?_
    refine lq_ld C hG i5 e5 dL_law_201 ?_
    refine lv_if_eq (tgt := 209) hx hb dL_law_202 (by decide) (fun q5 => absurd q5 c5) (fun q5 => ?_)
    refine lv_iconst (v := 1) hx hb dL_law_205 (by decide) ?_
    refine lv_goto (tgt := 210) hx hb dL_law_206 (by decide) ?_
    refine xg_mi (va_runV (As := [.int a1, .int a2, .int a3, .int a4, .int 1]) (rest := []) S (mX7_person l D cI cZ s.heap.size ad ws b fk sk hO T hT a1 a2 a3 a4 1) (cwV 5 hts gL_law_X7_person rfl rfl rfl (by decide +kernel) ⟨Nat.le_of_ble_eq_true rfl, Nat.le_of_ble_eq_true rfl⟩) (xg_preV hK hG b hO rfl rfl) rfl rfl hl.1 rfl (lv_room (Nat.le_of_ble_eq_true rfl)) dL_law_210 ⟨Nat.le_of_ble_eq_true rfl, Nat.le_of_ble_eq_true rfl⟩) hG (fun r1 w1 H locs hq1 hG => ?_)
    obtain ⟨hr1, -, hT1, hS1⟩ := hq1
    have hX := hX.now hT1 hS1
    have hM := hX.2.2.2.2.2.2.2.2.2.2
    refine lv_aload_n hx hb dL_law_213 rfl (lv_at hl 2 rfl) ?_
    refine lv_aload_n hx hb dL_law_214 rfl (lv_at hl 0 rfl) ?_
    refine lv_iload_n hx hb dL_law_215 rfl (lv_at hl 3 rfl) ?_
    refine lv_iconst (v := 1) hx hb dL_law_216 (by decide) ?_
    refine lv_iadd hx hb dL_law_217 ?_
    refine lq_ld C hG i1 e1 dL_law_218 ?_
    refine lv_aload_n hx hb dL_law_219 rfl (lv_at hl 0 rfl) ?_
    refine lv_iload_n hx hb dL_law_220 rfl (lv_at hl 3 rfl) ?_
    refine lv_iconst (v := 2) hx hb dL_law_221 (by decide) ?_
    refine lv_iadd hx hb dL_law_222 ?_
    refine lq_ld C hG i2 e2 dL_law_223 ?_
    refine lv_aload_n hx hb dL_law_224 rfl (lv_at hl 0 rfl) ?_
    refine lv_iload_n hx hb dL_law_225 rfl (lv_at hl 3 rfl) ?_
    refine lv_iconst (v := 3) hx hb dL_law_226 (by decide) ?_
    refine lv_iadd hx hb dL_law_227 ?_
    refine lq_ld C hG i3 e3 dL_law_228 ?_
    refine lv_aload_n hx hb dL_law_229 rfl (lv_at hl 0 rfl) ?_
    refine lv_iload_n hx hb dL_law_230 rfl (lv_at hl 3 rfl) ?_
    refine lv_iconst (v := 4) hx hb dL_law_231 (by decide) ?_
    refine lv_iadd hx hb dL_law_232 ?_
    refine lq_ld C hG i4 e4 dL_law_233 ?_
    refine lv_aload_n hx hb dL_law_234 rfl (lv_at hl 0 rfl) ?_
    refine lv_iload_n hx hb dL_law_235 rfl (lv_at hl 3 rfl) ?_
    refine lv_iconst (v := 5) hx hb dL_law_236 (by decide) ?_
    refine lv_iadd hx hb dL_law_237 ?_
    refine lq_ld C hG i5 e5 dL_law_238 ?_
    refine lv_if_eq (tgt := 246) hx hb dL_law_239 (by decide) (fun q5 => absurd q5 c5) (fun q5 => ?_)
    refine lv_iconst (v := 1) hx hb dL_law_242 (by decide) ?_
    refine lv_goto (tgt := 247) hx hb dL_law_243 (by decide) ?_
    refine xg_mi (va_runV (As := [.int a1, .int a2, .int a3, .int a4, .int 1]) (rest := [.int r1]) S (mX8_person l D cI cZ s.heap.size ad w1 (b + 75) A I L hM a1 a2 a3 a4 1 hE.1.1) (cwV 5 hts gL_law_X8_person rfl rfl rfl (by decide +kernel) ⟨Nat.le_of_ble_eq_true rfl, Nat.le_of_ble_eq_true rfl⟩) (xg_preV hK hG (b + 75) hM.1 rfl rfl) rfl rfl hl.1 rfl (lv_room (Nat.le_of_ble_eq_true rfl)) dL_law_247 ⟨Nat.le_of_ble_eq_true rfl, Nat.le_of_ble_eq_true rfl⟩) hG (fun r2 w2 H locs hq2 hG => ?_)
    obtain ⟨hr2, hM2, hS2⟩ := hq2
    have hX := hX.M hM2 hS2
    refine lv_icmp_eq (tgt := 1240) hx hb dL_law_250 (by decide) (fun _ => ?_) (fun q => absurd (hr1.trans (((eq_per hE.1 a1 a2 a3 a4 1).2).trans hr2.symm)) q)
    exact kk _ _ _ ⟨_, _, _, _, _, _, _, _, _, _, hX, la_person hE a1 a2 a3 a4 1⟩ hG
set_option maxHeartbeats 4000000 in
set_option maxRecDepth 100000 in
theorem law_leave {p : Program} {l : Launch} {e : Env} {s : State} {m : MethodId} {below : List Frame} {meth : Method} {c : Code} {H : Heap} {locs : List Loc} {Q : State → Prop} {ls : Array Slot} {sb N b B : Nat} {xs : Nat → Int32} {D : va_G} {cI cZ : ClassId} {ad : Nat → Nat} {ws : va_W} {x3 : Int32} (C : lq s m meth p c sb N xs D cI cZ) (hJ : lj cI cZ ad b B ws) (hB : B + 2000 < 2 ^ 30) (hG : xg_H D s.heap.size ws s.heap H locs) (hl : lv_has ls 4 [(0, .ref sb), (1, .ref (ad b)), (2, .ref (ad (b + 75))), (3, .int x3)]) (i1 : vp_in (x3 + 1) N) (i2 : vp_in (x3 + 2) N) (i3 : vp_in (x3 + 3) N) (i4 : vp_in (x3 + 4) N) (i5 : vp_in (x3 + 5) N) (kk : ∀ (w : va_W) (H1 : Heap) (locs1 : List Loc), lj cI cZ ad b (B + 2000) w → xg_H D s.heap.size w s.heap H1 locs1 → W p l e room_1 s m #[Value.ref sb] below meth c H1 locs1 99 1284 Q (F0 m 1240 ls [])) : W p l e room_1 s m #[Value.ref sb] below meth c H locs 99 1284 Q (F0 m 255 ls []) := by
  obtain ⟨S, hret, hlk, hK, hXs, hsb⟩ := id C
  obtain ⟨hx, hb, hml, hown, hts⟩ := id S
  obtain ⟨a1, e1⟩ : ∃ y : Int32, xs (x3 + 1).toNatClampNeg = y := ⟨_, rfl⟩
  obtain ⟨a2, e2⟩ : ∃ y : Int32, xs (x3 + 2).toNatClampNeg = y := ⟨_, rfl⟩
  obtain ⟨a3, e3⟩ : ∃ y : Int32, xs (x3 + 3).toNatClampNeg = y := ⟨_, rfl⟩
  obtain ⟨a4, e4⟩ : ∃ y : Int32, xs (x3 + 4).toNatClampNeg = y := ⟨_, rfl⟩
  obtain ⟨a5, e5⟩ : ∃ y : Int32, xs (x3 + 5).toNatClampNeg = y := ⟨_, rfl⟩
  obtain ⟨fk, sk, nn, T, TF, TS, g, A, I, L, hX, hE⟩ := hJ
  obtain ⟨hO, hT, hF, hSd, hPo, hP, ⟨ev, wh, dn, rf, db, he, TA, f, u, v, hSo, hA, hTi, hCh⟩, ⟨dn0, la0, re0, u0, v0, hCl, hCc⟩, ⟨ch0, td0, tr0, hGa⟩, ⟨dnY, rfY, huY, TY, hYo, hYt⟩, hM⟩ := id hX
  refine lv_aload_n hx hb dL_law_255 rfl (lv_at hl 1 rfl) ?_
  refine lv_aload_n hx hb dL_law_256 rfl (lv_at hl 0 rfl) ?_
  refine lv_iload_n hx hb dL_law_257 rfl (lv_at hl 3 rfl) ?_
  refine lv_iconst (v := 1) hx hb dL_law_258 (by decide) ?_
  refine lv_iadd hx hb dL_law_259 ?_
  refine lq_ld C hG i1 e1 dL_law_260 ?_
  refine xg_mi (va_runV (As := [.int a1]) (rest := []) S (mX7_leave l D cI cZ s.heap.size ad ws b fk sk hO T hT a1) (cwV 1 hts gL_law_X7_leave rfl rfl rfl (by decide +kernel) ⟨Nat.le_of_ble_eq_true rfl, Nat.le_of_ble_eq_true rfl⟩) (xg_preV hK hG b hO rfl rfl) rfl rfl hl.1 rfl (lv_room (Nat.le_of_ble_eq_true rfl)) dL_law_261 ⟨Nat.le_of_ble_eq_true rfl, Nat.le_of_ble_eq_true rfl⟩) hG (fun r1 w1 H locs hq1 hG => ?_)
  obtain ⟨hr1, -, hT1, hS1⟩ := hq1
  have hX := hX.now hT1 hS1
  have hM := hX.2.2.2.2.2.2.2.2.2.2
  refine lv_aload_n hx hb dL_law_264 rfl (lv_at hl 2 rfl) ?_
  refine lv_aload_n hx hb dL_law_265 rfl (lv_at hl 0 rfl) ?_
  refine lv_iload_n hx hb dL_law_266 rfl (lv_at hl 3 rfl) ?_
  refine lv_iconst (v := 1) hx hb dL_law_267 (by decide) ?_
  refine lv_iadd hx hb dL_law_268 ?_
  refine lq_ld C hG i1 e1 dL_law_269 ?_
  refine xg_mi (va_runV (As := [.int a1]) (rest := [.int r1]) S (mX8_leave l D cI cZ s.heap.size ad w1 (b + 75) A I L hM a1 hE.1.1) (cwV 1 hts gL_law_X8_leave rfl rfl rfl (by decide +kernel) ⟨Nat.le_of_ble_eq_true rfl, Nat.le_of_ble_eq_true rfl⟩) (xg_preV hK hG (b + 75) hM.1 rfl rfl) rfl rfl hl.1 rfl (lv_room (Nat.le_of_ble_eq_true rfl)) dL_law_270 ⟨Nat.le_of_ble_eq_true rfl, Nat.le_of_ble_eq_true rfl⟩) hG (fun r2 w2 H locs hq2 hG => ?_)
  obtain ⟨hr2, hM2, hS2⟩ := hq2
  have hX := hX.M hM2 hS2
  refine lv_icmp_eq (tgt := 1240) hx hb dL_law_273 (by decide) (fun _ => ?_) (fun q => absurd (hr1.trans (((eq_lea hE.1 a1).2).trans hr2.symm)) q)
  exact kk _ _ _ ⟨_, _, _, _, _, _, _, _, _, _, hX, la_leave hE a1⟩ hG
set_option maxHeartbeats 4000000 in
set_option maxRecDepth 100000 in
theorem law_set {p : Program} {l : Launch} {e : Env} {s : State} {m : MethodId} {below : List Frame} {meth : Method} {c : Code} {H : Heap} {locs : List Loc} {Q : State → Prop} {ls : Array Slot} {sb N b B : Nat} {xs : Nat → Int32} {D : va_G} {cI cZ : ClassId} {ad : Nat → Nat} {ws : va_W} {x3 : Int32} (C : lq s m meth p c sb N xs D cI cZ) (hJ : lj cI cZ ad b B ws) (hB : B + 2000 < 2 ^ 30) (hG : xg_H D s.heap.size ws s.heap H locs) (hl : lv_has ls 4 [(0, .ref sb), (1, .ref (ad b)), (2, .ref (ad (b + 75))), (3, .int x3)]) (i1 : vp_in (x3 + 1) N) (i2 : vp_in (x3 + 2) N) (i3 : vp_in (x3 + 3) N) (i4 : vp_in (x3 + 4) N) (i5 : vp_in (x3 + 5) N) (kk : ∀ (w : va_W) (H1 : Heap) (locs1 : List Loc), lj cI cZ ad b (B + 2000) w → xg_H D s.heap.size w s.heap H1 locs1 → W p l e room_1 s m #[Value.ref sb] below meth c H1 locs1 99 1284 Q (F0 m 1240 ls [])) : W p l e room_1 s m #[Value.ref sb] below meth c H locs 99 1284 Q (F0 m 278 ls []) := by
  obtain ⟨S, hret, hlk, hK, hXs, hsb⟩ := id C
  obtain ⟨hx, hb, hml, hown, hts⟩ := id S
  obtain ⟨a1, e1⟩ : ∃ y : Int32, xs (x3 + 1).toNatClampNeg = y := ⟨_, rfl⟩
  obtain ⟨a2, e2⟩ : ∃ y : Int32, xs (x3 + 2).toNatClampNeg = y := ⟨_, rfl⟩
  obtain ⟨a3, e3⟩ : ∃ y : Int32, xs (x3 + 3).toNatClampNeg = y := ⟨_, rfl⟩
  obtain ⟨a4, e4⟩ : ∃ y : Int32, xs (x3 + 4).toNatClampNeg = y := ⟨_, rfl⟩
  obtain ⟨a5, e5⟩ : ∃ y : Int32, xs (x3 + 5).toNatClampNeg = y := ⟨_, rfl⟩
  obtain ⟨fk, sk, nn, T, TF, TS, g, A, I, L, hX, hE⟩ := hJ
  obtain ⟨hO, hT, hF, hSd, hPo, hP, ⟨ev, wh, dn, rf, db, he, TA, f, u, v, hSo, hA, hTi, hCh⟩, ⟨dn0, la0, re0, u0, v0, hCl, hCc⟩, ⟨ch0, td0, tr0, hGa⟩, ⟨dnY, rfY, huY, TY, hYo, hYt⟩, hM⟩ := id hX
  refine lv_aload_n hx hb dL_law_278 rfl (lv_at hl 1 rfl) ?_
  refine lv_aload_n hx hb dL_law_279 rfl (lv_at hl 0 rfl) ?_
  refine lv_iload_n hx hb dL_law_280 rfl (lv_at hl 3 rfl) ?_
  refine lv_iconst (v := 1) hx hb dL_law_281 (by decide) ?_
  refine lv_iadd hx hb dL_law_282 ?_
  refine lq_ld C hG i1 e1 dL_law_283 ?_
  refine lv_aload_n hx hb dL_law_284 rfl (lv_at hl 0 rfl) ?_
  refine lv_iload_n hx hb dL_law_285 rfl (lv_at hl 3 rfl) ?_
  refine lv_iconst (v := 2) hx hb dL_law_286 (by decide) ?_
  refine lv_iadd hx hb dL_law_287 ?_
  refine lq_ld C hG i2 e2 dL_law_288 ?_
  refine xg_mi (va_runV (As := [.int a1, .int a2]) (rest := []) S (mX7_set l D cI cZ s.heap.size ad ws b fk sk hO T hT a1 a2) (cwV 2 hts gL_law_X7_set rfl rfl rfl (by decide +kernel) ⟨Nat.le_of_ble_eq_true rfl, Nat.le_of_ble_eq_true rfl⟩) (xg_preV hK hG b hO rfl rfl) rfl rfl hl.1 rfl (lv_room (Nat.le_of_ble_eq_true rfl)) dL_law_289 ⟨Nat.le_of_ble_eq_true rfl, Nat.le_of_ble_eq_true rfl⟩) hG (fun r1 w1 H locs hq1 hG => ?_)
  obtain ⟨hr1, -, hT1, hS1⟩ := hq1
  have hX := hX.now hT1 hS1
  have hM := hX.2.2.2.2.2.2.2.2.2.2
  refine lv_aload_n hx hb dL_law_292 rfl (lv_at hl 2 rfl) ?_
  refine lv_aload_n hx hb dL_law_293 rfl (lv_at hl 0 rfl) ?_
  refine lv_iload_n hx hb dL_law_294 rfl (lv_at hl 3 rfl) ?_
  refine lv_iconst (v := 1) hx hb dL_law_295 (by decide) ?_
  refine lv_iadd hx hb dL_law_296 ?_
  refine lq_ld C hG i1 e1 dL_law_297 ?_
  refine lv_aload_n hx hb dL_law_298 rfl (lv_at hl 0 rfl) ?_
  refine lv_iload_n hx hb dL_law_299 rfl (lv_at hl 3 rfl) ?_
  refine lv_iconst (v := 2) hx hb dL_law_300 (by decide) ?_
  refine lv_iadd hx hb dL_law_301 ?_
  refine lq_ld C hG i2 e2 dL_law_302 ?_
  refine xg_mi (va_runV (As := [.int a1, .int a2]) (rest := [.int r1]) S (mX8_set l D cI cZ s.heap.size ad w1 (b + 75) A I L hM a1 a2) (cwV 2 hts gL_law_X8_set rfl rfl rfl (by decide +kernel) ⟨Nat.le_of_ble_eq_true rfl, Nat.le_of_ble_eq_true rfl⟩) (xg_preV hK hG (b + 75) hM.1 rfl rfl) rfl rfl hl.1 rfl (lv_room (Nat.le_of_ble_eq_true rfl)) dL_law_303 ⟨Nat.le_of_ble_eq_true rfl, Nat.le_of_ble_eq_true rfl⟩) hG (fun r2 w2 H locs hq2 hG => ?_)
  obtain ⟨hr2, hM2, hS2⟩ := hq2
  have hX := hX.M hM2 hS2
  refine lv_icmp_eq (tgt := 1240) hx hb dL_law_306 (by decide) (fun _ => ?_) (fun q => absurd (hr1.trans (((eq_set hE.1 hE.2.1 a1 a2).2.2).trans hr2.symm)) q)
  exact kk _ _ _ ⟨_, _, _, _, _, _, _, _, _, _, hX, la_set hE a1 a2⟩ hG
set_option maxHeartbeats 4000000 in
set_option maxRecDepth 100000 in
theorem law_say {p : Program} {l : Launch} {e : Env} {s : State} {m : MethodId} {below : List Frame} {meth : Method} {c : Code} {H : Heap} {locs : List Loc} {Q : State → Prop} {ls : Array Slot} {sb N b B : Nat} {xs : Nat → Int32} {D : va_G} {cI cZ : ClassId} {ad : Nat → Nat} {ws : va_W} {x3 : Int32} (C : lq s m meth p c sb N xs D cI cZ) (hJ : lj cI cZ ad b B ws) (hB : B + 2000 < 2 ^ 30) (hG : xg_H D s.heap.size ws s.heap H locs) (hl : lv_has ls 4 [(0, .ref sb), (1, .ref (ad b)), (2, .ref (ad (b + 75))), (3, .int x3)]) (i1 : vp_in (x3 + 1) N) (i2 : vp_in (x3 + 2) N) (i3 : vp_in (x3 + 3) N) (i4 : vp_in (x3 + 4) N) (i5 : vp_in (x3 + 5) N) (kk : ∀ (w : va_W) (H1 : Heap) (locs1 : List Loc), lj cI cZ ad b (B + 2000) w → xg_H D s.heap.size w s.heap H1 locs1 → W p l e room_1 s m #[Value.ref sb] below meth c H1 locs1 99 1284 Q (F0 m 1240 ls [])) : W p l e room_1 s m #[Value.ref sb] below meth c H locs 99 1284 Q (F0 m 311 ls []) := by
  obtain ⟨S, hret, hlk, hK, hXs, hsb⟩ := id C
  obtain ⟨hx, hb, hml, hown, hts⟩ := id S
  obtain ⟨a1, e1⟩ : ∃ y : Int32, xs (x3 + 1).toNatClampNeg = y := ⟨_, rfl⟩
  obtain ⟨a2, e2⟩ : ∃ y : Int32, xs (x3 + 2).toNatClampNeg = y := ⟨_, rfl⟩
  obtain ⟨a3, e3⟩ : ∃ y : Int32, xs (x3 + 3).toNatClampNeg = y := ⟨_, rfl⟩
  obtain ⟨a4, e4⟩ : ∃ y : Int32, xs (x3 + 4).toNatClampNeg = y := ⟨_, rfl⟩
  obtain ⟨a5, e5⟩ : ∃ y : Int32, xs (x3 + 5).toNatClampNeg = y := ⟨_, rfl⟩
  obtain ⟨fk, sk, nn, T, TF, TS, g, A, I, L, hX, hE⟩ := hJ
  obtain ⟨hO, hT, hF, hSd, hPo, hP, ⟨ev, wh, dn, rf, db, he, TA, f, u, v, hSo, hA, hTi, hCh⟩, ⟨dn0, la0, re0, u0, v0, hCl, hCc⟩, ⟨ch0, td0, tr0, hGa⟩, ⟨dnY, rfY, huY, TY, hYo, hYt⟩, hM⟩ := id hX
  refine lv_aload_n hx hb dL_law_311 rfl (lv_at hl 1 rfl) ?_
  refine lv_aload_n hx hb dL_law_312 rfl (lv_at hl 0 rfl) ?_
  refine lv_iload_n hx hb dL_law_313 rfl (lv_at hl 3 rfl) ?_
  refine lv_iconst (v := 1) hx hb dL_law_314 (by decide) ?_
  refine lv_iadd hx hb dL_law_315 ?_
  refine lq_ld C hG i1 e1 dL_law_316 ?_
  refine xg_mi (va_runV (As := [.int a1]) (rest := []) S (mX7_say l D cI cZ s.heap.size ad ws b fk sk hO (nI nn) hPo g hP a1) (cwV 1 hts gL_law_X7_say rfl rfl rfl (by decide +kernel) ⟨Nat.le_of_ble_eq_true rfl, Nat.le_of_ble_eq_true rfl⟩) (xg_preV hK hG b hO rfl rfl) rfl rfl hl.1 rfl (lv_room (Nat.le_of_ble_eq_true rfl)) dL_law_317 ⟨Nat.le_of_ble_eq_true rfl, Nat.le_of_ble_eq_true rfl⟩) hG (fun r1 w1 H locs hq1 hG => ?_)
  obtain ⟨hr1, -, hPo1, hP1, hS1⟩ := hq1
  have hX := hX.pad hPo1 hP1 hS1
  have hM := hX.2.2.2.2.2.2.2.2.2.2
  refine lv_aload_n hx hb dL_law_320 rfl (lv_at hl 2 rfl) ?_
  refine lv_aload_n hx hb dL_law_321 rfl (lv_at hl 0 rfl) ?_
  refine lv_iload_n hx hb dL_law_322 rfl (lv_at hl 3 rfl) ?_
  refine lv_iconst (v := 1) hx hb dL_law_323 (by decide) ?_
  refine lv_iadd hx hb dL_law_324 ?_
  refine lq_ld C hG i1 e1 dL_law_325 ?_
  refine xg_mi (va_runV (As := [.int a1]) (rest := [.int r1]) S (mX8_say l D cI cZ s.heap.size ad w1 (b + 75) A I L hM a1 nn hE.2.2.2.1 hE.2.2.1) (cwV 1 hts gL_law_X8_say rfl rfl rfl (by decide +kernel) ⟨Nat.le_of_ble_eq_true rfl, Nat.le_of_ble_eq_true rfl⟩) (xg_preV hK hG (b + 75) hM.1 rfl rfl) rfl rfl hl.1 rfl (lv_room (Nat.le_of_ble_eq_true rfl)) dL_law_326 ⟨Nat.le_of_ble_eq_true rfl, Nat.le_of_ble_eq_true rfl⟩) hG (fun r2 w2 H locs hq2 hG => ?_)
  obtain ⟨hr2, hM2, hS2⟩ := hq2
  have hX := hX.M hM2 hS2
  refine lv_icmp_eq (tgt := 1240) hx hb dL_law_329 (by decide) (fun _ => ?_) (fun q => absurd (hr1.trans (((eq_say hE.2.2.1 hE.2.2.2.1 hE.2.2.2.2.1 a1).1).trans hr2.symm)) q)
  obtain ⟨n1, hn1, hE1⟩ := la_say hE a1
  rw [hn1] at hX
  exact kk _ _ _ ⟨_, _, _, _, _, _, _, _, _, _, hX, hE1⟩ hG
set_option maxHeartbeats 4000000 in
set_option maxRecDepth 100000 in
theorem law_wipe {p : Program} {l : Launch} {e : Env} {s : State} {m : MethodId} {below : List Frame} {meth : Method} {c : Code} {H : Heap} {locs : List Loc} {Q : State → Prop} {ls : Array Slot} {sb N b B : Nat} {xs : Nat → Int32} {D : va_G} {cI cZ : ClassId} {ad : Nat → Nat} {ws : va_W} {x3 : Int32} (C : lq s m meth p c sb N xs D cI cZ) (hJ : lj cI cZ ad b B ws) (hB : B + 2000 < 2 ^ 30) (hG : xg_H D s.heap.size ws s.heap H locs) (hl : lv_has ls 4 [(0, .ref sb), (1, .ref (ad b)), (2, .ref (ad (b + 75))), (3, .int x3)]) (i1 : vp_in (x3 + 1) N) (i2 : vp_in (x3 + 2) N) (i3 : vp_in (x3 + 3) N) (i4 : vp_in (x3 + 4) N) (i5 : vp_in (x3 + 5) N) (kk : ∀ (w : va_W) (H1 : Heap) (locs1 : List Loc), lj cI cZ ad b (B + 2000) w → xg_H D s.heap.size w s.heap H1 locs1 → W p l e room_1 s m #[Value.ref sb] below meth c H1 locs1 99 1284 Q (F0 m 1240 ls [])) : W p l e room_1 s m #[Value.ref sb] below meth c H locs 99 1284 Q (F0 m 334 ls []) := by
  obtain ⟨S, hret, hlk, hK, hXs, hsb⟩ := id C
  obtain ⟨hx, hb, hml, hown, hts⟩ := id S
  obtain ⟨a1, e1⟩ : ∃ y : Int32, xs (x3 + 1).toNatClampNeg = y := ⟨_, rfl⟩
  obtain ⟨a2, e2⟩ : ∃ y : Int32, xs (x3 + 2).toNatClampNeg = y := ⟨_, rfl⟩
  obtain ⟨a3, e3⟩ : ∃ y : Int32, xs (x3 + 3).toNatClampNeg = y := ⟨_, rfl⟩
  obtain ⟨a4, e4⟩ : ∃ y : Int32, xs (x3 + 4).toNatClampNeg = y := ⟨_, rfl⟩
  obtain ⟨a5, e5⟩ : ∃ y : Int32, xs (x3 + 5).toNatClampNeg = y := ⟨_, rfl⟩
  obtain ⟨fk, sk, nn, T, TF, TS, g, A, I, L, hX, hE⟩ := hJ
  obtain ⟨hO, hT, hF, hSd, hPo, hP, ⟨ev, wh, dn, rf, db, he, TA, f, u, v, hSo, hA, hTi, hCh⟩, ⟨dn0, la0, re0, u0, v0, hCl, hCc⟩, ⟨ch0, td0, tr0, hGa⟩, ⟨dnY, rfY, huY, TY, hYo, hYt⟩, hM⟩ := id hX
  refine lv_aload_n hx hb dL_law_334 rfl (lv_at hl 1 rfl) ?_
  refine xg_mi (va_runV (As := []) (rest := []) S (mX7_wipe l D cI cZ s.heap.size ad ws b fk sk hO (nI nn) hPo g hP) (cwV 0 hts gL_law_X7_wipe rfl rfl rfl (by decide +kernel) ⟨Nat.le_of_ble_eq_true rfl, Nat.le_of_ble_eq_true rfl⟩) (xg_preV hK hG b hO rfl rfl) rfl rfl hl.1 rfl (lv_room (Nat.le_of_ble_eq_true rfl)) dL_law_335 ⟨Nat.le_of_ble_eq_true rfl, Nat.le_of_ble_eq_true rfl⟩) hG (fun r1 w1 H locs hq1 hG => ?_)
  obtain ⟨hr1, -, hPo1, hP1, hS1⟩ := hq1
  have hX := hX.pad hPo1 hP1 hS1
  have hM := hX.2.2.2.2.2.2.2.2.2.2
  refine lv_aload_n hx hb dL_law_338 rfl (lv_at hl 2 rfl) ?_
  refine xg_mi (va_runV (As := []) (rest := [.int r1]) S (mX8_wipe l D cI cZ s.heap.size ad w1 (b + 75) A I L hM) (cwV 0 hts gL_law_X8_wipe rfl rfl rfl (by decide +kernel) ⟨Nat.le_of_ble_eq_true rfl, Nat.le_of_ble_eq_true rfl⟩) (xg_preV hK hG (b + 75) hM.1 rfl rfl) rfl rfl hl.1 rfl (lv_room (Nat.le_of_ble_eq_true rfl)) dL_law_339 ⟨Nat.le_of_ble_eq_true rfl, Nat.le_of_ble_eq_true rfl⟩) hG (fun r2 w2 H locs hq2 hG => ?_)
  obtain ⟨hr2, hM2, hS2⟩ := hq2
  have hX := hX.M hM2 hS2
  refine lv_icmp_eq (tgt := 1240) hx hb dL_law_342 (by decide) (fun _ => ?_) (fun q => absurd (hr1.trans ((hE.2.2.2.1.symm).trans hr2.symm)) q)
  exact kk _ _ _ ⟨_, _, 0, _, _, _, _, _, _, _, hX, la_wipe hE⟩ hG
set_option maxHeartbeats 4000000 in
set_option maxRecDepth 100000 in
theorem law_fault {p : Program} {l : Launch} {e : Env} {s : State} {m : MethodId} {below : List Frame} {meth : Method} {c : Code} {H : Heap} {locs : List Loc} {Q : State → Prop} {ls : Array Slot} {sb N b B : Nat} {xs : Nat → Int32} {D : va_G} {cI cZ : ClassId} {ad : Nat → Nat} {ws : va_W} {x3 : Int32} (C : lq s m meth p c sb N xs D cI cZ) (hJ : lj cI cZ ad b B ws) (hB : B + 2000 < 2 ^ 30) (hG : xg_H D s.heap.size ws s.heap H locs) (hl : lv_has ls 4 [(0, .ref sb), (1, .ref (ad b)), (2, .ref (ad (b + 75))), (3, .int x3)]) (i1 : vp_in (x3 + 1) N) (i2 : vp_in (x3 + 2) N) (i3 : vp_in (x3 + 3) N) (i4 : vp_in (x3 + 4) N) (i5 : vp_in (x3 + 5) N) (kk : ∀ (w : va_W) (H1 : Heap) (locs1 : List Loc), lj cI cZ ad b (B + 2000) w → xg_H D s.heap.size w s.heap H1 locs1 → W p l e room_1 s m #[Value.ref sb] below meth c H1 locs1 99 1284 Q (F0 m 1240 ls [])) : W p l e room_1 s m #[Value.ref sb] below meth c H locs 99 1284 Q (F0 m 347 ls []) := by
  obtain ⟨S, hret, hlk, hK, hXs, hsb⟩ := id C
  obtain ⟨hx, hb, hml, hown, hts⟩ := id S
  obtain ⟨a1, e1⟩ : ∃ y : Int32, xs (x3 + 1).toNatClampNeg = y := ⟨_, rfl⟩
  obtain ⟨a2, e2⟩ : ∃ y : Int32, xs (x3 + 2).toNatClampNeg = y := ⟨_, rfl⟩
  obtain ⟨a3, e3⟩ : ∃ y : Int32, xs (x3 + 3).toNatClampNeg = y := ⟨_, rfl⟩
  obtain ⟨a4, e4⟩ : ∃ y : Int32, xs (x3 + 4).toNatClampNeg = y := ⟨_, rfl⟩
  obtain ⟨a5, e5⟩ : ∃ y : Int32, xs (x3 + 5).toNatClampNeg = y := ⟨_, rfl⟩
  obtain ⟨fk, sk, nn, T, TF, TS, g, A, I, L, hX, hE⟩ := hJ
  obtain ⟨hO, hT, hF, hSd, hPo, hP, ⟨ev, wh, dn, rf, db, he, TA, f, u, v, hSo, hA, hTi, hCh⟩, ⟨dn0, la0, re0, u0, v0, hCl, hCc⟩, ⟨ch0, td0, tr0, hGa⟩, ⟨dnY, rfY, huY, TY, hYo, hYt⟩, hM⟩ := id hX
  refine lv_aload_n hx hb dL_law_347 rfl (lv_at hl 1 rfl) ?_
  refine xg_ri (va_runV (As := []) (rest := []) S (mX7_fault l D cI cZ s.heap.size ad ws b fk sk hO (nI nn) hPo g hP nn rfl hE.2.2.1) (cwV 0 hts gL_law_X7_fault rfl rfl rfl (by decide +kernel) ⟨Nat.le_of_ble_eq_true rfl, Nat.le_of_ble_eq_true rfl⟩) (xg_preV hK hG b hO rfl rfl) rfl rfl hl.1 rfl (lv_room (Nat.le_of_ble_eq_true rfl)) dL_law_348 ⟨Nat.le_of_ble_eq_true rfl, Nat.le_of_ble_eq_true rfl⟩) (fun r1 hr1 => ?_)
  refine lv_aload_n hx hb dL_law_351 rfl (lv_at hl 2 rfl) ?_
  refine xg_mi (va_runV (As := []) (rest := [.int r1]) S (mX8_fault l D cI cZ s.heap.size ad ws (b + 75) A I L hM nn hE.2.2.2.1 hE.2.2.1) (cwV 0 hts gL_law_X8_fault rfl rfl rfl (by decide +kernel) ⟨Nat.le_of_ble_eq_true rfl, Nat.le_of_ble_eq_true rfl⟩) (xg_preV hK hG (b + 75) hM.1 rfl rfl) rfl rfl hl.1 rfl (lv_room (Nat.le_of_ble_eq_true rfl)) dL_law_352 ⟨Nat.le_of_ble_eq_true rfl, Nat.le_of_ble_eq_true rfl⟩) hG (fun r2 w2 H locs hq2 hG => ?_)
  obtain ⟨hr2, hM2, hS2⟩ := hq2
  have hX := hX.M hM2 hS2
  refine lv_icmp_eq (tgt := 1240) hx hb dL_law_355 (by decide) (fun _ => ?_) (fun q => absurd (hr1.trans ((eq_flt_a hE.2.2.1 hE.2.2.2.1 hE.2.2.2.2.1).trans hr2.symm)) q)
  exact kk _ _ _ ⟨_, _, _, _, _, _, _, _, _, _, hX, la_fault hE⟩ hG
set_option maxHeartbeats 4000000 in
set_option maxRecDepth 100000 in
theorem law_judge {p : Program} {l : Launch} {e : Env} {s : State} {m : MethodId} {below : List Frame} {meth : Method} {c : Code} {H : Heap} {locs : List Loc} {Q : State → Prop} {ls : Array Slot} {sb N b B : Nat} {xs : Nat → Int32} {D : va_G} {cI cZ : ClassId} {ad : Nat → Nat} {ws : va_W} {x3 : Int32} (C : lq s m meth p c sb N xs D cI cZ) (hJ : lj cI cZ ad b B ws) (hB : B + 2000 < 2 ^ 30) (hG : xg_H D s.heap.size ws s.heap H locs) (hl : lv_has ls 4 [(0, .ref sb), (1, .ref (ad b)), (2, .ref (ad (b + 75))), (3, .int x3)]) (i1 : vp_in (x3 + 1) N) (i2 : vp_in (x3 + 2) N) (i3 : vp_in (x3 + 3) N) (i4 : vp_in (x3 + 4) N) (i5 : vp_in (x3 + 5) N) (kk : ∀ (w : va_W) (H1 : Heap) (locs1 : List Loc), lj cI cZ ad b (B + 2000) w → xg_H D s.heap.size w s.heap H1 locs1 → W p l e room_1 s m #[Value.ref sb] below meth c H1 locs1 99 1284 Q (F0 m 1240 ls [])) : W p l e room_1 s m #[Value.ref sb] below meth c H locs 99 1284 Q (F0 m 360 ls []) := by
  obtain ⟨S, hret, hlk, hK, hXs, hsb⟩ := id C
  obtain ⟨hx, hb, hml, hown, hts⟩ := id S
  obtain ⟨a1, e1⟩ : ∃ y : Int32, xs (x3 + 1).toNatClampNeg = y := ⟨_, rfl⟩
  obtain ⟨a2, e2⟩ : ∃ y : Int32, xs (x3 + 2).toNatClampNeg = y := ⟨_, rfl⟩
  obtain ⟨a3, e3⟩ : ∃ y : Int32, xs (x3 + 3).toNatClampNeg = y := ⟨_, rfl⟩
  obtain ⟨a4, e4⟩ : ∃ y : Int32, xs (x3 + 4).toNatClampNeg = y := ⟨_, rfl⟩
  obtain ⟨a5, e5⟩ : ∃ y : Int32, xs (x3 + 5).toNatClampNeg = y := ⟨_, rfl⟩
  obtain ⟨fk, sk, nn, T, TF, TS, g, A, I, L, hX, hE⟩ := hJ
  obtain ⟨hO, hT, hF, hSd, hPo, hP, ⟨ev, wh, dn, rf, db, he, TA, f, u, v, hSo, hA, hTi, hCh⟩, ⟨dn0, la0, re0, u0, v0, hCl, hCc⟩, ⟨ch0, td0, tr0, hGa⟩, ⟨dnY, rfY, huY, TY, hYo, hYt⟩, hM⟩ := id hX
  refine lv_aload_n hx hb dL_law_360 rfl (lv_at hl 1 rfl) ?_
  refine lv_aload_n hx hb dL_law_361 rfl (lv_at hl 0 rfl) ?_
  refine lv_iload_n hx hb dL_law_362 rfl (lv_at hl 3 rfl) ?_
  refine lv_iconst (v := 1) hx hb dL_law_363 (by decide) ?_
  refine lv_iadd hx hb dL_law_364 ?_
  refine lq_ld C hG i1 e1 dL_law_365 ?_
  refine xg_mi (va_runV (As := [.int a1]) (rest := []) S (mX7_judge l D cI cZ s.heap.size ad ws b fk sk hO T hT (nI nn) hPo g hP ev wh dn rf db he hSo TA hA f hTi u v hCh a1 nn rfl hE.2.2.1) (cwV 1 hts gL_law_X7_judge rfl rfl rfl (by decide +kernel) ⟨Nat.le_of_ble_eq_true rfl, Nat.le_of_ble_eq_true rfl⟩) (xg_preV hK hG b hO rfl rfl) rfl rfl hl.1 rfl (lv_room (Nat.le_of_ble_eq_true rfl)) dL_law_366 ⟨Nat.le_of_ble_eq_true rfl, Nat.le_of_ble_eq_true rfl⟩) hG (fun r1 w1 H locs hq1 hG => ?_)
  obtain ⟨hr1, -, -, -, -, hSo1, hA1, hTi1, hCh1, hS1⟩ := hq1
  have hX := hX.sum ⟨_, _, _, _, _, _, _, _, _, _, hSo1, hA1, hTi1, hCh1⟩ hS1
  have hM := hX.2.2.2.2.2.2.2.2.2.2
  refine lv_aload_n hx hb dL_law_369 rfl (lv_at hl 2 rfl) ?_
  refine lv_aload_n hx hb dL_law_370 rfl (lv_at hl 0 rfl) ?_
  refine lv_iload_n hx hb dL_law_371 rfl (lv_at hl 3 rfl) ?_
  refine lv_iconst (v := 1) hx hb dL_law_372 (by decide) ?_
  refine lv_iadd hx hb dL_law_373 ?_
  refine lq_ld C hG i1 e1 dL_law_374 ?_
  refine xg_mi (va_runV (As := [.int a1]) (rest := [.int r1]) S (mX8_judge l D cI cZ s.heap.size ad w1 (b + 75) A I L hM a1 nn hE.2.2.2.1 hE.2.2.1) (cwV 1 hts gL_law_X8_judge rfl rfl rfl (by decide +kernel) ⟨Nat.le_of_ble_eq_true rfl, Nat.le_of_ble_eq_true rfl⟩) (xg_preV hK hG (b + 75) hM.1 rfl rfl) rfl rfl hl.1 rfl (lv_room (Nat.le_of_ble_eq_true rfl)) dL_law_375 ⟨Nat.le_of_ble_eq_true rfl, Nat.le_of_ble_eq_true rfl⟩) hG (fun r2 w2 H locs hq2 hG => ?_)
  obtain ⟨hr2, hM2, hS2⟩ := hq2
  have hX := hX.M hM2 hS2
  refine lv_icmp_eq (tgt := 1240) hx hb dL_law_378 (by decide) (fun _ => ?_) (fun q => absurd (hr1.trans ((eq_jud hE.1 hE.2.1 hB hE.2.2.1 hE.2.2.2.1 hE.2.2.2.2.1 (ev, wh, (TA, f, (he, u, v), (dn, rf, db))) a1).trans hr2.symm)) q)
  exact kk _ _ _ ⟨_, _, _, _, _, _, _, _, _, _, hX, la_judge hE a1⟩ hG
set_option maxHeartbeats 4000000 in
set_option maxRecDepth 100000 in
theorem law_state {p : Program} {l : Launch} {e : Env} {s : State} {m : MethodId} {below : List Frame} {meth : Method} {c : Code} {H : Heap} {locs : List Loc} {Q : State → Prop} {ls : Array Slot} {sb N b B : Nat} {xs : Nat → Int32} {D : va_G} {cI cZ : ClassId} {ad : Nat → Nat} {ws : va_W} {x3 : Int32} (C : lq s m meth p c sb N xs D cI cZ) (hJ : lj cI cZ ad b B ws) (hB : B + 2000 < 2 ^ 30) (hG : xg_H D s.heap.size ws s.heap H locs) (hl : lv_has ls 4 [(0, .ref sb), (1, .ref (ad b)), (2, .ref (ad (b + 75))), (3, .int x3)]) (i1 : vp_in (x3 + 1) N) (i2 : vp_in (x3 + 2) N) (i3 : vp_in (x3 + 3) N) (i4 : vp_in (x3 + 4) N) (i5 : vp_in (x3 + 5) N) (kk : ∀ (w : va_W) (H1 : Heap) (locs1 : List Loc), lj cI cZ ad b (B + 2000) w → xg_H D s.heap.size w s.heap H1 locs1 → W p l e room_1 s m #[Value.ref sb] below meth c H1 locs1 99 1284 Q (F0 m 1240 ls [])) : W p l e room_1 s m #[Value.ref sb] below meth c H locs 99 1284 Q (F0 m 383 ls []) := by
  obtain ⟨S, hret, hlk, hK, hXs, hsb⟩ := id C
  obtain ⟨hx, hb, hml, hown, hts⟩ := id S
  obtain ⟨a1, e1⟩ : ∃ y : Int32, xs (x3 + 1).toNatClampNeg = y := ⟨_, rfl⟩
  obtain ⟨a2, e2⟩ : ∃ y : Int32, xs (x3 + 2).toNatClampNeg = y := ⟨_, rfl⟩
  obtain ⟨a3, e3⟩ : ∃ y : Int32, xs (x3 + 3).toNatClampNeg = y := ⟨_, rfl⟩
  obtain ⟨a4, e4⟩ : ∃ y : Int32, xs (x3 + 4).toNatClampNeg = y := ⟨_, rfl⟩
  obtain ⟨a5, e5⟩ : ∃ y : Int32, xs (x3 + 5).toNatClampNeg = y := ⟨_, rfl⟩
  obtain ⟨fk, sk, nn, T, TF, TS, g, A, I, L, hX, hE⟩ := hJ
  obtain ⟨hO, hT, hF, hSd, hPo, hP, ⟨ev, wh, dn, rf, db, he, TA, f, u, v, hSo, hA, hTi, hCh⟩, ⟨dn0, la0, re0, u0, v0, hCl, hCc⟩, ⟨ch0, td0, tr0, hGa⟩, ⟨dnY, rfY, huY, TY, hYo, hYt⟩, hM⟩ := id hX
  refine lv_aload_n hx hb dL_law_383 rfl (lv_at hl 1 rfl) ?_
  refine lv_aload_n hx hb dL_law_384 rfl (lv_at hl 0 rfl) ?_
  refine lv_iload_n hx hb dL_law_385 rfl (lv_at hl 3 rfl) ?_
  refine lv_iconst (v := 1) hx hb dL_law_386 (by decide) ?_
  refine lv_iadd hx hb dL_law_387 ?_
  refine lq_ld C hG i1 e1 dL_law_388 ?_
  refine lv_aload_n hx hb dL_law_389 rfl (lv_at hl 0 rfl) ?_
  refine lv_iload_n hx hb dL_law_390 rfl (lv_at hl 3 rfl) ?_
  refine lv_iconst (v := 2) hx hb dL_law_391 (by decide) ?_
  refine lv_iadd hx hb dL_law_392 ?_
  refine lq_ld C hG i2 e2 dL_law_393 ?_
  refine xg_ri (va_runV (As := [.int a1, .int a2]) (rest := []) S (mX7_state l D cI cZ s.heap.size ad ws b fk sk hO T hT a1 a2) (cwV 2 hts gL_law_X7_state rfl rfl rfl (by decide +kernel) ⟨Nat.le_of_ble_eq_true rfl, Nat.le_of_ble_eq_true rfl⟩) (xg_preV hK hG b hO rfl rfl) rfl rfl hl.1 rfl (lv_room (Nat.le_of_ble_eq_true rfl)) dL_law_394 ⟨Nat.le_of_ble_eq_true rfl, Nat.le_of_ble_eq_true rfl⟩) (fun r1 hr1 => ?_)
  refine lv_aload_n hx hb dL_law_397 rfl (lv_at hl 2 rfl) ?_
  refine lv_aload_n hx hb dL_law_398 rfl (lv_at hl 0 rfl) ?_
  refine lv_iload_n hx hb dL_law_399 rfl (lv_at hl 3 rfl) ?_
  refine lv_iconst (v := 1) hx hb dL_law_400 (by decide) ?_
  refine lv_iadd hx hb dL_law_401 ?_
  refine lq_ld C hG i1 e1 dL_law_402 ?_
  refine lv_aload_n hx hb dL_law_403 rfl (lv_at hl 0 rfl) ?_
  refine lv_iload_n hx hb dL_law_404 rfl (lv_at hl 3 rfl) ?_
  refine lv_iconst (v := 2) hx hb dL_law_405 (by decide) ?_
  refine lv_iadd hx hb dL_law_406 ?_
  refine lq_ld C hG i2 e2 dL_law_407 ?_
  refine xg_ri (va_runV (As := [.int a1, .int a2]) (rest := [.int r1]) S (mX8_state l D cI cZ s.heap.size ad ws (b + 75) A I L hM a1 a2) (cwV 2 hts gL_law_X8_state rfl rfl rfl (by decide +kernel) ⟨Nat.le_of_ble_eq_true rfl, Nat.le_of_ble_eq_true rfl⟩) (xg_preV hK hG (b + 75) hM.1 rfl rfl) rfl rfl hl.1 rfl (lv_room (Nat.le_of_ble_eq_true rfl)) dL_law_408 ⟨Nat.le_of_ble_eq_true rfl, Nat.le_of_ble_eq_true rfl⟩) (fun r2 hr2 => ?_)
  refine lv_icmp_eq (tgt := 1240) hx hb dL_law_411 (by decide) (fun _ => ?_) (fun q => absurd (hr1.trans ((eq_stt hE.1 a1 a2).trans hr2.symm)) q)
  exact kk _ _ _ ⟨_, _, _, _, _, _, _, _, _, _, hX, la_same hE⟩ hG
