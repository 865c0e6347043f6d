/-! new cells: the world grows at its end -/
def xi_z : Nat → Int32 := fun _ => 0
def xi_0 (_cI : ClassId) (q : Nat → Nat) : va_W := [(q 0, .inr (0, [.long 1, .long 1]))]
def xi_1 (cI : ClassId) (q : Nat → Nat) : va_W := (q 0, .inr (1, [.ref (q 1), .int 0, .int 0, .int 0])) :: xi_0 cI (fun k => q (1 + k))
def xi_2 (_cI : ClassId) (q : Nat → Nat) : va_W := [(q 0, .inr (2, [.int 0, .int 0, .int 0]))]
def xi_3 (cI : ClassId) (q : Nat → Nat) : va_W := [(q 0, .inr (3, [.ref (q 1), .int 0])), (q 1, .inl (cI, 60, .inl xi_z))]
def xi_5 (cI : ClassId) (q : Nat → Nat) : va_W := (q 0, .inr (5, [.ref (q 1), .ref (q 2), .ref (q 3), .ref (q 4), .ref (q 5), .ref (q 6), .ref (q 7), .ref (q 8), .ref (q 9), .ref (q 10), .ref (q 11), .ref (q 12), .int 0])) :: [(q 1, .inl (cI, 7, .inl xg_f0)), (q 2, .inl (cI, 6, .inl xi_z)), (q 3, .inl (cI, 6, .inl xi_z)), (q 4, .inl (cI, 6, .inl xi_z)), (q 5, .inl (cI, 6, .inl xi_z)), (q 6, .inl (cI, 6, .inl xi_z)), (q 7, .inl (cI, 6, .inl xi_z)), (q 8, .inl (cI, 6, .inl xi_z)), (q 9, .inl (cI, 6, .inl xi_z)), (q 10, .inl (cI, 6, .inl xi_z)), (q 11, .inl (cI, 6, .inl xi_z)), (q 12, .inl (cI, 6, .inl xi_z))]
def xi_4 (cI : ClassId) (q : Nat → Nat) : va_W := (q 0, .inr (4, [.ref (q 1), .ref (q 14), .ref (q 15), .int 0, .int 0, .int 0, .int 0, .int 0, .int 0])) :: (xi_5 cI (fun k => q (1 + k)) ++ (q 14, .inl (cI, 36, .inl xi_z)) :: xi_0 cI (fun k => q (15 + k)))
def xi_6 (cI : ClassId) (q : Nat → Nat) : va_W := (q 0, .inr (6, [.ref (q 1), .int 0, .int 0, .int 0])) :: xi_5 cI (fun k => q (1 + k))
def xi_7 (cI : ClassId) (q : Nat → Nat) : va_W := (q 0, .inr (7, [.ref (q 1), .ref (q 14), .ref (q 27), .int 0, .int 0, .ref (q 40), .ref (q 42), .ref (q 58), .ref (q 60), .ref (q 61)])) :: (xi_5 cI (fun k => q (1 + k)) ++ (xi_5 cI (fun k => q (14 + k)) ++ (xi_5 cI (fun k => q (27 + k)) ++ (xi_3 cI (fun k => q (40 + k)) ++ (xi_4 cI (fun k => q (42 + k)) ++ (xi_1 cI (fun k => q (58 + k)) ++ (xi_2 cI (fun k => q (60 + k)) ++ xi_6 cI (fun k => q (61 + k)))))))))
def xi_8 (cI cZ : ClassId) (q : Nat → Nat) : va_W := (q 0, .inr (8, [.int 0, .ref (q 1), .ref (q 2), .ref (q 3), .ref (q 4), .ref (q 5), .ref (q 6), .ref (q 7), .int 2, .int 3, .int 20, .int 1, .int 6, .int 0, .int 1, .ref (q 8), .ref (q 9), .ref (q 10), .int 0, .ref (q 11), .int 0, .ref (q 12), .ref (q 13), .ref (q 14), .ref (q 15), .int 0, .int 0, .int 0, .int 0, .int 0, .int 0, .ref (q 16), .ref (q 17), .ref (q 18), .int 0, .int 0, .int 0, .int 0, .long 0, .ref (q 19), .ref (q 20), .ref (q 21), .ref (q 22), .ref (q 23), .int 0, .int 0])) :: [(q 1, .inl (cI, 6, .inl xi_z)), (q 2, .inl (cI, 6, .inl xi_z)), (q 3, .inl (cI, 6, .inl xi_z)), (q 4, .inl (cI, 6, .inl xi_z)), (q 5, .inl (cI, 6, .inl xi_z)), (q 6, .inl (cI, 6, .inl xi_z)), (q 7, .inl (cI, 6, .inl xi_z)), (q 8, .inl (cI, 6, .inl xi_z)), (q 9, .inl (cI, 6, .inl xi_z)), (q 10, .inl (cI, 6, .inl xi_z)), (q 11, .inl (cI, 60, .inl xi_z)), (q 12, .inl (cI, 60, .inl xi_z)), (q 13, .inl (cI, 60, .inl xi_z)), (q 14, .inl (cI, 60, .inl xi_z)), (q 15, .inl (cI, 60, .inl xi_z)), (q 16, .inl (cI, 6, .inl xi_z)), (q 17, .inl (cI, 6, .inl xi_z)), (q 18, .inl (cI, 6, .inl xi_z)), (q 19, .inl (cI, 32, .inl xi_z)), (q 20, .inl (cI, 32, .inl xi_z)), (q 21, .inl (cI, 32, .inl xi_z)), (q 22, .inl (cI, 200, .inl xi_z)), (q 23, .inl (cZ, 2, .inl xi_z))]
theorem xi_at {pre rows : va_W} {x : Nat × va_E} : (pre ++ x :: rows)[pre.length]? = some x := by
  rw [List.getElem?_append_right (Nat.le_refl _), Nat.sub_self]; rfl
theorem xi_at1 {pre rows : va_W} {x y : Nat × va_E} : (pre ++ x :: y :: rows)[pre.length + 1]? = some y := by
  rw [List.getElem?_append_right (by omega), show pre.length + 1 - pre.length = 1 by omega]; rfl
theorem xi_set {pre rows : va_W} {x y : Nat × va_E} : (pre ++ x :: rows).set pre.length y = pre ++ y :: rows := by
  rw [List.set_append_right _ _ (Nat.le_refl _), Nat.sub_self]; rfl
theorem xi_set1 {pre rows : va_W} {x y z : Nat × va_E} : (pre ++ x :: y :: rows).set (pre.length + 1) z = pre ++ x :: z :: rows := by
  rw [List.set_append_right _ _ (by omega), show pre.length + 1 - pre.length = 1 by omega]; rfl
theorem xi_asc {D : va_G} {bs : Nat} {pre rows g : va_W} {x : Nat × va_E} {H0 H : Heap} {locs : List Loc} (h : xg_H D bs ((pre ++ x :: rows) ++ g) H0 H locs) : xg_H D bs (pre ++ x :: (rows ++ g)) H0 H locs := by
  rw [List.append_assoc, List.cons_append] at h; exact h
theorem xv_S.toset {w w' : va_W} {b : Nat} {x : Nat × va_E} (h : xv_S w w' b 1) (hx : w'[b]? = some x) : w' = w.set b x := by
  apply List.ext_getElem?
  intro k
  by_cases hk : k = b
  · subst hk
    have hl : k < w.length := by rw [← h.1]; exact (List.getElem?_eq_some_iff.mp hx).1
    rw [hx, List.getElem?_set_self hl]
  · rw [List.getElem?_set_ne (by omega)]
    exact h.2 k (by omega)
theorem xi_blindX {D : va_G} {cI cZ : ClassId} {bs : Nat} {ws : va_W} {a n : Nat} {f : Nat → Int32} {As : List Value} : FrameBlind (va_Pc As (fun U => xg_W D cI cZ bs ws U ∧ xg_X a n f U U.heap)) := fun b U g mk h => ⟨h.1, ⟨xg_K.same (s := U) (U := U.calling g mk b) rfl rfl h.2.1.1, h.2.1.2⟩, h.2.2.moved (u := U) (U := U.calling g mk b) (Vm.Alike.refl U.vm)⟩
theorem xi_preSX {D : va_G} {cI cZ : ClassId} {bs : Nat} {ws : va_W} {H : Heap} {locs : List Loc} {s : State} {As : List Value} {a n : Nat} {f : Nat → Int32} (hK : xg_K D cI cZ bs s) (hG : xg_H D bs ws s.heap H locs) (ha : a < bs) (hX : xg_X a n f s s.heap) : PreS s H (va_Pc As (fun U => xg_W D cI cZ bs ws U ∧ xg_X a n f U U.heap)) As :=
  ⟨xi_blindX, fun U hU hW => ⟨rfl, xg_pre hK hG hU hW, ((hX.kept (by rw [hU]; exact hG.2.2.2.1 a (Nat.lt_of_lt_of_le ha hK.2.2.1) (Nat.not_le.mpr ha))).moved hW.alike)⟩⟩
section XIC
variable {p : Program} {l : Launch} {e : Env} {R : Room} {s : State} {m : MethodId} {args : Array Value} {below : List Frame} {meth : Method} {c : Code} {H : Heap} {locs : List Loc} {cells slots : Nat} {Q : State → Prop}
variable {pc : Nat} {ls : Array Slot} {rest : List Value}
variable {D : va_G} {cI cZ : ClassId} {bs : Nat} {ws pre rows : va_W} {x : Nat × va_E}
variable {cc : ByteArray} {nL : Nat} {Ts : List Cond} {own : String}
theorem xi_newi (S : CallFix p m c cc nL s args Ts own) (hK : xg_K D cI cZ bs s) (hG : xg_H D bs (pre ++ x :: rows) s.heap H locs) (harr : (Cond.arrayClass .int).before args s = true) {n : Int32} {N : Nat} (hn : ¬ n < 0) (hN : n.toNatClampNeg = N) (hbytes : N * componentBytes .int ≤ 536870912) (hcells : cells + 1 ≤ R.cells) (hslots : slots + N ≤ R.slots) (hdg : decode cc pc = .ok (.newarray .int, 2))
    (kk : ∀ (q : Nat) (H1 : Heap), xg_H D bs (pre ++ x :: (rows ++ [(q, .inl (cI, N, .inl xi_z))])) s.heap H1 locs → W p l e R s m args below meth c H1 locs (cells + 1) (slots + N) Q (F0 m (pc + 2) ls (.ref q :: rest))) : W p l e R s m args below meth c H locs cells slots Q (F0 m pc ls (.int n :: rest)) := by
  refine va_newa (atype := .int) (ty := .int) (a0 := (N, .inl xi_z)) S.1 S.2.1 harr rfl hK.1 hG.1 hG.2.1 hG.2.2 (fun q hq => Nat.le_trans hK.2.2.1 hq) (fun cA => rfl) hn hN hbytes hcells hslots hdg (fun q cA H1 hk hp hd hs => ?_)
  have e : cA = cI := Option.some.inj ((hk.2 2 (cA, .int) rfl).2.symm.trans (hk.2 0 (cI, .int) rfl).2)
  subst e
  refine kk q H1 ?_
  have h : xg_H D bs ((pre ++ x :: rows) ++ [(q, .inl (cA, N, .inl xi_z))]) s.heap H1 locs := ⟨hp, hd, hs⟩
  exact xi_asc h
theorem xi_newz (S : CallFix p m c cc nL s args Ts own) (hK : xg_K D cI cZ bs s) (hG : xg_H D bs (pre ++ x :: rows) s.heap H locs) (harr : (Cond.arrayClass .boolean).before args s = true) {n : Int32} {N : Nat} (hn : ¬ n < 0) (hN : n.toNatClampNeg = N) (hbytes : N * componentBytes .boolean ≤ 536870912) (hcells : cells + 1 ≤ R.cells) (hslots : slots + N ≤ R.slots) (hdg : decode cc pc = .ok (.newarray .boolean, 2))
    (kk : ∀ (q : Nat) (H1 : Heap), xg_H D bs (pre ++ x :: (rows ++ [(q, .inl (cZ, N, .inl xi_z))])) s.heap H1 locs → W p l e R s m args below meth c H1 locs (cells + 1) (slots + N) Q (F0 m (pc + 2) ls (.ref q :: rest))) : W p l e R s m args below meth c H locs cells slots Q (F0 m pc ls (.int n :: rest)) := by
  refine va_newa (atype := .boolean) (ty := .boolean) (a0 := (N, .inl xi_z)) S.1 S.2.1 harr rfl hK.1 hG.1 hG.2.1 hG.2.2 (fun q hq => Nat.le_trans hK.2.2.1 hq) (fun cA => rfl) hn hN hbytes hcells hslots hdg (fun q cA H1 hk hp hd hs => ?_)
  have e : cA = cZ := Option.some.inj ((hk.2 2 (cA, .boolean) rfl).2.symm.trans (hk.2 1 (cZ, .boolean) rfl).2)
  subst e
  refine kk q H1 ?_
  have h : xg_H D bs ((pre ++ x :: rows) ++ [(q, .inl (cA, N, .inl xi_z))]) s.heap H1 locs := ⟨hp, hd, hs⟩
  exact xi_asc h
theorem xi_new (S : CallFix p m c cc nL s args Ts own) (hK : xg_K D cI cZ bs s) (hG : xg_H D bs ws s.heap H locs) {C : String} {T : u_T} {N ci index : Nat} (hin : ∀ w ∈ u_ws C T N, w ∈ Ts) (ty : Nat → FieldType) (hty : ∀ k, k < N → parseFieldDescriptor (T k).2.2.1 = some (ty k)) (hcl : (Cond.classLink own index C).before args s = true) (hinst : (Cond.instantiable C N).before args s = true) (hini : (Cond.initialized C).before args s = true) (hc : vwCl[ci]? = some (C, T, N)) {fs : List Value} (hfs : ∀ j, j < N → defaultValue (ty j) = vp_V fs j) (hcells : cells + 1 ≤ R.cells) (hslots : slots + N ≤ R.slots) (hdg : decode cc pc = .ok (.new index, 3))
    (kk : ∀ (q : Nat) (H1 : Heap), xg_H D bs (ws ++ [(q, .inr (ci, fs))]) s.heap H1 locs → W p l e R s m args below meth c H1 locs (cells + 1) (slots + N) Q (F0 m (pc + 3) ls (.ref q :: rest))) : W p l e R s m args below meth c H locs cells slots Q (F0 m pc ls rest) :=
  va_new S.1 S.2.1 S.2.2.2.2 hin ty hty S.2.2.2.1 hcl hinst hini hK.1 hG.1 hG.2.1 hG.2.2 (fun q hq => Nat.le_trans hK.2.2.1 hq) hc hfs hcells hslots hdg (fun q H1 h1 h2 h3 => kk q H1 ⟨h1, h2, h3⟩)
theorem xi_put (S : CallFix p m c cc nL s args Ts own) (hK : xg_K D cI cZ bs s) {a ci : Nat} {fs : List Value} (hG : xg_H D bs (pre ++ (a, .inr (ci, fs)) :: rows) s.heap H locs) {ref C : String} {T : u_T} {N index : Nat} (hin : ∀ w ∈ u_ws C T N, w ∈ Ts) (ty0 : Nat → FieldType) (hty : ∀ k, k < N → parseFieldDescriptor (T k).2.2.1 = some (ty0 k)) (hnm : ∀ a, a < N → ∀ b, b < N → a ≠ b → (T a).2.1 ≠ (T b).2.1) (hc : vwCl[ci]? = some (C, T, N)) (k : Nat) (hk : k < N) (hlink : (Cond.fieldLink own index ref (T k).2.1 (T k).2.2.1).before args s = true) (hsame : ∀ x, s.fieldFound? (T k).1 (T k).2.1 (T k).2.2.1 = some x → s.fieldFound? ref (T k).2.1 (T k).2.2.1 = some x) (hfin : (T k).2.2.2 = false) {ty : FieldType} {v : Value} (hd : parseFieldDescriptor (T k).2.2.1 = some ty) (hn : narrow ty v = v) (hfit : fits ty v = true) (hl : k < fs.length)
    (hdg : decode cc pc = .ok (.putfield index, 3)) (kk : ∀ (H1 : Heap) (locs1 : List Loc), xg_H D bs (pre ++ (a, .inr (ci, fs.set k v)) :: rows) s.heap H1 locs1 → W p l e R s m args below meth c H1 locs1 cells slots Q (F0 m (pc + 3) ls rest)) : W p l e R s m args below meth c H locs cells slots Q (F0 m pc ls (v :: .ref a :: rest)) :=
  va_put S.1 S.2.1 S.2.2.2.2 hin ty0 hty hnm S.2.2.2.1 hK.1 hG.1 hG.2.1 hG.2.2 pre.length xi_at hc k hk hlink hsame hfin hd hn hfit hl hdg (fun H1 locs1 h1 h2 h3 => kk H1 locs1 (by rw [xi_set] at h1 h2; exact ⟨h1, h2, h3⟩))
theorem xi_putF (S : CallFix p m c cc nL s args Ts own) (hK : xg_K D cI cZ bs s) {a ci : Nat} {fs : List Value} (hG : xg_H D bs (pre ++ (a, .inr (ci, fs)) :: rows) s.heap H locs) {ref C : String} {T : u_T} {N index : Nat} (hin : ∀ w ∈ u_ws C T N, w ∈ Ts) (ty0 : Nat → FieldType) (hty : ∀ k, k < N → parseFieldDescriptor (T k).2.2.1 = some (ty0 k)) (hnm : ∀ a, a < N → ∀ b, b < N → a ≠ b → (T a).2.1 ≠ (T b).2.1) (hc : vwCl[ci]? = some (C, T, N)) (k : Nat) (hk : k < N) (hlink : (Cond.fieldLink own index ref (T k).2.1 (T k).2.2.1).before args s = true) (hsame : ∀ x, s.fieldFound? (T k).1 (T k).2.1 (T k).2.2.1 = some x → s.fieldFound? ref (T k).2.1 (T k).2.2.1 = some x) (hfin : (T k).2.2.2 = true) (hin2 : meth.name = "<init>") (hdecl : (T k).1 = own) {ty : FieldType} {v : Value} (hd : parseFieldDescriptor (T k).2.2.1 = some ty) (hn : narrow ty v = v) (hfit : fits ty v = true) (hl : k < fs.length)
    (hdg : decode cc pc = .ok (.putfield index, 3)) (kk : ∀ (H1 : Heap) (locs1 : List Loc), xg_H D bs (pre ++ (a, .inr (ci, fs.set k v)) :: rows) s.heap H1 locs1 → W p l e R s m args below meth c H1 locs1 cells slots Q (F0 m (pc + 3) ls rest)) : W p l e R s m args below meth c H locs cells slots Q (F0 m pc ls (v :: .ref a :: rest)) :=
  va_putF S.1 S.2.1 S.2.2.2.2 hin ty0 hty hnm S.2.2.2.1 hK.1 hG.1 hG.2.1 hG.2.2 pre.length xi_at hc k hk hlink hsame hfin hin2 hdecl hd hn hfit hl hdg (fun H1 locs1 h1 h2 h3 => kk H1 locs1 (by rw [xi_set] at h1 h2; exact ⟨h1, h2, h3⟩))
end XIC
set_option maxHeartbeats 4000000 in
set_option maxRecDepth 100000 in
/-- copyRow(from, to), from a static row -/
theorem mX7_copyRowX (l : Launch) (D : va_G) (cI cZ : ClassId) (bs : Nat) (ws : va_W) (r n : Nat) (f : Nat → Int32) (hr9 : r < bs) (b2 : Nat) (a2 : Nat) (g : Nat → Int32) (hR2 : ws[b2]? = some (a2, .inl (cI, n, .inl g))) (hn : n < 2 ^ 31) : Met l yX7_copyRow wsX7_copyRow ({ frames := 1, cells := 0, slots := 0, locals := 22 } : Room) (va_Pc [.ref r, .ref a2] (fun U => xg_W D cI cZ bs ws U ∧ xg_X r n f U U.heap)) (va_Qv (fun w : va_W => w = ws.set b2 (a2, .inl (cI, n, .inl f))) (fun w t => xg_W D cI cZ bs w t) (xg_A bs)) 0 0 (xg_A bs) := by
  refine xg_met cX7_copyRow 3 none RX7 (by decide) rfl rfl (Nat.le_of_ble_eq_true rfl) ?_
  intro pg en s m below meth c ls S hr hlk hnm hB hl
  have hX := hB.2
  have hB := hB.1
  have hK := hB.1
  have hG := xg_start hB
  obtain ⟨hx, hb, hml, hown, hts⟩ := id S
  have hl : lv_has ls 3 [(0, .ref r), (1, .ref a2)] := hl
  obtain ⟨Q, hQ⟩ : ∃ Q, Q = MQ below (va_Qv (fun w : va_W => w = ws.set b2 (a2, .inl (cI, n, .inl f))) (fun w t => xg_W D cI cZ bs w t) (xg_A bs)) ([.ref r, .ref a2] : List Value).toArray s 0 0 (xg_A bs) := ⟨_, rfl⟩
  rw [← hQ]
  refine lv_iconst (v := 0) hx hb dX7_copyRow_0 (by decide) ?_
  refine lv_istore_n (lv' := [(2, .int 0), (0, .ref r), (1, .ref a2)]) hx hb dX7_copyRow_1 rfl hl (by decide) rfl (fun ls hl => ?_)
  -- the loop at 2
  have lp2 : ∀ (fu : Nat) (k : Nat), (k ≤ n) → (n + 1 ≤ k + fu) → ∀ y2_2 : Int32, y2_2 = nI k → ∀ z2_hR2_f : Nat → Int32, z2_hR2_f = xw_cp f g k → ∀ (w2 : va_W) (H : Heap) (locs : List Loc), xg_H D bs w2 s.heap H locs → (w2[b2]? = some (a2, .inl (cI, n, .inl z2_hR2_f))) → xv_S ws w2 b2 1 → ∀ (ls : Array Slot), lv_has ls 3 [(0, .ref r), (1, .ref a2), (2, .int y2_2)] → W pg l en ({ frames := 1, cells := 0, slots := 0, locals := 22 } : Room) s m ([.ref r, .ref a2] : List Value).toArray below meth c H locs 0 0 Q (F0 m 2 ls []) := by
    intro fu
    induction fu with
    | zero =>
      intro k hk hf
      exact absurd hf (by omega)
    | succ fu ih =>
      intro k hk hf y2_2 ey2_2 z2_hR2_f ez2_hR2_f
      intro w2 H locs hG hR2 hSw2
      intro ls hl
      replace ey2_2 := ey2_2.symm; subst ey2_2
      replace ez2_hR2_f := ez2_hR2_f.symm; subst ez2_hR2_f
      refine lv_aload_n hx hb dX7_copyRow_2 rfl (lv_at hl 1 rfl) ?_
      refine lv_ifnull hx hb dX7_copyRow_3 ?_
      refine lv_iload_n hx hb dX7_copyRow_6 rfl (lv_at hl 2 rfl) ?_
      refine lv_aload_n hx hb dX7_copyRow_7 rfl (lv_at hl 1 rfl) ?_
      refine xg_len S hK hG b2 hR2 dX7_copyRow_8 ?_
      refine lv_icmp_ge (tgt := 28) hx hb dX7_copyRow_9 (by decide) (fun c9 => ?_) (fun c9 => ?_)
      · skip
        have hk9 : k = n := by have := xb_le (by omega) hn c9; omega
        subst hk9
        have hG := xb_row (g := f) hG hR2 (fun j hj => if_pos hj)
        obtain ⟨w1, hw1⟩ : ∃ w, w = w2.set b2 (a2, .inl (cI, k, .inl f)) := ⟨_, rfl⟩
        rw [← hw1] at hG
        have hs2 : xv_S w2 w1 b2 1 := by rw [hw1]; exact xv_S.set (by omega) (by omega)
        have hR2 : w1[b2]? = some (a2, .inl (cI, k, .inl f)) := by rw [hw1]; exact xv_self hR2
        have hSw1 : xv_S ws w1 b2 1 := hSw2.trans (hs2.mono (by omega) (by omega))
        rw [hQ]
        exact xg_emv S hr hlk hK hG (hSw1.toset hR2) dX7_copyRow_28
      · skip
        have hk9 : k < n := xb_lt (by omega) hn c9
        refine lv_aload_n hx hb dX7_copyRow_12 rfl (lv_at hl 1 rfl) ?_
        refine lv_iload_n hx hb dX7_copyRow_13 rfl (lv_at hl 2 rfl) ?_
        refine lv_aload_n hx hb dX7_copyRow_14 rfl (lv_at hl 0 rfl) ?_
        refine lv_iload_n hx hb dX7_copyRow_15 rfl (lv_at hl 2 rfl) ?_
        refine xg_ri (va_runS (As := [.ref r, .int (nI k)]) (rest := [.int (nI k), .ref a2]) S (mX7_atX l r n f (nI k) hn) (va_cwS 2 hts gX7_copyRow_X7_at rfl rfl rfl (by decide +kernel) ⟨Nat.le_of_ble_eq_true rfl, Nat.le_of_ble_eq_true rfl⟩) (xg_preSX hK hG hr9 hX) rfl rfl hl.1 rfl (lv_room (Nat.le_of_ble_eq_true rfl)) dX7_copyRow_16 ⟨Nat.zero_le _, Nat.zero_le _⟩) (fun r3 hr3 => ?_)
        replace hr3 := hr3.symm; subst hr3
        refine xg_mv (va_runS (As := [.ref a2, .int (nI k), .int (xb_at n f (nI k))]) (rest := []) S (mX7_put l D cI cZ bs (fun _ => a2) w2 b2 n (xw_cp f g k) hR2 (nI k) (xb_at n f (nI k)) hn) (va_cwS 3 hts gX7_copyRow_X7_put rfl rfl rfl (by decide +kernel) ⟨Nat.le_of_ble_eq_true rfl, Nat.le_of_ble_eq_true rfl⟩) (xg_preS hK hG) rfl rfl hl.1 rfl (lv_room (Nat.le_of_ble_eq_true rfl)) dX7_copyRow_19 ⟨Nat.zero_le _, Nat.zero_le _⟩) hG (fun w5 H locs hr4 hG => ?_)
        obtain ⟨hvw5_0, hsw5⟩ := hr4
        obtain ⟨f6, ef6⟩ : ∃ zz : Nat → Int32, xb_pt n (xw_cp f g k) (nI k) (xb_at n f (nI k)) = zz := ⟨_, rfl⟩
        have hR2 : w5[b2]? = some (a2, .inl (cI, n, .inl f6)) := by rw [← ef6]; exact hvw5_0
        have hSw5 : xv_S ws w5 b2 1 := hSw2.trans (hsw5.mono (by omega) (by omega))
        obtain ⟨x7, ex7⟩ : ∃ zz : Int32, (nI k) + 1 = zz := ⟨_, rfl⟩
        refine lv_iinc (v := x7) (lv' := [(2, .int x7), (0, .ref r), (1, .ref a2)]) hx hb dX7_copyRow_22 hl (k := 2) rfl (by rw [← ex7]; rfl) (by decide) rfl (fun ls hl => ?_)
        refine lv_goto (tgt := 2) hx hb dX7_copyRow_25 (by decide) ?_
        exact ih (k + 1) (by omega) (by omega) x7 (by subst ef6 ex7; exact nI_1 k) f6 (by subst ef6 ex7; exact xw_cpS hk9 hn) w5 _ _ hG hR2 hSw5 ls (lv_sub hl [1, 2, 0] rfl)
  exact lp2 (n + 1) 0 (by omega) (by omega) 0 (by skip; rfl) g xw_cp0.symm ws _ _ hG hR2 xv_S.rf ls (lv_sub hl [1, 2, 0] rfl)
