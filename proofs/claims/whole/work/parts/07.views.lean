/-! my views: what the cells of a world hold, as mathematical values -/
def xb_i (b : Bool) : Int32 := if b = true then 1 else 0
theorem xb_i0 {b : Bool} (h : xb_i b = 0) : b = false := by cases b with
  | false => rfl
  | true => exact absurd h (by decide)
theorem xb_i1 {b : Bool} (h : ¬ xb_i b = 0) : b = true := by cases b with
  | false => exact absurd rfl h
  | true => rfl
def xb_at (n : Nat) (f : Nat → Int32) (i : Int32) : Int32 := if i < 0 ∨ n ≤ i.toNatClampNeg then 0 else f i.toNatClampNeg
def xb_pt (n : Nat) (f : Nat → Int32) (i v : Int32) : Nat → Int32 := if i < 0 ∨ n ≤ i.toNatClampNeg then f else upd f i.toNatClampNeg v
theorem xb_at_in {n : Nat} {f : Nat → Int32} {i : Int32} (h : vp_in i n) : xb_at n f i = f i.toNatClampNeg := if_neg h
theorem xb_pt_in {n : Nat} {f : Nat → Int32} {i v : Int32} (h : vp_in i n) : xb_pt n f i v = upd f i.toNatClampNeg v := if_neg h
theorem xb_at_n {n k : Nat} {f : Nat → Int32} (h : k < n) (hn : n < 2 ^ 31) : xb_at n f (nI k) = f k := by
  rw [xb_at_in (vp_in_nI h hn), nI_clamp (by omega)]
theorem xb_pt_n {n k : Nat} {f : Nat → Int32} {v : Int32} (h : k < n) (hn : n < 2 ^ 31) : xb_pt n f (nI k) v = upd f k v := by
  rw [xb_pt_in (vp_in_nI h hn), nI_clamp (by omega)]
def xw_in (x lo hi : Int32) : Bool := !decide (x < lo) && !decide (hi < x)
def xw_inL (x lo hi : Int64) : Bool := !decide (x < lo) && !decide (hi < x)
theorem xw_inL_of (x lo hi : Int32) : xw_inL x.toInt64 lo.toInt64 hi.toInt64 = xw_in x lo hi := by
  have h1 : ∀ a b : Int32, a.toInt64 < b.toInt64 ↔ a < b := fun a b => by rw [Int64.lt_iff_toInt_lt, Int32.lt_iff_toInt_lt, Int32.toInt_toInt64, Int32.toInt_toInt64]
  unfold xw_in xw_inL
  rw [decide_eq_decide.mpr (h1 x lo), decide_eq_decide.mpr (h1 hi x)]
def xw_mx (x y : Int32) : Int32 := if x < y then y else x
def xw_mn (x y : Int32) : Int32 := if y < x then y else x
/-- the worlds w and w' are one but for the n cells from b on -/
def xv_S (w w' : va_W) (b n : Nat) : Prop := w'.length = w.length ∧ ∀ k : Nat, (k < b ∨ b + n ≤ k) → w'[k]? = w[k]?
theorem xv_S.rf {w : va_W} {b n : Nat} : xv_S w w b n := ⟨rfl, fun _ _ => rfl⟩
theorem xv_S.trans {w w1 w2 : va_W} {b n : Nat} (h1 : xv_S w w1 b n) (h2 : xv_S w1 w2 b n) : xv_S w w2 b n := ⟨h2.1.trans h1.1, fun k hk => (h2.2 k hk).trans (h1.2 k hk)⟩
theorem xv_S.mono {w w' : va_W} {b n b' n' : Nat} (h : xv_S w w' b n) (hb : b' ≤ b) (hn : b + n ≤ b' + n') : xv_S w w' b' n' := ⟨h.1, fun k hk => h.2 k (by omega)⟩
theorem xv_S.set {w : va_W} {b n k : Nat} {e : Nat × va_E} (hb : b ≤ k) (hk : k < b + n) : xv_S w (w.set k e) b n := ⟨List.length_set, fun j hj => List.getElem?_set_ne (by omega)⟩
theorem xv_S.at {w w' : va_W} {b n k : Nat} {x : Nat × va_E} (h : xv_S w w' b n) (hx : w[k]? = some x) (hd : k < b ∨ b + n ≤ k) : w'[k]? = some x := (h.2 k hd).trans hx
theorem xv_self {w : va_W} {k : Nat} {x e : Nat × va_E} (h : w[k]? = some x) : (w.set k e)[k]? = some e := List.getElem?_set_self (List.getElem?_eq_some_iff.mp h).1
/-- a town: 13 cells from b on; T 0 to T 11 its rows, T 12 0 its sights -/
def xv_Tf (ad : Nat → Nat) (b : Nat) (T : Nat → Nat → Int32) : List Value := [.ref (ad (b + 1)), .ref (ad (b + 2)), .ref (ad (b + 3)), .ref (ad (b + 4)), .ref (ad (b + 5)), .ref (ad (b + 6)), .ref (ad (b + 7)), .ref (ad (b + 8)), .ref (ad (b + 9)), .ref (ad (b + 10)), .ref (ad (b + 11)), .ref (ad (b + 12)), .int (T 12 0)]
def xv_Tn : Nat → Nat := fun j => match j with
  | 0 => 7
  | _ => 6
def xv_T (cI : ClassId) (ad : Nat → Nat) (w : va_W) (b : Nat) (T : Nat → Nat → Int32) : Prop := w[b]? = some (ad b, .inr (5, xv_Tf ad b T)) ∧ ∀ j : Nat, j < 12 → w[b + 1 + j]? = some (ad (b + 1 + j), .inl (cI, xv_Tn j, .inl (T j)))
theorem xv_T.row {cI : ClassId} {ad : Nat → Nat} {w : va_W} {b : Nat} {T : Nat → Nat → Int32} (h : xv_T cI ad w b T) (j : Nat) (hj : j < 12) {g : Nat → Int32} : xv_T cI ad (w.set (b + 1 + j) (ad (b + 1 + j), .inl (cI, xv_Tn j, .inl g))) b (va_up T j g) := by
  refine ⟨?_, fun i hi => ?_⟩
  · rw [List.getElem?_set_ne (by omega), h.1]
    have e : va_up T j g 12 = T 12 := by unfold va_up; rw [if_neg (by omega)]
    unfold xv_Tf
    rw [e]
  · by_cases hij : i = j
    · subst hij
      rw [xv_self (h.2 i hi)]
      unfold va_up
      rw [if_pos rfl]
    · rw [List.getElem?_set_ne (by omega), h.2 i hi]
      unfold va_up
      rw [if_neg hij]
theorem xv_T.sights {cI : ClassId} {ad : Nat → Nat} {w : va_W} {b : Nat} {T : Nat → Nat → Int32} (h : xv_T cI ad w b T) {v : Int32} : xv_T cI ad (w.set b (ad b, .inr (5, (xv_Tf ad b T).set 12 (.int v)))) b (va_up T 12 (fun _ => v)) := by
  refine ⟨?_, fun i hi => ?_⟩
  · rw [xv_self h.1]
    rfl
  · rw [List.getElem?_set_ne (by omega), h.2 i hi]
    unfold va_up
    rw [if_neg (by omega)]
theorem xv_T.of_S {cI : ClassId} {ad : Nat → Nat} {w w' : va_W} {b c n : Nat} {T : Nat → Nat → Int32} (h : xv_T cI ad w c T) (hs : xv_S w w' b n) (hd : c + 13 ≤ b ∨ b + n ≤ c) : xv_T cI ad w' c T :=
  ⟨hs.at h.1 (by omega), fun j hj => hs.at (h.2 j hj) (by omega)⟩
/-- the reference: 24 cells from b on; A 0 to A 22 its rows, I k its int fields by their slots, L safeWays -/
def xv_Mf (ad : Nat → Nat) (b : Nat) (I : Nat → Int32) (L : Int64) : List Value := [.int (I 0), .ref (ad (b + 1)), .ref (ad (b + 2)), .ref (ad (b + 3)), .ref (ad (b + 4)), .ref (ad (b + 5)), .ref (ad (b + 6)), .ref (ad (b + 7)), .int (I 8), .int (I 9), .int (I 10), .int (I 11), .int (I 12), .int (I 13), .int (I 14), .ref (ad (b + 8)), .ref (ad (b + 9)), .ref (ad (b + 10)), .int (I 18), .ref (ad (b + 11)), .int (I 20), .ref (ad (b + 12)), .ref (ad (b + 13)), .ref (ad (b + 14)), .ref (ad (b + 15)), .int (I 25), .int (I 26), .int (I 27), .int (I 28), .int (I 29), .int (I 30), .ref (ad (b + 16)), .ref (ad (b + 17)), .ref (ad (b + 18)), .int (I 34), .int (I 35), .int (I 36), .int (I 37), .long L, .ref (ad (b + 19)), .ref (ad (b + 20)), .ref (ad (b + 21)), .ref (ad (b + 22)), .ref (ad (b + 23)), .int (I 44), .int (I 45)]
def xv_Mn : Nat → Nat := fun j => match j with
  | 10 => 60
  | 11 => 60
  | 12 => 60
  | 13 => 60
  | 14 => 60
  | 18 => 32
  | 19 => 32
  | 20 => 32
  | 21 => 200
  | _ => 6
def xv_M (cI cZ : ClassId) (ad : Nat → Nat) (w : va_W) (b : Nat) (A : Nat → Nat → Int32) (I : Nat → Int32) (L : Int64) : Prop := w[b]? = some (ad b, .inr (8, xv_Mf ad b I L)) ∧ (∀ j : Nat, j < 22 → w[b + 1 + j]? = some (ad (b + 1 + j), .inl (cI, xv_Mn j, .inl (A j)))) ∧ w[b + 23]? = some (ad (b + 23), .inl (cZ, 2, .inl (A 22)))
theorem xv_M.row {cI cZ : ClassId} {ad : Nat → Nat} {w : va_W} {b : Nat} {A : Nat → Nat → Int32} {I : Nat → Int32} {L : Int64} (h : xv_M cI cZ ad w b A I L) (j : Nat) (hj : j < 22) {g : Nat → Int32} : xv_M cI cZ ad (w.set (b + 1 + j) (ad (b + 1 + j), .inl (cI, xv_Mn j, .inl g))) b (va_up A j g) I L := by
  refine ⟨?_, fun i hi => ?_, ?_⟩
  · rw [List.getElem?_set_ne (by omega), h.1]
  · by_cases hij : i = j
    · subst hij
      rw [xv_self (h.2.1 i hi)]
      unfold va_up
      rw [if_pos rfl]
    · rw [List.getElem?_set_ne (by omega), h.2.1 i hi]
      unfold va_up
      rw [if_neg hij]
  · rw [List.getElem?_set_ne (by omega), h.2.2]
    unfold va_up
    rw [if_neg (by omega)]
theorem xv_M.rowz {cI cZ : ClassId} {ad : Nat → Nat} {w : va_W} {b : Nat} {A : Nat → Nat → Int32} {I : Nat → Int32} {L : Int64} (h : xv_M cI cZ ad w b A I L) {g : Nat → Int32} : xv_M cI cZ ad (w.set (b + 23) (ad (b + 23), .inl (cZ, 2, .inl g))) b (va_up A 22 g) I L := by
  refine ⟨?_, fun i hi => ?_, ?_⟩
  · rw [List.getElem?_set_ne (by omega), h.1]
  · rw [List.getElem?_set_ne (by omega), h.2.1 i hi]
    unfold va_up
    rw [if_neg (by omega)]
  · rw [xv_self h.2.2]
    unfold va_up
    rw [if_pos rfl]
theorem xv_M.fld {cI cZ : ClassId} {ad : Nat → Nat} {w : va_W} {b : Nat} {A : Nat → Nat → Int32} {I : Nat → Int32} {L : Int64} (h : xv_M cI cZ ad w b A I L) (I' : Nat → Int32) (L' : Int64) {fs : List Value} (hf : fs = xv_Mf ad b I' L') : xv_M cI cZ ad (w.set b (ad b, .inr (8, fs))) b A I' L' := by
  subst hf
  exact ⟨xv_self h.1, fun i hi => by rw [List.getElem?_set_ne (by omega), h.2.1 i hi], by rw [List.getElem?_set_ne (by omega), h.2.2]⟩
theorem xv_M.of_S {cI cZ : ClassId} {ad : Nat → Nat} {w w' : va_W} {b c n : Nat} {A : Nat → Nat → Int32} {I : Nat → Int32} {L : Int64} (h : xv_M cI cZ ad w c A I L) (hs : xv_S w w' b n) (hd : c + 24 ≤ b ∨ b + n ≤ c) : xv_M cI cZ ad w' c A I L :=
  ⟨hs.at h.1 (by omega), fun j hj => hs.at (h.2.1 j hj) (by omega), hs.at h.2.2 (by omega)⟩
section XVB
variable {p : Program} {l : Launch} {e : Env} {R : Room} {s : State} {m : MethodId} {args : Array Value} {below : List Frame} {meth : Method} {c : Code} {H : Heap} {locs : List Loc} {cells slots : Nat} {Q : State → Prop}
variable {pc : Nat} {ls : Array Slot} {rest : List Value} {cc : ByteArray} {nL : Nat} {Ts : List Cond} {own : String}
theorem xb_ifeq (S : CallFix p m c cc nL s args Ts own) {b : Bool} {off : Int} {tgt : Nat} (hdg : decode cc pc = .ok (.ifCond .eq off, 3)) (ht : (pc : Int) + off = (tgt : Int)) (kt : b = false → W p l e R s m args below meth c H locs cells slots Q (F0 m tgt ls rest)) (kf : b = true → W p l e R s m args below meth c H locs cells slots Q (F0 m (pc + 3) ls rest)) : W p l e R s m args below meth c H locs cells slots Q (F0 m pc ls (.int (xb_i b) :: rest)) :=
  lv_if_eq S.1 S.2.1 hdg ht (fun h => kt (xb_i0 h)) (fun h => kf (xb_i1 h))
theorem xb_ifne (S : CallFix p m c cc nL s args Ts own) {b : Bool} {off : Int} {tgt : Nat} (hdg : decode cc pc = .ok (.ifCond .ne off, 3)) (ht : (pc : Int) + off = (tgt : Int)) (kt : b = true → W p l e R s m args below meth c H locs cells slots Q (F0 m tgt ls rest)) (kf : b = false → W p l e R s m args below meth c H locs cells slots Q (F0 m (pc + 3) ls rest)) : W p l e R s m args below meth c H locs cells slots Q (F0 m pc ls (.int (xb_i b) :: rest)) :=
  lv_if_ne S.1 S.2.1 hdg ht (fun h => kt (xb_i1 h)) (fun h => kf (xb_i0 h))
theorem xb_lcmp (S : CallFix p m c cc nL s args Ts own) {x y : Int64} (hdg : decode cc pc = .ok (.lcmp, 1)) (k : W p l e R s m args below meth c H locs cells slots Q (F0 m (pc + 1) ls (.int (lg_cmp x y) :: rest))) : W p l e R s m args below meth c H locs cells slots Q (F0 m pc ls (.long y :: .long x :: rest)) := W.lcmp S.1 S.2.1 hdg k
theorem xb_llt (S : CallFix p m c cc nL s args Ts own) {x y : Int64} {off : Int} {tgt : Nat} (hdg : decode cc pc = .ok (.ifCond .lt off, 3)) (ht : (pc : Int) + off = (tgt : Int)) (kt : x < y → W p l e R s m args below meth c H locs cells slots Q (F0 m tgt ls rest)) (kf : ¬ x < y → W p l e R s m args below meth c H locs cells slots Q (F0 m (pc + 3) ls rest)) : W p l e R s m args below meth c H locs cells slots Q (F0 m pc ls (.int (lg_cmp x y) :: rest)) :=
  lv_if_lt S.1 S.2.1 hdg ht (fun h => kt ((lg_cmp_lt x y).mp h)) (fun h => kf (fun q => h ((lg_cmp_lt x y).mpr q)))
theorem xb_lgt (S : CallFix p m c cc nL s args Ts own) {x y : Int64} {off : Int} {tgt : Nat} (hdg : decode cc pc = .ok (.ifCond .gt off, 3)) (ht : (pc : Int) + off = (tgt : Int)) (kt : y < x → W p l e R s m args below meth c H locs cells slots Q (F0 m tgt ls rest)) (kf : ¬ y < x → W p l e R s m args below meth c H locs cells slots Q (F0 m (pc + 3) ls rest)) : W p l e R s m args below meth c H locs cells slots Q (F0 m pc ls (.int (lg_cmp x y) :: rest)) :=
  lv_if_gt S.1 S.2.1 hdg ht (fun h => kt ((lg_cmp_gt x y).mp h)) (fun h => kf (fun q => h ((lg_cmp_gt x y).mpr q)))
theorem xb_leq (S : CallFix p m c cc nL s args Ts own) {x y : Int64} {off : Int} {tgt : Nat} (hdg : decode cc pc = .ok (.ifCond .eq off, 3)) (ht : (pc : Int) + off = (tgt : Int)) (kt : x = y → W p l e R s m args below meth c H locs cells slots Q (F0 m tgt ls rest)) (kf : ¬ x = y → W p l e R s m args below meth c H locs cells slots Q (F0 m (pc + 3) ls rest)) : W p l e R s m args below meth c H locs cells slots Q (F0 m pc ls (.int (lg_cmp x y) :: rest)) :=
  lv_if_eq S.1 S.2.1 hdg ht (fun h => kt ((lg_cmp_eq x y).mp h)) (fun h => kf (fun q => h ((lg_cmp_eq x y).mpr q)))
theorem xb_lne (S : CallFix p m c cc nL s args Ts own) {x y : Int64} {off : Int} {tgt : Nat} (hdg : decode cc pc = .ok (.ifCond .ne off, 3)) (ht : (pc : Int) + off = (tgt : Int)) (kt : ¬ x = y → W p l e R s m args below meth c H locs cells slots Q (F0 m tgt ls rest)) (kf : x = y → W p l e R s m args below meth c H locs cells slots Q (F0 m (pc + 3) ls rest)) : W p l e R s m args below meth c H locs cells slots Q (F0 m pc ls (.int (lg_cmp x y) :: rest)) :=
  lv_if_ne S.1 S.2.1 hdg ht (fun h => kt (fun q => h ((lg_cmp_eq x y).mpr q))) (fun h => kf ((lg_cmp_eq x y).mp h))
end XVB
section XVP
variable {p : Program} {l : Launch} {e : Env} {R : Room} {s : State} {m : MethodId} {args : Array Value} {below : List Frame} {meth : Method} {c : Code} {H : Heap} {locs : List Loc} {cells slots : Nat} {Q : State → Prop}
variable {pc : Nat} {ls : Array Slot} {rest : List Value} {cc : ByteArray} {nL : Nat} {Ts : List Cond} {own : String}
variable {D : va_G} {cI cZ : ClassId} {bs : Nat} {ws : va_W}
theorem xg_put2 (S : CallFix p m c cc nL s args Ts own) (hK : xg_K D cI cZ bs s) (hG : xg_H D bs ws s.heap H locs) {ref C : String} {T : u_T} {N ci index a : Nat} (hin : ∀ w ∈ u_ws C T N, w ∈ Ts) (ty0 : Nat → FieldType) (hty : ∀ k, k < N → parseFieldDescriptor (T k).2.2.1 = some (ty0 k)) (hnm : ∀ a, a < N → ∀ b, b < N → a ≠ b → (T a).2.1 ≠ (T b).2.1) (q0 : Nat) {fs : List Value} (he : ws[q0]? = some (a, .inr (ci, fs))) (hc : vwCl[ci]? = some (C, T, N)) (k : Nat) (hk : k < N) (hlink : (Cond.fieldLink own index ref (T k).2.1 (T k).2.2.1).before args s = true) (hsame : ∀ x, s.fieldFound? (T k).1 (T k).2.1 (T k).2.2.1 = some x → s.fieldFound? ref (T k).2.1 (T k).2.2.1 = some x) (hfin : (T k).2.2.2 = false) {ty : FieldType} {v : Value} (hd : parseFieldDescriptor (T k).2.2.1 = some ty) (hn : narrow ty v = v) (hfit : fits ty v = true) (hl : k < fs.length)
    (hdg : decode cc pc = .ok (.putfield index, 3)) (kk : ∀ (w : va_W) (H1 : Heap) (locs1 : List Loc), w = ws.set q0 (a, .inr (ci, fs.set k v)) → xg_H D bs w s.heap H1 locs1 → W p l e R s m args below meth c H1 locs1 cells slots Q (F0 m (pc + 3) ls rest)) : W p l e R s m args below meth c H locs cells slots Q (F0 m pc ls (v :: .ref a :: rest)) :=
  xg_put S hK hG hin ty0 hty hnm q0 he hc k hk hlink hsame hfin hd hn hfit hl hdg (fun H1 locs1 h => kk _ H1 locs1 rfl h)
theorem xg_ast2 (S : CallFix p m c cc nL s args Ts own) (hK : xg_K D cI cZ bs s) (hG : xg_H D bs ws s.heap H locs) (q0 : Nat) {a n : Nat} {f : Nat → Int32} (he : ws[q0]? = some (a, .inl (cI, n, .inl f))) {i x : Int32} (hin : vp_in i n) (hdg : decode cc pc = .ok (.iastore, 1))
    (kk : ∀ (w : va_W) (H1 : Heap) (locs1 : List Loc), w = ws.set q0 (a, .inl (cI, n, .inl (upd f i.toNatClampNeg x))) → xg_H D bs w s.heap H1 locs1 → W p l e R s m args below meth c H1 locs1 cells slots Q (F0 m (pc + 1) ls rest)) : W p l e R s m args below meth c H locs cells slots Q (F0 m pc ls (.int x :: .int i :: .ref a :: rest)) :=
  xg_ast S hK hG q0 he hin hdg (fun H1 locs1 h => kk _ H1 locs1 rfl h)
theorem xg_zst2 (S : CallFix p m c cc nL s args Ts own) (hK : xg_K D cI cZ bs s) (hG : xg_H D bs ws s.heap H locs) (q0 : Nat) {a n : Nat} {f : Nat → Int32} (he : ws[q0]? = some (a, .inl (cZ, n, .inl f))) {i x : Int32} (hin : vp_in i n) (hdg : decode cc pc = .ok (.bastore, 1))
    (kk : ∀ (w : va_W) (H1 : Heap) (locs1 : List Loc), w = ws.set q0 (a, .inl (cZ, n, .inl (upd f i.toNatClampNeg (vp_nar .boolean x)))) → xg_H D bs w s.heap H1 locs1 → W p l e R s m args below meth c H1 locs1 cells slots Q (F0 m (pc + 1) ls rest)) : W p l e R s m args below meth c H locs cells slots Q (F0 m pc ls (.int x :: .int i :: .ref a :: rest)) :=
  xg_zst S hK hG q0 he hin hdg (fun H1 locs1 h => kk _ H1 locs1 rfl h)
end XVP
