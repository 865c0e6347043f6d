/-! the calls that change something -/
theorem eq_bit1 : ∀ m, m < 64 → ∀ p, p < 6 → ∀ k, k < 6 → (((nI m ||| ((1 : Int32) <<< (nI p &&& 31))) >>> (nI k &&& 31)) &&& 1) = if k = p then 1 else (nI m >>> (nI k &&& 31)) &&& 1 := by decide +kernel
theorem eq_bit0 : ∀ m, m < 64 → ∀ p, p < 6 → ∀ k, k < 6 → (((nI m &&& (((1 : Int32) <<< (nI p &&& 31)) ^^^ (-1))) >>> (nI k &&& 31)) &&& 1) = if k = p then 0 else (nI m >>> (nI k &&& 31)) &&& 1 := by decide +kernel
theorem eq_P.there {T A : Nat → Nat → Int32} {I : Nat → Int32} (h : eq_P T A I) {p : Int32} (hp : vp_in p 6) {v y : Int32} (h6 : em_6 y) (hb : ∀ k, k < 6 → (y >>> (nI k &&& 31)) &&& 1 = if k = p.toNatClampNeg then v else (I 0 >>> (nI k &&& 31)) &&& 1) : eq_P (va_up T 1 (xb_pt 6 (T 1) p v)) A (va_up I 0 y) := by
  refine ⟨by rw [va_up_self]; exact h6, fun k hk => ?_, fun k hk => ?_, fun j k hj hk => ?_, ?_⟩
  · rw [va_up_self, va_up_self, xb_pt_in hp, hb k hk]
    unfold upd
    by_cases e : k = p.toNatClampNeg
    · rw [if_pos e, if_pos e]
    · rw [if_neg e, if_neg e]; exact h.2.1 k hk
  · rw [va_up_ne _ _ (by decide), va_up_ne _ _ (by omega)]; exact h.2.2.1 k hk
  · rw [va_up_ne _ _ (by omega)]; exact h.2.2.2.1 j k hj hk
  · rw [va_up_ne _ _ (by decide), va_up_ne _ _ (by decide)]; exact h.2.2.2.2
theorem eq_come {T A : Nat → Nat → Int32} {I : Nat → Int32} (h : eq_P T A I) {p : Int32} (c1 : xw_in p 0 5 = true) (s f q w : Int32) : eq_P (dt_come T p s f q w) (em_perA A I p s f q w) (va_up I 0 (I 0 ||| (1 <<< (p &&& 31)))) := by
  have hv := em_in6 c1
  obtain ⟨j, hj, ej⟩ := em_in6N c1
  obtain ⟨m, hm, em⟩ := h.1
  have P0 := h.there hv (v := 1) (y := I 0 ||| (1 <<< (p &&& 31))) (em_or6 h.1 c1) (fun k hk => by rw [em, ej, nI_clamp (by omega)]; exact eq_bit1 m hm j hj k hk)
  have P1 := P0.row 0 (by decide) (F := xb_pt 6 (T 2) p s) (G := upd (A 0) p.toNatClampNeg s) (eq_pt hv (fun k hk => h.2.2.2.1 0 k (by decide) hk))
  have P2 := P1.row 1 (by decide) (F := xb_pt 6 (T 3) p f) (G := upd (A 1) p.toNatClampNeg f) (eq_pt hv (fun k hk => h.2.2.2.1 1 k (by decide) hk))
  have P3 := P2.row 2 (by decide) (F := xb_pt 6 (T 4) p q) (G := upd (A 2) p.toNatClampNeg q) (eq_pt hv (fun k hk => h.2.2.2.1 2 k (by decide) hk))
  have P4 := P3.row 3 (by decide) (F := xb_pt 6 (T 5) p w) (G := upd (A 3) p.toNatClampNeg w) (eq_pt hv (fun k hk => h.2.2.2.1 3 k (by decide) hk))
  have P5 := P4.row 4 (by decide) (F := xb_pt 6 (T 6) p (xb_at 7 (T 0) 1)) (G := upd (A 4) p.toNatClampNeg (I 9)) (by rw [eq_r1 h]; exact eq_pt hv (fun k hk => h.2.2.2.1 4 k (by decide) hk))
  have P6 := P5.row 5 (by decide) (F := xb_pt 6 (T 7) p 0) (G := upd (A 5) p.toNatClampNeg 0) (eq_pt hv (fun k hk => h.2.2.2.1 5 k (by decide) hk))
  have P7 := P6.row 6 (by decide) (F := xb_pt 6 (T 8) p 0) (G := upd (A 6) p.toNatClampNeg 0) (eq_pt hv (fun k hk => h.2.2.2.1 6 k (by decide) hk))
  exact P7
theorem eq_per {T A : Nat → Nat → Int32} {I : Nat → Int32} (h : eq_P T A I) (p s f q w : Int32) : eq_P (dj_perT T p s f q w) (em_perT A I p s f q w) (em_perI I p s f q) ∧ dj_perR T p s f q w = em_perR I p s f q := by
  unfold dj_perT em_perT em_perI dj_perR em_perR
  by_cases c1 : xw_in p 0 5 = true
  · by_cases c2 : xw_in s 0 9 = true
    · by_cases c3 : xw_in f 0 9 = true
      · by_cases c4 : xw_in q 0 9 = true
        · have key := eq_come h c1 s f q (if w = 0 then 0 else 1)
          simp only [c1, c2, c3, c4, if_true]
          refine ⟨key, ?_⟩
          rw [eq_btu key, va_up_self, em_one_bc (em_or6 h.1 c1)]
        · simp only [c1, c2, c3, c4, if_true, if_false, Bool.false_eq_true]; exact ⟨h, trivial⟩
      · simp only [c1, c2, c3, if_true, if_false, Bool.false_eq_true]; exact ⟨h, trivial⟩
    · simp only [c1, c2, if_true, if_false, Bool.false_eq_true]; exact ⟨h, trivial⟩
  · simp only [c1, if_false, Bool.false_eq_true]; exact ⟨h, trivial⟩
theorem eq_R.to {B : Nat} {A A' : Nat → Nat → Int32} {I I' : Nat → Int32} (h : eq_R B A I) (i8 : I' 8 = I 8) (i9 : I' 9 = I 9) (i11 : I' 11 = I 11) (i14 : I' 14 = I 14) (i18 : I' 18 = I 18) (h4 : ∀ k, k < 6 → ∃ x : Nat, x ≤ 15 ∧ A' 4 k = nI x) (h5 : ∀ k, k < 6 → -(B : Int) ≤ (A' 5 k).toInt ∧ (A' 5 k).toInt ≤ (B : Int)) (h9 : ∀ k, k < 6 → A' 9 k = 0 ∨ A' 9 k = 1) : eq_R B A' I' :=
  ⟨by rw [i8]; exact h.1, by rw [i9]; exact h.2.1, by rw [i11]; exact h.2.2.1, by rw [i14]; exact h.2.2.2.1, by rw [i18]; exact h.2.2.2.2.1, h4, h5, h9⟩
theorem eq_perQ {B : Nat} {A : Nat → Nat → Int32} {I : Nat → Int32} (h : eq_R B A I) (p s f q w : Int32) : eq_R B (em_perT A I p s f q w) (em_perI I p s f q) := by
  unfold em_perT em_perI
  by_cases c1 : xw_in p 0 5 = true
  · by_cases c2 : xw_in s 0 9 = true
    · by_cases c3 : xw_in f 0 9 = true
      · by_cases c4 : xw_in q 0 9 = true
        · simp only [c1, c2, c3, c4, if_true]
          obtain ⟨x, hx, ex⟩ := h.2.1
          refine h.to (va_up_ne _ _ (by decide)) (va_up_ne _ _ (by decide)) (va_up_ne _ _ (by decide)) (va_up_ne _ _ (by decide)) (va_up_ne _ _ (by decide)) (fun k hk => ?_) (fun k hk => ?_) (fun k hk => ?_)
          · unfold em_perA
            rw [va_up_ne _ _ (by decide), va_up_ne _ _ (by decide), va_up_self]
            unfold upd
            by_cases e : k = p.toNatClampNeg
            · rw [if_pos e]; exact ⟨x, by omega, ex⟩
            · rw [if_neg e]; exact h.2.2.2.2.2.1 k hk
          · unfold em_perA
            rw [va_up_ne _ _ (by decide), va_up_self]
            unfold upd
            by_cases e : k = p.toNatClampNeg
            · rw [if_pos e]; exact ⟨by rw [show (0 : Int32).toInt = 0 from rfl]; omega, by rw [show (0 : Int32).toInt = 0 from rfl]; omega⟩
            · rw [if_neg e]; exact h.2.2.2.2.2.2.1 k hk
          · have e9 : ∀ ww : Int32, em_perA A I p s f q ww 9 = A 9 := fun ww => by
              unfold em_perA
              rw [va_up_ne _ _ (by decide), va_up_ne _ _ (by decide), va_up_ne _ _ (by decide), va_up_ne _ _ (by decide), va_up_ne _ _ (by decide), va_up_ne _ _ (by decide), va_up_ne _ _ (by decide)]
            rw [e9]; exact h.2.2.2.2.2.2.2 k hk
        · simp only [c1, c2, c3, c4, if_true, if_false, Bool.false_eq_true]; exact h
      · simp only [c1, c2, c3, if_true, if_false, Bool.false_eq_true]; exact h
    · simp only [c1, c2, if_true, if_false, Bool.false_eq_true]; exact h
  · simp only [c1, if_false, Bool.false_eq_true]; exact h
theorem eq_per_o {A : Nat → Nat → Int32} {I : Nat → Int32} (p s f q w : Int32) {j : Nat} (hj : 7 ≤ j) : em_perT A I p s f q w j = A j := by
  have e9 : ∀ ww : Int32, em_perA A I p s f q ww j = A j := fun ww => by
    unfold em_perA
    rw [va_up_ne _ _ (by omega), va_up_ne _ _ (by omega), va_up_ne _ _ (by omega), va_up_ne _ _ (by omega), va_up_ne _ _ (by omega), va_up_ne _ _ (by omega), va_up_ne _ _ (by omega)]
  unfold em_perT
  split
  · split
    · split
      · split
        · exact e9 _
        · rfl
      · rfl
    · rfl
  · rfl
theorem eq_perI_o {I : Nat → Int32} (p s f q : Int32) {j : Nat} (hj : j ≠ 0) : em_perI I p s f q j = I j := by
  unfold em_perI
  split
  · split
    · split
      · split
        · exact va_up_ne _ _ hj
        · rfl
      · rfl
    · rfl
  · rfl
theorem eq_lea {T A : Nat → Nat → Int32} {I : Nat → Int32} (h : eq_P T A I) (p : Int32) : eq_P (dj_leaT T p) A (em_leaI I p) ∧ dj_leaR T p = em_leaR I p := by
  unfold dj_leaT em_leaI dj_leaR em_leaR
  rw [eq_isT h]
  by_cases c : em_isT I p = true
  · have c1 := em_isT_no c
    have hv := em_in6 c1
    obtain ⟨j, hj, ej⟩ := em_in6N c1
    obtain ⟨m, hm, em⟩ := h.1
    have P0 := h.there hv (v := 0) (y := I 0 &&& ((1 <<< (p &&& 31)) ^^^ (-1))) (em_an6 h.1) (fun k hk => by rw [em, ej, nI_clamp (by omega)]; exact eq_bit0 m hm j hj k hk)
    have P1 : eq_P (dt_go T p) A (va_up I 0 (I 0 &&& ((1 <<< (p &&& 31)) ^^^ (-1)))) := P0
    rw [if_pos c, if_pos c, if_pos c, if_pos c]
    refine ⟨P1, ?_⟩
    rw [eq_btu P1, va_up_self, em_one_bc (em_an6 h.1)]
  · rw [if_neg c, if_neg c, if_neg c, if_neg c]; exact ⟨h, rfl⟩
theorem eq_leaI_o {I : Nat → Int32} (p : Int32) {j : Nat} (hj : j ≠ 0) : em_leaI I p j = I j := by
  unfold em_leaI
  split
  · exact va_up_ne _ _ hj
  · rfl
theorem eq_k7 {k : Int32} (h : xw_in k 0 6 = true) : k = 0 ∨ k = 1 ∨ k = 2 ∨ k = 3 ∨ k = 4 ∨ k = 5 ∨ k = 6 := by
  obtain ⟨h1, -, h3⟩ := xw_inN (a := 0) (c := 6) h (by decide) (by decide)
  have : k.toNatClampNeg = 0 ∨ k.toNatClampNeg = 1 ∨ k.toNatClampNeg = 2 ∨ k.toNatClampNeg = 3 ∨ k.toNatClampNeg = 4 ∨ k.toNatClampNeg = 5 ∨ k.toNatClampNeg = 6 := by omega
  rcases this with q | q | q | q | q | q | q <;> rw [q] at h1 <;> subst h1
  · exact .inl rfl
  · exact .inr (.inl rfl)
  · exact .inr (.inr (.inl rfl))
  · exact .inr (.inr (.inr (.inl rfl)))
  · exact .inr (.inr (.inr (.inr (.inl rfl))))
  · exact .inr (.inr (.inr (.inr (.inr (.inl rfl)))))
  · exact .inr (.inr (.inr (.inr (.inr (.inr rfl)))))
theorem eq_may {k v : Int32} : em_may k v = if xw_in k 0 6 = true then xw_in v (xb_at 7 xg_f1 k) (xb_at 7 xg_f2 k) else false := by
  by_cases c : xw_in k 0 6 = true
  · rw [if_pos c]
    rcases eq_k7 c with q | q | q | q | q | q | q <;> subst q <;> rfl
  · rw [if_neg c]
    unfold em_may
    have n : ∀ j : Int32, xw_in j 0 6 = true → k ≠ j := fun j hj q => c (by rw [q]; exact hj)
    rw [if_neg (n 0 (by decide)), if_neg (n 1 (by decide)), if_neg (n 2 (by decide)), if_neg (n 3 (by decide)), if_neg (n 4 (by decide)), if_neg (n 5 (by decide)), if_neg (n 6 (by decide))]
theorem eq_st7 {I : Nat → Int32} (v : Int32) : ∀ j, j < 7 → em_st7 I (nI j) v = va_up I (8 + j) v := by
  intro j hj
  funext s
  rcases (show j = 0 ∨ j = 1 ∨ j = 2 ∨ j = 3 ∨ j = 4 ∨ j = 5 ∨ j = 6 by omega) with q | q | q | q | q | q | q <;> subst q
  all_goals
    simp only [em_st7, va_up]
    simp (decide := true) only [if_true, if_false]
    (repeat' split) <;> first | rfl | (subst_vars; rfl) | omega
theorem eq_set {T A : Nat → Nat → Int32} {I : Nat → Int32} {B : Nat} (h : eq_P T A I) (hR : eq_R B A I) (k v : Int32) : eq_P (dj_setT T k v) A (em_setI I k v) ∧ eq_R B A (em_setI I k v) ∧ dj_setR T k v = em_setR I k v := by
  unfold dj_setT em_setI dj_setR em_setR
  rw [eq_may]
  by_cases c : xw_in k 0 6 = true
  · by_cases c2 : xw_in v (xb_at 7 xg_f1 k) (xb_at 7 xg_f2 k) = true
    · rw [if_pos c, if_pos c2, if_pos c, if_pos c2, if_pos c, if_pos c2, if_pos c2]
      obtain ⟨j, hj, rfl⟩ : ∃ j : Nat, j < 7 ∧ k = nI j := by
        obtain ⟨h1, -, h3⟩ := xw_inN (a := 0) (c := 6) c (by decide) (by decide)
        exact ⟨_, by omega, h1⟩
      rw [eq_st7 v j hj]
      refine ⟨⟨by rw [va_up_ne _ _ (by omega)]; exact h.1, fun i hi => ?_, fun i hi => ?_, fun i k hi hk => ?_, ?_⟩, ?_, ?_⟩
      · rw [va_up_ne _ _ (by omega), va_up_ne _ _ (by omega)]; exact h.2.1 i hi
      · rw [va_up_self, xb_pt_n hj (by decide)]
        unfold upd
        by_cases e : i = j
        · subst e; rw [if_pos rfl, va_up_self]
        · rw [if_neg e, va_up_ne _ _ (by omega)]; exact h.2.2.1 i hi
      · rw [va_up_ne _ _ (by omega)]; exact h.2.2.2.1 i k hi hk
      · rw [va_up_ne _ _ (by omega), va_up_ne _ _ (by omega)]; exact h.2.2.2.2
      · obtain ⟨r1, r2, r3, r4, r5, r6⟩ := hR
        have e1 : ∀ i x : Nat, xw_in v (nI i) (nI x) = true → x < 2 ^ 31 → i < 2 ^ 31 → ∃ y : Nat, i ≤ y ∧ y ≤ x ∧ v = nI y := fun i x q hx hi => by
          obtain ⟨q1, q2, q3⟩ := xw_inN (a := i) (c := x) q hi hx
          exact ⟨_, q2, q3, q1⟩
        rcases (show j = 0 ∨ j = 1 ∨ j = 2 ∨ j = 3 ∨ j = 4 ∨ j = 5 ∨ j = 6 by omega) with q | q | q | q | q | q | q <;> subst q
        · obtain ⟨y, y1, y2, y3⟩ := e1 1 9 c2 (by decide) (by decide)
          exact ⟨⟨y, y1, y2, by rw [va_up_self]; exact y3⟩, by rw [va_up_ne _ _ (by decide)]; exact r2, by rw [va_up_ne _ _ (by decide)]; exact r3, by rw [va_up_ne _ _ (by decide)]; exact r4, by rw [va_up_ne _ _ (by decide)]; exact r5, r6⟩
        · obtain ⟨y, y1, y2, y3⟩ := e1 0 9 c2 (by decide) (by decide)
          exact ⟨by rw [va_up_ne _ _ (by decide)]; exact r1, ⟨y, y2, by rw [va_up_self]; exact y3⟩, by rw [va_up_ne _ _ (by decide)]; exact r3, by rw [va_up_ne _ _ (by decide)]; exact r4, by rw [va_up_ne _ _ (by decide)]; exact r5, r6⟩
        · exact ⟨by rw [va_up_ne _ _ (by decide)]; exact r1, by rw [va_up_ne _ _ (by decide)]; exact r2, by rw [va_up_ne _ _ (by decide)]; exact r3, by rw [va_up_ne _ _ (by decide)]; exact r4, by rw [va_up_ne _ _ (by decide)]; exact r5, r6⟩
        · obtain ⟨y, y1, y2, y3⟩ := e1 0 9 c2 (by decide) (by decide)
          exact ⟨by rw [va_up_ne _ _ (by decide)]; exact r1, by rw [va_up_ne _ _ (by decide)]; exact r2, ⟨y, y2, by rw [va_up_self]; exact y3⟩, by rw [va_up_ne _ _ (by decide)]; exact r4, by rw [va_up_ne _ _ (by decide)]; exact r5, r6⟩
        · exact ⟨by rw [va_up_ne _ _ (by decide)]; exact r1, by rw [va_up_ne _ _ (by decide)]; exact r2, by rw [va_up_ne _ _ (by decide)]; exact r3, by rw [va_up_ne _ _ (by decide)]; exact r4, by rw [va_up_ne _ _ (by decide)]; exact r5, r6⟩
        · exact ⟨by rw [va_up_ne _ _ (by decide)]; exact r1, by rw [va_up_ne _ _ (by decide)]; exact r2, by rw [va_up_ne _ _ (by decide)]; exact r3, by rw [va_up_ne _ _ (by decide)]; exact r4, by rw [va_up_ne _ _ (by decide)]; exact r5, r6⟩
        · obtain ⟨y, y1, y2, y3⟩ := e1 0 9999 c2 (by decide) (by decide)
          exact ⟨by rw [va_up_ne _ _ (by decide)]; exact r1, by rw [va_up_ne _ _ (by decide)]; exact r2, by rw [va_up_ne _ _ (by decide)]; exact r3, ⟨y, by omega, by rw [va_up_self]; exact y3⟩, by rw [va_up_ne _ _ (by decide)]; exact r5, r6⟩
      · rw [eq_rule h j hj]
        rcases (show j = 0 ∨ j = 1 ∨ j = 2 ∨ j = 3 ∨ j = 4 ∨ j = 5 ∨ j = 6 by omega) with q | q | q | q | q | q | q <;> subst q <;> rfl
    · rw [if_pos c, if_neg c2, if_pos c, if_neg c2, if_pos c, if_neg c2, if_neg c2]; exact ⟨h, hR, rfl⟩
  · rw [if_neg c, if_neg c, if_neg c, if_neg (by decide), if_neg (by decide)]; exact ⟨h, hR, rfl⟩
theorem eq_setI_o {I : Nat → Int32} (k v : Int32) {j : Nat} (hj : j < 8 ∨ 14 < j) : em_setI I k v j = I j := by
  unfold em_setI
  split
  · unfold em_st7
    rw [va_up_ne _ _ (by omega), va_up_ne _ _ (by omega), va_up_ne _ _ (by omega), va_up_ne _ _ (by omega), va_up_ne _ _ (by omega), va_up_ne _ _ (by omega), va_up_ne _ _ (by omega)]
  · rfl
theorem eq_60 {n : Nat} (h : n < 2 ^ 31) : nI n < 60 ↔ n < 60 := nI_ltI (a := n) (b := 60) h (by decide)
theorem eq_i60 {n : Nat} (h : n < 2 ^ 31) : nI n = 60 ↔ n = 60 := nI_eq (a := n) (b := 60) h (by decide)
/-- the pad -/
theorem eq_say {n : Nat} {g : Nat → Int32} {A : Nat → Nat → Int32} {I : Nat → Int32} (hn : n ≤ 60) (h20 : I 20 = nI n) (hg : ∀ k, k < 60 → g k = A 10 k) (x : Int32) :
    dj_sayR (nI n) x = em_sayR I x ∧ ∃ n' : Nat, n' ≤ 60 ∧ dj_sayN (nI n) x = nI n' ∧ em_sayI I x 20 = nI n' ∧ (∀ k, k < 60 → dj_sayF (nI n) x g k = em_sayA A I x 10 k) := by
  unfold dj_sayR em_sayR dj_sayN em_sayI dj_sayF em_sayA
  rw [h20]
  by_cases c : xw_in x 33 126 = true
  · by_cases c2 : n < 60
    · have h1 : nI n < 60 := (eq_60 (by omega)).mpr c2
      have h2 : ¬ nI n = 60 := fun q => absurd ((eq_i60 (by omega)).mp q) (by omega)
      simp only [c, h1, h2, if_true, if_false]
      refine ⟨trivial, n + 1, by omega, nI_1 n, ?_, fun k hk => ?_⟩
      · rw [va_up_self]; exact nI_1 n
      · rw [va_up_self, xb_pt_n c2 (by decide), nI_clamp (by omega)]
        unfold upd
        by_cases e : k = n
        · rw [if_pos e, if_pos e]
        · rw [if_neg e, if_neg e]; exact hg k hk
    · have e60 : n = 60 := by omega
      have h1 : ¬ nI n < 60 := fun q => c2 ((eq_60 (by omega)).mp q)
      have h2 : nI n = 60 := (eq_i60 (by omega)).mpr e60
      have e1 : (nI n < 60) = False := eq_false h1
      have e2 : (nI n = 60) = True := eq_true h2
      simp only [c, e1, e2, if_true, if_false]
      exact ⟨trivial, n, hn, rfl, h20, hg⟩
  · simp only [c, if_false, Bool.false_eq_true]
    exact ⟨trivial, n, hn, rfl, h20, hg⟩
theorem eq_sayA_o {A : Nat → Nat → Int32} {I : Nat → Int32} (x : Int32) {j : Nat} (hj : j ≠ 10) : em_sayA A I x j = A j := by
  unfold em_sayA
  split
  · split
    · rfl
    · exact va_up_ne _ _ hj
  · rfl
theorem eq_sayI_o {I : Nat → Int32} (x : Int32) {j : Nat} (hj : j ≠ 20) : em_sayI I x j = I j := by
  unfold em_sayI
  split
  · split
    · rfl
    · exact va_up_ne _ _ hj
  · rfl
/-- a sight more -/
theorem eq_P.sights {T A : Nat → Nat → Int32} {I : Nat → Int32} (h : eq_P T A I) (v : Int32) : eq_P (va_up T 12 (fun _ => v)) A (va_up I 18 v) := by
  refine ⟨by rw [va_up_ne _ _ (by decide)]; exact h.1, fun k hk => ?_, fun k hk => ?_, fun j k hj hk => ?_, ?_⟩
  · rw [va_up_ne _ _ (by decide), va_up_ne _ _ (by decide)]; exact h.2.1 k hk
  · rw [va_up_ne _ _ (by decide), va_up_ne _ _ (by omega)]; exact h.2.2.1 k hk
  · rw [va_up_ne _ _ (by omega)]; exact h.2.2.2.1 j k hj hk
  · rw [va_up_self, va_up_self]
theorem eq_see {T A : Nat → Nat → Int32} {I : Nat → Int32} {B : Nat} (h : eq_P T A I) (hR : eq_R B A I) (p y d : Int32) : eq_P (dj_seeT T p y d) (em_seA A I p y d) (em_seI I p y d) ∧ eq_R B (em_seA A I p y d) (em_seI I p y d) ∧ dj_seeR T p y d = em_seR I p y d := by
  unfold dj_seeT em_seA em_seI dj_seeR em_seR em_seV
  rw [eq_roh h]
  obtain ⟨x, hx, ex⟩ := hR.2.2.2.2.1
  have e12 : T 12 0 = nI x := by rw [h.2.2.2.2, ex]
  rw [e12, ex]
  by_cases c1 : em_isT I p = true
  · by_cases c2 : xw_in y 1 15 = true
    · by_cases c3 : xw_in d 0 1 = true
      · by_cases c4 : x < 6
        · have h1 : nI x < 6 := (nI_ltI (a := x) (b := 6) (by omega) (by decide)).mpr c4
          have h2 : ¬ nI x = 6 := fun q => absurd ((nI_eq (a := x) (b := 6) (by omega) (by decide)).mp q) (by omega)
          have hv : vp_in (nI x) 6 := eq_i6 c4
          have P0 := h.row 7 (by decide) (F := xb_pt 6 (T 9) (nI x) p) (G := upd (A 7) (nI x).toNatClampNeg p) (eq_pt hv (fun k hk => h.2.2.2.1 7 k (by decide) hk))
          have P1 := P0.row 8 (by decide) (F := xb_pt 6 (T 10) (nI x) y) (G := upd (A 8) (nI x).toNatClampNeg y) (eq_pt hv (fun k hk => h.2.2.2.1 8 k (by decide) hk))
          have P2 := P1.row 9 (by decide) (F := xb_pt 6 (T 11) (nI x) d) (G := upd (A 9) (nI x).toNatClampNeg d) (eq_pt hv (fun k hk => h.2.2.2.1 9 k (by decide) hk))
          have P3 := P2.sights (nI x + 1)
          have e1 : dt_see T p y d = va_up (va_up (va_up (va_up T 9 (xb_pt 6 (T 9) (nI x) p)) 10 (xb_pt 6 (T 10) (nI x) y)) 11 (xb_pt 6 (T 11) (nI x) d)) 12 (fun _ => nI x + 1) := by
            unfold dt_see
            rw [e12, if_pos h1]
          simp only [c1, c2, c3, h1, h2, if_true, if_false, decide_false, Bool.not_false]
          rw [e1]
          refine ⟨P3, ?_, ?_⟩
          · refine ⟨by rw [va_up_ne _ _ (by decide)]; exact hR.1, by rw [va_up_ne _ _ (by decide)]; exact hR.2.1, by rw [va_up_ne _ _ (by decide)]; exact hR.2.2.1, by rw [va_up_ne _ _ (by decide)]; exact hR.2.2.2.1, ⟨x + 1, by omega, by rw [va_up_self]; exact nI_1 x⟩, fun k hk => ?_, fun k hk => ?_, fun k hk => ?_⟩
            · rw [va_up_ne _ _ (by decide), va_up_ne _ _ (by decide), va_up_ne _ _ (by decide)]; exact hR.2.2.2.2.2.1 k hk
            · rw [va_up_ne _ _ (by decide), va_up_ne _ _ (by decide), va_up_ne _ _ (by decide)]; exact hR.2.2.2.2.2.2.1 k hk
            · rw [va_up_self]
              unfold upd
              by_cases e : k = (nI x).toNatClampNeg
              · rw [if_pos e]; exact eq_w01 c3
              · rw [if_neg e]; exact hR.2.2.2.2.2.2.2 k hk
          · rw [va_up_self]
        · have h1 : ¬ nI x < 6 := fun q => c4 ((nI_ltI (a := x) (b := 6) (by omega) (by decide)).mp q)
          have h2 : nI x = 6 := (nI_eq (a := x) (b := 6) (by omega) (by decide)).mpr (by omega)
          have e1 : dt_see T p y d = T := by
            unfold dt_see
            rw [e12, if_neg h1]
          simp only [c1, c2, c3, h1, h2, if_true, if_false, decide_true, Bool.not_true, Bool.false_eq_true]
          rw [e1]
          exact ⟨h, hR, by rw [if_neg (by decide)]⟩
      · simp only [c1, c2, c3, if_true, if_false, Bool.false_eq_true]; exact ⟨h, hR, trivial⟩
    · simp only [c1, c2, if_true, if_false, Bool.false_eq_true, show ¬ (-2 : Int32) = 0 by decide]; exact ⟨h, hR, trivial⟩
  · simp only [c1, if_false, Bool.false_eq_true, show ¬ (-1 : Int32) = 0 by decide]; exact ⟨h, hR, trivial⟩
theorem eq_seA_o {A : Nat → Nat → Int32} {I : Nat → Int32} (p y d : Int32) {j : Nat} (hj : j < 7 ∨ 9 < j) : em_seA A I p y d j = A j := by
  unfold em_seA
  split
  · rw [va_up_ne _ _ (by omega), va_up_ne _ _ (by omega), va_up_ne _ _ (by omega)]
  · rfl
theorem eq_seI_o {I : Nat → Int32} (p y d : Int32) {j : Nat} (hj : j ≠ 18) : em_seI I p y d j = I j := by
  unfold em_seI
  split
  · exact va_up_ne _ _ hj
  · rfl
theorem eq_forR {A : Nat → Nat → Int32} {I : Nat → Int32} {B : Nat} (hR : eq_R B A I) : eq_R B A (va_up I 18 0) :=
  ⟨by rw [va_up_ne _ _ (by decide)]; exact hR.1, by rw [va_up_ne _ _ (by decide)]; exact hR.2.1, by rw [va_up_ne _ _ (by decide)]; exact hR.2.2.1, by rw [va_up_ne _ _ (by decide)]; exact hR.2.2.2.1, ⟨0, by omega, va_up_self ..⟩, hR.2.2.2.2.2⟩
