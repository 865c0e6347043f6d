/-! a year, as both go through it -/
def eq_Yr (B : Nat) (A0 : Nat → Nat → Int32) (I0 : Nat → Int32) (d : Int32 × dy_D) (s : em_Y) : Prop :=
  d.1 = s.1 ∧ (∃ j : Nat, j ≤ 65536 ∧ s.1 = nI j) ∧ eq_P d.2.1 s.2.1 s.2.2.1 ∧ eq_R B s.2.1 s.2.2.1 ∧ d.2.2 = s.2.2.2 ∧ (∀ j, j ≠ 4 → j ≠ 5 → j ≠ 6 → s.2.1 j = A0 j) ∧ (∀ k, k ≠ 14 → s.2.2.1 k = I0 k)
theorem eq_yh {B : Nat} {T A : Nat → Nat → Int32} {I : Nat → Int32} (hP : eq_P T A I) (hR : eq_R B A I) {a : Int32} (ha : vp_in a 6) : dy_h T a = em_yh A I a ∧ eq_h (em_yh A I a) := by
  obtain ⟨x, x1, x9, e8⟩ := hR.1
  obtain ⟨y, hy, e4⟩ := hR.2.2.2.2.2.1 _ (eq_vinN ha)
  have es : A 4 a.toNatClampNeg + I 8 = nI (y + x) := by rw [e4, e8, nI_add]
  unfold dy_h em_yh xw_mn
  rw [eq_a6 hP ha, eq_r0 hP, es]
  by_cases h : y + x < 15
  · have h1 : nI (y + x) < 15 := nI_lt (a := y + x) (b := 15) h (by decide)
    rw [if_pos h1, if_neg (Int32.not_le.mpr h1)]
    exact ⟨rfl, y + x, by omega, rfl⟩
  · have h1 : (15 : Int32) ≤ nI (y + x) := nI_le (a := 15) (b := y + x) (by omega) (by omega)
    rw [if_neg (Int32.not_lt.mpr h1), if_pos h1]
    exact ⟨rfl, 15, by omega, rfl⟩
theorem eq_Yd {B : Nat} {A0 : Nat → Nat → Int32} {I0 : Nat → Int32} {x : Int32} {d : dy_D} {s : em_Y} (h : eq_Yr B A0 I0 (x, d) s) (hB : B + 15 < 2 ^ 30) {a b : Int32} (ha : vp_in a 6) (hb : vp_in b 6) : eq_Yr (B + 15) A0 I0 (x, dy_dar a b d) (em_yd a b (em_yh s.2.1 s.2.2.1 a) s) := by
  obtain ⟨x', A, I, c1, c2, c3⟩ := s
  obtain ⟨T, e1, e2, e3⟩ := d
  obtain ⟨hx, hj, hP, hR, hc, hA, hI⟩ := h
  dsimp only at hx hj hP hR hc hA hI ⊢
  obtain ⟨hh, hy⟩ := eq_yh hP hR ha
  cases hc
  unfold dy_dar em_yd
  dsimp only
  rw [hh, eq_why hP]
  generalize em_yh A I a = y at *
  by_cases w : em_why A I a b y = 0
  · rw [if_pos w, if_pos w, eq_dit hP hb]
    by_cases q : em_dit A I b y = true
    · rw [if_pos q, if_pos q, eq_doB hP hR.2.2.2.1 hb]
      refine ⟨hx, hj, eq_do hP hR.2.2.2.1 hb y, eq_doR hR (by omega) b hy, ?_, fun j h4 h5 h6 => by rw [← hA j h4 h5 h6]; exact em_doT_ne h4 h5 h6, fun k hk => by rw [← hI k hk]; exact em_doI_ne hk⟩
      by_cases z : em_doH A I b y = 0
      · simp [z]
      · simp [z]
    · rw [if_neg q, if_neg q]
      exact ⟨hx, hj, eq_ref hP hb y, eq_refR hR (by omega) b hy, rfl, fun j h4 h5 h6 => by rw [← hA j h4 h5 h6]; exact va_up_ne _ _ h5, hI⟩
  · rw [if_neg w, if_neg w]
    exact ⟨hx, hj, hP, hR.mono (by omega), rfl, hA, hI⟩
theorem eq_Yn {B : Nat} {A0 : Nat → Nat → Int32} {I0 : Nat → Int32} {x : Int32} {d : dy_D} {s : em_Y} (h : eq_Yr B A0 I0 (x, d) s) (hB : B < 2 ^ 30) (k : Nat) : eq_Yr B A0 I0 (x, if xw_rem (nI (k + 1)) 3 = 0 then (dt_nit d.1, d.2) else d) (em_yn k s) := by
  obtain ⟨hx, hj, hP, hR, hc, hA, hI⟩ := h
  unfold em_yn
  by_cases q : xw_rem (nI (k + 1)) 3 = 0
  · rw [if_pos q, if_pos q]
    obtain ⟨P6, R6⟩ := eq_nik hP hR hB 6 (Nat.le_refl 6)
    exact ⟨hx, hj, P6, R6, hc, fun j h4 h5 h6 => by rw [← hA j h4 h5 h6]; exact eq_nik_ne h5 h6 6, hI⟩
  · rw [if_neg q, if_neg q]
    exact ⟨hx, hj, hP, hR, hc, hA, hI⟩
theorem eq_Ys {B : Nat} {A0 : Nat → Nat → Int32} {I0 : Nat → Int32} {d : Int32 × dy_D} {s : em_Y} (h : eq_Yr B A0 I0 d s) (hB : B + 15 < 2 ^ 30) (k : Nat) : eq_Yr (B + 15) A0 I0 (xw_drw d.1, dy_stp k (xw_drw d.1) d.2) (em_ys k s) := by
  obtain ⟨hx, hj, hP, hR, hc, hA, hI⟩ := h
  have ex : xw_drw d.1 = em_drw s.1 := by
    obtain ⟨j, hj1, hj2⟩ := hj
    rw [hx, hj2]; exact eq_drw hj1
  have hj' := em_dr6 hj
  obtain ⟨ha, hb⟩ := em_m6 hj'
  rw [ex]
  have h1 : eq_Yr B A0 I0 (em_drw s.1, d.2) (em_drw s.1, s.2) := ⟨rfl, hj', hP, hR, hc, hA, hI⟩
  have h2 := eq_Yd h1 hB ha hb
  have h3 := eq_Yn h2 hB k
  exact h3
theorem eq_Yk {B : Nat} {T : Nat → Nat → Int32} {A0 : Nat → Nat → Int32} {I0 : Nat → Int32} {s9 : Int32} {s0 : em_Y} (h0 : eq_Yr B A0 I0 (s9, T, 0, 0, 0) s0) (hB : B + 2000 < 2 ^ 30) : ∀ (m n k : Nat) (s : em_Y), k + m = n → n ≤ 99 → eq_Yr (B + 15 * k) A0 I0 (dy_run T s9 k) s → eq_Yr (B + 15 * n) A0 I0 (dy_run T s9 n) (em_yk m k s) := by
  intro m
  induction m with
  | zero =>
    intro n k s hk hn h
    rw [em_yk, show n = k by omega]; exact h
  | succ m ih =>
    intro n k s hk hn h
    rw [em_yk]
    refine ih n (k + 1) _ (by omega) hn ?_
    have := eq_Ys h (by omega) k
    rw [show B + 15 * (k + 1) = B + 15 * k + 15 by omega]
    exact this
theorem eq_Yall {B : Nat} {T A : Nat → Nat → Int32} {I : Nat → Int32} (hP : eq_P T A I) (hR : eq_R B A I) (hB : B + 2000 < 2 ^ 30) {s9 : Int32} (hs : xw_in s9 0 9999 = true) {n : Nat} (hn : n ≤ 99) : eq_Yr (B + 15 * n) (em_kpk A 6) (va_up I 34 (I 14)) (dy_run T s9 n) (em_yea A I s9 n) := by
  have hrow : ∀ j k, j < 10 → k < 6 → em_kpk A 6 j k = A j k := fun j k hj _ => by rw [eq_kpk_o (by omega) (by omega) (by omega)]
  have hsame : eq_Isame (va_up I 34 (I 14)) I := ⟨va_up_ne _ _ (by decide), fun k hk => va_up_ne _ _ (by omega), va_up_ne _ _ (by decide)⟩
  have h0 : eq_Yr B (em_kpk A 6) (va_up I 34 (I 14)) (s9, T, 0, 0, 0) (s9, em_kpk A 6, va_up I 34 (I 14), 0, 0, 0) := by
    refine ⟨rfl, ?_, hP.congr hrow hsame, hR.congr hrow hsame, rfl, fun _ _ _ _ => rfl, fun _ _ => rfl⟩
    obtain ⟨h1, -, h3⟩ := xw_inN (a := 0) (c := 9999) hs (by decide) (by decide)
    exact ⟨s9.toNatClampNeg, by omega, h1⟩
  exact eq_Yk h0 hB n n 0 _ (by omega) hn (by exact h0)
theorem eq_yea {B : Nat} {T A : Nat → Nat → Int32} {I : Nat → Int32} (hP : eq_P T A I) (hR : eq_R B A I) (hB : B + 2000 < 2 ^ 30) (s n w : Int32) : dj_yea T s n w = em_yeR A I s n w := by
  unfold dj_yea em_yeR em_yeV
  rw [show xb_at 7 xg_f2 6 = 9999 from rfl]
  by_cases hs : xw_in s 0 9999 = true
  · by_cases hn : xw_in n 1 99 = true
    · by_cases hw : xw_in w 0 2 = true
      · obtain ⟨-, -, hn3⟩ := xw_inN (a := 1) (c := 99) hn (by decide) (by decide)
        obtain ⟨-, -, -, -, hc, -, -⟩ := eq_Yall hP hR hB hs (n := n.toNatClampNeg) (by omega)
        unfold em_yew
        rw [← hc]
        simp only [hs, hn, hw, if_true]
      · simp only [hs, hn, hw, if_true, if_false, Bool.false_eq_true]
    · simp only [hs, hn, if_true, if_false, Bool.false_eq_true]
  · simp only [hs, if_false, Bool.false_eq_true]
theorem eq_yeO {B : Nat} {T A : Nat → Nat → Int32} {I : Nat → Int32} (hP : eq_P T A I) (hR : eq_R B A I) (hB : B + 2000 < 2 ^ 30) (s n w : Int32) : eq_O (em_yeG A I s n w).1 (em_yeG A I s n w).2 A I := by
  unfold em_yeG em_yeV
  by_cases hs : xw_in s 0 9999 = true
  · by_cases hn : xw_in n 1 99 = true
    · by_cases hw : xw_in w 0 2 = true
      · obtain ⟨-, -, hn3⟩ := xw_inN (a := 1) (c := 99) hn (by decide) (by decide)
        obtain ⟨-, -, -, -, -, hA, hI⟩ := eq_Yall hP hR hB hs (n := n.toNatClampNeg) (by omega)
        rw [if_pos (by rw [if_pos hs, if_pos hn]; exact hw)]
        refine eq_pbO (A0 := em_kpk A 6) (I0 := va_up I 34 (I 14)) (fun k hk => eq_kpk_k hk) (fun j hj => eq_kpk_o (by omega) (by omega) (by omega)) (va_up_self ..) (fun k hk => va_up_ne _ _ (by omega)) hA (fun k h1 _ _ _ _ _ => hI k h1)
      · simp only [hs, hn, hw, if_true, if_false, Bool.false_eq_true]; exact eq_O.rf
    · simp only [hs, hn, if_true, if_false, Bool.false_eq_true]; exact eq_O.rf
  · simp only [hs, if_false, Bool.false_eq_true]; exact eq_O.rf
