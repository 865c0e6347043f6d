/-! the steps of the people's state -/
theorem eq_badd {a b : Int32} (h1 : -2147483648 ≤ a.toInt + b.toInt) (h2 : a.toInt + b.toInt < 2147483648) : (a + b).toInt = a.toInt + b.toInt := by
  rw [Int32.toInt_add]; exact Int.bmod_eq_of_le (by omega) (by omega)
theorem eq_bsub {a b : Int32} (h1 : -2147483648 ≤ a.toInt - b.toInt) (h2 : a.toInt - b.toInt < 2147483648) : (a - b).toInt = a.toInt - b.toInt := by
  rw [Int32.toInt_sub]; exact Int.bmod_eq_of_le (by omega) (by omega)
theorem eq_bneg {a : Int32} (h1 : -2147483648 < a.toInt) : (-a).toInt = -a.toInt := by
  have h2 := Int32.toInt_lt a
  rw [Int32.toInt_neg]; exact Int.bmod_eq_of_le (by omega) (by omega)
def eq_R (B : Nat) (A : Nat → Nat → Int32) (I : Nat → Int32) : Prop :=
  (∃ x : Nat, 1 ≤ x ∧ x ≤ 9 ∧ I 8 = nI x) ∧ (∃ x : Nat, x ≤ 9 ∧ I 9 = nI x) ∧ (∃ x : Nat, x ≤ 9 ∧ I 11 = nI x) ∧ (∃ x : Nat, x ≤ 65536 ∧ I 14 = nI x) ∧ (∃ x : Nat, x ≤ 6 ∧ I 18 = nI x) ∧
  (∀ k, k < 6 → ∃ x : Nat, x ≤ 15 ∧ A 4 k = nI x) ∧ (∀ k, k < 6 → -(B : Int) ≤ (A 5 k).toInt ∧ (A 5 k).toInt ≤ (B : Int)) ∧ (∀ k, k < 6 → A 9 k = 0 ∨ A 9 k = 1)
theorem eq_R.mono {B C : Nat} {A : Nat → Nat → Int32} {I : Nat → Int32} (h : eq_R B A I) (hC : B ≤ C) : eq_R C A I :=
  ⟨h.1, h.2.1, h.2.2.1, h.2.2.2.1, h.2.2.2.2.1, h.2.2.2.2.2.1, fun k hk => by have := h.2.2.2.2.2.2.1 k hk; omega, h.2.2.2.2.2.2.2⟩
/-- the slots that are the people's and the rules' -/
def eq_Isame (I' I : Nat → Int32) : Prop := I' 0 = I 0 ∧ (∀ k, k < 7 → I' (8 + k) = I (8 + k)) ∧ I' 18 = I 18
theorem eq_P.congr {T A A' : Nat → Nat → Int32} {I I' : Nat → Int32} (h : eq_P T A I) (hA : ∀ j k, j < 10 → k < 6 → A' j k = A j k) (hI : eq_Isame I' I) : eq_P T A' I' := by
  obtain ⟨i0, i1, i2⟩ := hI
  exact ⟨by rw [i0]; exact h.1, fun k hk => by rw [i0]; exact h.2.1 k hk, fun k hk => by rw [i1 k hk]; exact h.2.2.1 k hk, fun j k hj hk => by rw [hA j k hj hk]; exact h.2.2.2.1 j k hj hk, by rw [i2]; exact h.2.2.2.2⟩
theorem eq_R.congr {B : Nat} {A A' : Nat → Nat → Int32} {I I' : Nat → Int32} (h : eq_R B A I) (hA : ∀ j k, j < 10 → k < 6 → A' j k = A j k) (hI : eq_Isame I' I) : eq_R B A' I' := by
  obtain ⟨i0, i1, i2⟩ := hI
  refine ⟨?_, ?_, ?_, ?_, ?_, fun k hk => by rw [hA 4 k (by decide) hk]; exact h.2.2.2.2.2.1 k hk, fun k hk => by rw [hA 5 k (by decide) hk]; exact h.2.2.2.2.2.2.1 k hk, fun k hk => by rw [hA 9 k (by decide) hk]; exact h.2.2.2.2.2.2.2 k hk⟩
  · rw [show I' 8 = I 8 from i1 0 (by decide)]; exact h.1
  · rw [show I' 9 = I 9 from i1 1 (by decide)]; exact h.2.1
  · rw [show I' 11 = I 11 from i1 3 (by decide)]; exact h.2.2.1
  · rw [show I' 14 = I 14 from i1 6 (by decide)]; exact h.2.2.2.1
  · rw [i2]; exact h.2.2.2.2.1
theorem eq_P.row {T A : Nat → Nat → Int32} {I : Nat → Int32} (h : eq_P T A I) (j : Nat) (hj : j < 10) {F G : Nat → Int32} (hFG : ∀ k, k < 6 → F k = G k) : eq_P (va_up T (2 + j) F) (va_up A j G) I := by
  refine ⟨h.1, fun k hk => ?_, fun k hk => ?_, fun i k hi hk => ?_, ?_⟩
  · rw [va_up_ne _ _ (by omega)]; exact h.2.1 k hk
  · rw [va_up_ne _ _ (by omega)]; exact h.2.2.1 k hk
  · by_cases e : i = j
    · subst e; rw [va_up_self, va_up_self]; exact hFG k hk
    · rw [va_up_ne _ _ (by omega), va_up_ne _ _ e]; exact h.2.2.2.1 i k hi hk
  · rw [va_up_ne _ _ (by omega)]; exact h.2.2.2.2
theorem eq_pt {f g : Nat → Int32} {p v : Int32} (hp : vp_in p 6) (h : ∀ k, k < 6 → f k = g k) : ∀ k, k < 6 → xb_pt 6 f p v k = upd g p.toNatClampNeg v k := by
  intro k hk
  rw [xb_pt_in hp]
  unfold upd
  by_cases e : k = p.toNatClampNeg
  · rw [if_pos e, if_pos e]
  · rw [if_neg e, if_neg e]; exact h k hk
theorem eq_P.x {T A : Nat → Nat → Int32} {I : Nat → Int32} (h : eq_P T A I) (v : Int32) {F : Nat → Int32} (hF : F = T 0) : eq_P (va_up T 0 (xb_pt 7 F 6 v)) A (va_up I 14 v) := by
  subst hF
  refine ⟨by rw [va_up_ne _ _ (by decide)]; exact h.1, fun k hk => ?_, fun k hk => ?_, fun i k hi hk => ?_, ?_⟩
  · rw [va_up_ne _ _ (by decide), va_up_ne _ _ (by decide)]; exact h.2.1 k hk
  · rw [va_up_self, show xb_pt 7 (T 0) 6 v = upd (T 0) 6 v from xb_pt_n (k := 6) (by decide) (by decide)]
    unfold upd
    by_cases e : k = 6
    · subst e; rw [if_pos rfl, va_up_self]
    · rw [if_neg e, va_up_ne _ _ (by omega)]; exact h.2.2.1 k hk
  · rw [va_up_ne _ _ (by omega)]; exact h.2.2.2.1 i k hi hk
  · rw [va_up_ne _ _ (by decide), va_up_ne _ _ (by decide)]; exact h.2.2.2.2
theorem eq_mx (x y : Int32) : xw_mx x y = em_mst x y := by
  unfold xw_mx em_mst
  by_cases h1 : x < y
  · rw [if_pos h1, if_pos (Int32.le_of_lt h1)]
  · rw [if_neg h1]
    by_cases h2 : x ≤ y
    · rw [if_pos h2]
      rw [Int32.lt_iff_toInt_lt] at h1
      rw [Int32.le_iff_toInt_le] at h2
      exact Int32.toInt_inj.mp (by omega)
    · rw [if_neg h2]
theorem eq_drw {j : Nat} (h : j ≤ 65536) : xw_drw (nI j) = em_drw (nI j) := by
  rw [em_drw_N h]
  unfold xw_drw xw_rem
  rw [show (75 : Int32) * nI j = nI (75 * j) from pk_mul 75 j, show nI (75 * j) + 74 = nI (75 * j + 74) from nI_add (75 * j) 74]
  exact pk_rem (d := 65537) (by omega) (by decide) (by decide)
theorem eq_do3 {T A : Nat → Nat → Int32} {I : Nat → Int32} (hP : eq_P T A I) (hx : ∃ x : Nat, x ≤ 65536 ∧ I 14 = nI x) {p : Int32} (hp : vp_in p 6) (h : Int32) : eq_P (dt_pf3 T p h) (em_do3 A p h) (em_doI I) := by
  unfold dt_pf3 em_do3 em_doI
  have e : xw_drw (xb_at 7 (T 0) 6) = em_drw (I 14) := by
    rw [eq_r6 hP]
    obtain ⟨x, h1, h2⟩ := hx
    rw [h2]; exact eq_drw h1
  rw [e, eq_mx, eq_a6 hP hp, eq_a7 hP hp]
  refine ((hP.row 4 (by decide) (eq_pt hp (fun k hk => hP.2.2.2.1 4 k (by decide) hk))).row 5 (by decide) (eq_pt hp (fun k hk => hP.2.2.2.1 5 k (by decide) hk))).x _ ?_
  rw [va_up_ne _ _ (by decide), va_up_ne _ _ (by decide)]
theorem eq_doB {T A : Nat → Nat → Int32} {I : Nat → Int32} (hP : eq_P T A I) (hx : ∃ x : Nat, x ≤ 65536 ∧ I 14 = nI x) {p : Int32} (hp : vp_in p 6) (h : Int32) : dt_pfB T p h = !decide (em_doH A I p h = 0) := by
  unfold dt_pfB em_doH
  rw [eq_odd (eq_do3 hP hx hp h) hp]
  have e1 : em_odd (em_do3 A p h) (em_doI I) p h = em_odd A I p h := em_odd_do
  have e : xw_drw (xb_at 7 (T 0) 6) = em_drw (I 14) := by
    rw [eq_r6 hP]
    obtain ⟨x, h1, h2⟩ := hx
    rw [h2]; exact eq_drw h1
  rw [e1, e]
  by_cases c : em_odd A I p h ≤ xw_rem (em_drw (I 14)) 10
  · have c2 : ¬ xw_rem (em_drw (I 14)) 10 < em_odd A I p h := Int32.not_lt.mpr c
    simp [c, c2]
  · have c2 : xw_rem (em_drw (I 14)) 10 < em_odd A I p h := Int32.not_le.mp c
    simp [c, c2]
theorem eq_do {T A : Nat → Nat → Int32} {I : Nat → Int32} (hP : eq_P T A I) (hx : ∃ x : Nat, x ≤ 65536 ∧ I 14 = nI x) {p : Int32} (hp : vp_in p 6) (h : Int32) : eq_P (dt_pfT T p h) (em_doT A I p h) (em_doI I) := by
  have h3 := eq_do3 hP hx hp h
  have e6 : em_do3 A p h 6 = A 6 := by unfold em_do3; rw [va_up_ne _ _ (by decide), va_up_ne _ _ (by decide)]
  unfold dt_pfT em_doT
  rw [eq_doB hP hx hp h]
  by_cases c : em_doH A I p h = 0
  · rw [if_neg (by simp [c]), if_pos c]
    refine h3.congr (fun j k hj hk => ?_) ⟨rfl, fun _ _ => rfl, rfl⟩
    by_cases e : j = 6
    · subst e
      rw [va_up_self, e6]
      unfold upd
      by_cases e2 : k = p.toNatClampNeg
      · rw [if_pos e2, e2]
      · rw [if_neg e2]
    · rw [va_up_ne _ _ e]
  · rw [if_pos (by simp [c]), if_neg c]
    have e12 : xb_at 7 (dt_pf3 T p h 0) 4 = I 12 := (eq_r4 h3).trans (em_doI_ne (by decide))
    rw [e12]
    exact h3.row 6 (by decide) (eq_pt hp (fun k hk => hP.2.2.2.1 6 k (by decide) hk))
theorem eq_ref {T A : Nat → Nat → Int32} {I : Nat → Int32} (hP : eq_P T A I) {p : Int32} (hp : vp_in p 6) (h : Int32) : eq_P (dt_ref T p h) (va_up A 5 (upd (A 5) p.toNatClampNeg (A 5 p.toNatClampNeg - h / 2))) I := by
  unfold dt_ref
  rw [eq_a7 hP hp]
  exact hP.row 5 (by decide) (eq_pt hp (fun k hk => hP.2.2.2.1 5 k (by decide) hk))
/-- a height that is drawn or told -/
def eq_h (h : Int32) : Prop := ∃ x : Nat, x ≤ 15 ∧ h = nI x
theorem eq_R.fame {B : Nat} {A : Nat → Nat → Int32} {I : Nat → Int32} (h : eq_R B A I) {B' : Nat} {A' : Nat → Nat → Int32} (h4 : ∀ k, k < 6 → ∃ x : Nat, x ≤ 15 ∧ A' 4 k = nI x) (h5 : ∀ k, k < 6 → -(B' : Int) ≤ (A' 5 k).toInt ∧ (A' 5 k).toInt ≤ (B' : Int)) (h9 : A' 9 = A 9) : eq_R B' A' I :=
  ⟨h.1, h.2.1, h.2.2.1, h.2.2.2.1, h.2.2.2.2.1, h4, h5, fun k hk => by rw [h9]; exact h.2.2.2.2.2.2.2 k hk⟩
theorem eq_doR {B : Nat} {A : Nat → Nat → Int32} {I : Nat → Int32} (h : eq_R B A I) (hB : B < 2 ^ 30) (p : Int32) {y : Int32} (hy : eq_h y) : eq_R (B + 15) (em_doT A I p y) (em_doI I) := by
  obtain ⟨z, hz, rfl⟩ := hy
  have hdr : ∃ x : Nat, x ≤ 65536 ∧ em_doI I 14 = nI x := by
    unfold em_doI
    rw [va_up_self]
    obtain ⟨x, a1, a2⟩ := h.2.2.2.1
    rw [a2, em_drw_N a1]
    exact ⟨_, by omega, rfl⟩
  have hI : ∀ j, j ≠ 14 → em_doI I j = I j := fun j hj => em_doI_ne hj
  refine ⟨by rw [hI 8 (by decide)]; exact h.1, by rw [hI 9 (by decide)]; exact h.2.1, by rw [hI 11 (by decide)]; exact h.2.2.1, hdr, by rw [hI 18 (by decide)]; exact h.2.2.2.2.1, fun k hk => ?_, fun k hk => ?_, fun k hk => ?_⟩
  · have e : em_doT A I p (nI z) 4 k = if k = p.toNatClampNeg then em_mst (A 4 p.toNatClampNeg) (nI z) else A 4 k := by
      unfold em_doT em_do3
      rw [va_up_ne _ _ (by decide), va_up_ne _ _ (by decide), va_up_self]; rfl
    rw [e]
    by_cases c : k = p.toNatClampNeg
    · rw [if_pos c, ← c]
      unfold em_mst
      split
      · exact ⟨z, hz, rfl⟩
      · exact h.2.2.2.2.2.1 k hk
    · rw [if_neg c]; exact h.2.2.2.2.2.1 k hk
  · have e : em_doT A I p (nI z) 5 k = if k = p.toNatClampNeg then A 5 p.toNatClampNeg + nI z else A 5 k := by
      unfold em_doT em_do3
      rw [va_up_ne _ _ (by decide), va_up_self]; rfl
    have hb := h.2.2.2.2.2.2.1 k hk
    rw [e]
    by_cases c : k = p.toNatClampNeg
    · rw [if_pos c, ← c]
      have hz2 : (nI z).toInt = (z : Int) := nI_toInt (by omega)
      rw [eq_badd (by omega) (by omega), hz2]
      omega
    · rw [if_neg c]; omega
  · rw [show em_doT A I p (nI z) 9 = A 9 from em_doT_ne (by decide) (by decide) (by decide)]
    exact h.2.2.2.2.2.2.2 k hk
theorem eq_refR {B : Nat} {A : Nat → Nat → Int32} {I : Nat → Int32} (h : eq_R B A I) (hB : B < 2 ^ 30) (p : Int32) {y : Int32} (hy : eq_h y) : eq_R (B + 15) (va_up A 5 (upd (A 5) p.toNatClampNeg (A 5 p.toNatClampNeg - y / 2))) I := by
  obtain ⟨z, hz, rfl⟩ := hy
  refine h.fame (fun k hk => ?_) (fun k hk => ?_) (va_up_ne _ _ (by decide))
  · rw [va_up_ne _ _ (by decide)]; exact h.2.2.2.2.2.1 k hk
  · rw [va_up_self]
    unfold upd
    have hb := h.2.2.2.2.2.2.1 k hk
    by_cases c : k = p.toNatClampNeg
    · rw [if_pos c, ← c, show nI z / 2 = nI (z / 2) from pk_div (d := 2) (by omega) (by decide) (by decide)]
      have hz2 : (nI (z / 2)).toInt = ((z / 2 : Nat) : Int) := nI_toInt (by omega)
      rw [eq_bsub (by omega) (by omega), hz2]
      omega
    · rw [if_neg c]; omega
theorem eq_fad {f : Int32} {x : Nat} (hx : x ≤ 9) (h1 : -1073741824 < f.toInt) (h2 : f.toInt < 1073741824) : dt_fad f (nI x) = em_fa2 f (em_mst 0 (em_ab f - nI x)) ∧ -(f.toInt.natAbs : Int) ≤ (dt_fad f (nI x)).toInt ∧ (dt_fad f (nI x)).toInt ≤ (f.toInt.natAbs : Int) := by
  have ex : (nI x).toInt = (x : Int) := nI_toInt (by omega)
  have e0 : (0 : Int32).toInt = 0 := rfl
  have ea : (f + nI x).toInt = f.toInt + x := by rw [eq_badd (by omega) (by omega), ex]
  have es : (f - nI x).toInt = f.toInt - x := by rw [eq_bsub (by omega) (by omega), ex]
  have en : (-f).toInt = -f.toInt := eq_bneg (by omega)
  have ens : (-f - nI x).toInt = -f.toInt - x := by rw [eq_bsub (by omega) (by omega), ex, en]
  have enn : (-(-f - nI x)).toInt = f.toInt + x := by rw [eq_bneg (by omega), ens]; omega
  have e00 : (-(0 : Int32)).toInt = 0 := rfl
  unfold dt_fad em_fa2 em_mst em_ab xw_mn xw_mx
  by_cases c1 : f ≤ 0 <;> by_cases c2 : 0 ≤ f <;> simp only [c1, c2, if_true, if_false]
  · rw [Int32.le_iff_toInt_le] at c1 c2
    have c3 : ¬ f + nI x < 0 := by rw [Int32.lt_iff_toInt_lt]; omega
    rw [if_neg c3]
    refine ⟨?_, by omega, by omega⟩
    by_cases c4 : (0 : Int32) ≤ f - nI x
    · rw [if_pos c4]
      rw [Int32.le_iff_toInt_le] at c4
      exact Int32.toInt_inj.mp (by omega)
    · rw [if_neg c4]
  · rw [Int32.le_iff_toInt_le] at c1 c2
    by_cases c3 : f + nI x < 0
    · rw [if_pos c3]
      rw [Int32.lt_iff_toInt_lt] at c3
      have c4 : (0 : Int32) ≤ -f - nI x := by rw [Int32.le_iff_toInt_le]; omega
      rw [if_pos c4]
      exact ⟨Int32.toInt_inj.mp (by omega), by omega, by omega⟩
    · rw [if_neg c3]
      rw [Int32.lt_iff_toInt_lt] at c3
      refine ⟨?_, by omega, by omega⟩
      by_cases c4 : (0 : Int32) ≤ -f - nI x
      · rw [if_pos c4]
        rw [Int32.le_iff_toInt_le] at c4
        exact Int32.toInt_inj.mp (by omega)
      · rw [if_neg c4]; rfl
  · rw [Int32.le_iff_toInt_le] at c1 c2
    by_cases c3 : 0 < f - nI x
    · rw [if_pos c3]
      rw [Int32.lt_iff_toInt_lt] at c3
      have c4 : (0 : Int32) ≤ f - nI x := by rw [Int32.le_iff_toInt_le]; omega
      rw [if_pos c4]
      exact ⟨rfl, by omega, by omega⟩
    · rw [if_neg c3]
      rw [Int32.lt_iff_toInt_lt] at c3
      refine ⟨?_, by omega, by omega⟩
      by_cases c4 : (0 : Int32) ≤ f - nI x
      · rw [if_pos c4]
        rw [Int32.le_iff_toInt_le] at c4
        exact Int32.toInt_inj.mp (by omega)
      · rw [if_neg c4]
  · rw [Int32.le_iff_toInt_le] at c1 c2
    omega
theorem eq_nik {B : Nat} {T A : Nat → Nat → Int32} {I : Nat → Int32} (hP : eq_P T A I) (hR : eq_R B A I) (hB : B < 2 ^ 30) : ∀ k : Nat, k ≤ 6 → eq_P (dt_nik T k) (em_nik A (I 11) k) I ∧ eq_R B (em_nik A (I 11) k) I := by
  intro k
  induction k with
  | zero => intro _; exact ⟨hP, hR⟩
  | succ k ih =>
    intro hk
    obtain ⟨iP, iR⟩ := ih (by omega)
    obtain ⟨x, hx, ex⟩ := hR.2.2.1
    rw [em_nik, dt_nik]
    generalize dt_nik T k = U at *
    generalize em_nik A (I 11) k = C at *
    have i6 := eq_i6 (k := k) (by omega)
    have hb := iR.2.2.2.2.2.2.1 k (by omega)
    obtain ⟨f1, f2, f3⟩ := eq_fad (f := C 5 k) hx (by omega) (by omega)
    have e1 : em_ni1 C (I 11) k = va_up C 5 (upd (C 5) (nI k).toNatClampNeg (dt_fad (xb_at 6 (U 7) (nI k)) (xb_at 7 (T 0) 3))) := by
      unfold em_ni1
      rw [eq_r3 hP, eq_a7 iP i6, eq_c6 (by omega), ex, f1]
    have P1 : eq_P (dt_ni1 U (xb_at 7 (T 0) 3) k) (em_ni1 C (I 11) k) I := by
      rw [e1]
      unfold dt_ni1
      exact iP.row 5 (by decide) (eq_pt i6 (fun k hk => iP.2.2.2.1 5 k (by decide) hk))
    have R1 : eq_R B (em_ni1 C (I 11) k) I := by
      rw [e1]
      refine iR.fame (fun j hj => ?_) (fun j hj => ?_) (va_up_ne _ _ (by decide))
      · rw [va_up_ne _ _ (by decide)]; exact iR.2.2.2.2.2.1 j hj
      · rw [va_up_self, eq_c6 (by omega)]
        unfold upd
        by_cases c : j = k
        · rw [if_pos c, eq_r3 hP, eq_a7 iP i6, eq_c6 (by omega), ex]
          omega
        · rw [if_neg c]; exact iR.2.2.2.2.2.2.1 j hj
    have e2 : em_ni2 (em_ni1 C (I 11) k) k = va_up (em_ni1 C (I 11) k) 6 (upd (em_ni1 C (I 11) k 6) (nI k).toNatClampNeg (xw_mx 0 (xb_at 6 (dt_ni1 U (xb_at 7 (T 0) 3) k 8) (nI k) - 1))) := by
      unfold em_ni2
      rw [eq_mx, eq_a8 P1 i6, eq_c6 (by omega)]
    refine ⟨?_, ?_⟩
    · rw [e2]
      exact P1.row 6 (by decide) (eq_pt i6 (fun k hk => P1.2.2.2.1 6 k (by decide) hk))
    · rw [e2]
      exact R1.fame (fun j hj => by rw [va_up_ne _ _ (by decide)]; exact R1.2.2.2.2.2.1 j hj) (fun j hj => by rw [va_up_ne _ _ (by decide)]; exact R1.2.2.2.2.2.2.1 j hj) (va_up_ne _ _ (by decide))
