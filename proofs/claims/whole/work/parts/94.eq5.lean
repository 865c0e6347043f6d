/-! the text, as both read it -/
theorem eq_in {x : Int32} {a b : Nat} (ha : a < 2 ^ 31) (hb : b < 2 ^ 31) : xw_in x (nI a) (nI b) = true ↔ ∃ m : Nat, a ≤ m ∧ m ≤ b ∧ x = nI m := by
  constructor
  · intro h
    obtain ⟨e, h2, h3⟩ := xw_inN h ha hb
    exact ⟨_, h2, h3, e⟩
  · rintro ⟨m, h1, h2, rfl⟩
    unfold xw_in
    simp [nI_nlt h1 (by omega), nI_nlt h2 hb]
def eq_ps (g : Nat → Int32) : Nat → Nat
  | 0 => 0
  | k + 1 => if g (eq_ps g k) = 46 then eq_ps g k + 1 else eq_ps g k + 5
theorem eq_ps_mono (g : Nat → Int32) (k : Nat) : ∀ d : Nat, eq_ps g k ≤ eq_ps g (k + d) := by
  intro d
  induction d with
  | zero => exact Nat.le_refl _
  | succ d ih =>
    rw [show k + (d + 1) = (k + d) + 1 by omega, eq_ps]
    split <;> omega
def eq_EV (A : Nat → Nat → Int32) (k : Nat) : Prop :=
  (A 10 (eq_ps (A 10) k) = 46 ∧ A 11 k = 0) ∨
  (¬ A 10 (eq_ps (A 10) k) = 46 ∧ A 11 k = A 10 (eq_ps (A 10) k + 4) ∧ (A 11 k = 43 ∨ A 11 k = 45 ∨ A 11 k = 42) ∧ A 12 k = A 10 (eq_ps (A 10) k) - 65 ∧ A 13 k = A 10 (eq_ps (A 10) k + 1) - 65 ∧ vp_in (A 12 k) 6 ∧ vp_in (A 13 k) 6 ∧
    A 14 k = 10 * (A 10 (eq_ps (A 10) k + 2) - 48) + (A 10 (eq_ps (A 10) k + 3) - 48) ∧ eq_h (A 14 k))
theorem eq_EV.congr {A A' : Nat → Nat → Int32} {k : Nat} (h : eq_EV A k) (h10 : A' 10 = A 10) (h11 : A' 11 k = A 11 k) (h12 : A' 12 k = A 12 k) (h13 : A' 13 k = A 13 k) (h14 : A' 14 k = A 14 k) : eq_EV A' k := by
  unfold eq_EV
  rw [h10, h11, h12, h13, h14]
  exact h
def eq_PT (A : Nat → Nat → Int32) (e a : Nat) : Prop :=
  (1 ≤ a → ¬ A 10 (eq_ps (A 10) e) = 46 ∧ A 12 e = A 10 (eq_ps (A 10) e) - 65 ∧ vp_in (A 12 e) 6) ∧
  (2 ≤ a → A 13 e = A 10 (eq_ps (A 10) e + 1) - 65 ∧ vp_in (A 13 e) 6) ∧
  (a = 3 → A 14 e = 10 * (A 10 (eq_ps (A 10) e + 2) - 48) ∧ (A 10 (eq_ps (A 10) e + 2) = 48 ∨ A 10 (eq_ps (A 10) e + 2) = 49)) ∧
  (a = 4 → A 14 e = 10 * (A 10 (eq_ps (A 10) e + 2) - 48) + (A 10 (eq_ps (A 10) e + 3) - 48) ∧ eq_h (A 14 e))
theorem eq_let {c : Int32} (h : xw_in c 65 70 = true) : vp_in (c - 65) 6 ∧ ¬ c = 46 := by
  obtain ⟨m, h1, h2, rfl⟩ := (eq_in (a := 65) (b := 70) (by decide) (by decide)).mp h
  rw [show nI m - 65 = nI (m - 65) from pk_sub (b := 65) h1]
  exact ⟨vp_in_nI (by omega) (by decide), fun q => by have := (nI_eq (a := m) (b := 46) (by omega) (by decide)).mp q; omega⟩
theorem eq_49 {c : Int32} : xw_in c 48 49 = true ↔ (c = 48 ∨ c = 49) := by
  rw [show xw_in c 48 49 = xw_in c (nI 48) (nI 49) from rfl, eq_in (by decide) (by decide)]
  constructor
  · rintro ⟨m, h1, h2, rfl⟩
    rcases (show m = 48 ∨ m = 49 by omega) with rfl | rfl
    · exact .inl rfl
    · exact .inr rfl
  · rintro (rfl | rfl)
    · exact ⟨48, by omega, by omega, rfl⟩
    · exact ⟨49, by omega, by omega, rfl⟩
theorem eq_dig48 : ∀ m, m < 58 → 48 ≤ m → (xw_in (10 * ((48 : Int32) - 48) + (nI m - 48)) 1 15 = xw_in (nI m) 49 57) ∧ (xw_in (10 * ((49 : Int32) - 48) + (nI m - 48)) 1 15 = xw_in (nI m) 48 53) := by decide +kernel
theorem eq_dig {c be v : Int32} (hb : be = 48 ∨ be = 49) (hv : v = 10 * (be - 48)) : (if xw_in c 48 57 = true then xw_in (v + (c - 48)) 1 15 else false) = (if be = 48 then xw_in c 49 57 else xw_in c 48 53) := by
  subst hv
  by_cases h : xw_in c 48 57 = true
  · rw [if_pos h]
    obtain ⟨m, h1, h2, rfl⟩ := (eq_in (a := 48) (b := 57) (by decide) (by decide)).mp h
    obtain ⟨e1, e2⟩ := eq_dig48 m (by omega) h1
    rcases hb with rfl | rfl
    · rw [if_pos rfl]; exact e1
    · rw [if_neg (by decide)]; exact e2
  · rw [if_neg h]
    have no : ∀ a b : Nat, 48 ≤ a → b ≤ 57 → a < 2 ^ 31 → ¬ xw_in c (nI a) (nI b) = true := fun a b ha hb ha2 q => by
      obtain ⟨m, h1, h2, h3⟩ := (eq_in ha2 (by omega)).mp q
      exact h ((eq_in (a := 48) (b := 57) (by decide) (by decide)).mpr ⟨m, by omega, by omega, h3⟩)
    rcases hb with rfl | rfl
    · rw [if_pos rfl]; exact (Bool.eq_false_iff.mpr (no 49 57 (by omega) (by omega) (by omega))).symm
    · rw [if_neg (by decide)]; exact (Bool.eq_false_iff.mpr (no 48 53 (by omega) (by omega) (by omega))).symm
theorem eq_can0 {A : Nat → Nat → Int32} {e : Nat} {c be : Int32} : dp_can c 0 be = if em_dot 0 c = true then true else em_rdB A e 0 c := by
  unfold dp_can em_dot em_rdB dp_let
  by_cases h : c = 46 <;> simp [h]
theorem eq_can1 {A : Nat → Nat → Int32} {e : Nat} {c be : Int32} : dp_can c 1 be = if em_dot 1 c = true then true else em_rdB A e 1 c := by
  unfold dp_can em_dot em_rdB dp_let
  simp
theorem eq_can2 {A : Nat → Nat → Int32} {e : Nat} {c be : Int32} : dp_can c 2 be = if em_dot 2 c = true then true else em_rdB A e 2 c := by
  unfold dp_can em_dot em_rdB
  have h := eq_49 (c := c)
  simp only [show ¬ (2 : Int32) = 0 by decide, show ¬ (2 : Int32) = 1 by decide, show (2 : Int32) ≤ 2 by decide, if_true, if_false, Bool.false_eq_true]
  by_cases h1 : c = 48
  · subst h1; decide
  · by_cases h2 : c = 49
    · subst h2; decide
    · have h3 : xw_in c 48 49 = false := Bool.eq_false_iff.mpr (fun q => by rcases h.mp q with q | q; exact h1 q; exact h2 q)
      simp [h1, h2, h3]
theorem eq_can3 {A : Nat → Nat → Int32} {e : Nat} {c be : Int32} (hb : be = 48 ∨ be = 49) (hv : A 14 e = 10 * (be - 48)) : dp_can c 3 be = if em_dot 3 c = true then true else em_rdB A e 3 c := by
  unfold dp_can em_dot em_rdB
  have h := eq_dig (c := c) hb hv
  simp only [show ¬ (3 : Int32) = 0 by decide, show ¬ (3 : Int32) = 1 by decide, show ¬ (3 : Int32) = 2 by decide, show (2 : Int32) ≤ 3 by decide, if_true, if_false, Bool.false_eq_true]
  exact h.symm
theorem eq_can4 {A : Nat → Nat → Int32} {e : Nat} {c be : Int32} : dp_can c 4 be = if em_dot 4 c = true then true else em_rdB A e 4 c := by
  unfold dp_can em_dot em_rdB
  simp only [show ¬ (4 : Int32) = 0 by decide, show ¬ (4 : Int32) = 1 by decide, show ¬ (4 : Int32) = 2 by decide, show ¬ (4 : Int32) = 3 by decide, show (2 : Int32) ≤ 4 by decide, if_true, if_false, Bool.false_eq_true]
theorem eq_rdA_o {A : Nat → Nat → Int32} {e k : Nat} {a c : Int32} (hk : k ≠ e) (j : Nat) : em_rdA A e a c j k = A j k := by
  have hu : ∀ (f : Nat → Int32) (v : Int32), upd f e v k = f k := fun f v => by unfold upd; rw [if_neg hk]
  have hv : ∀ (B : Nat → Nat → Int32) (i : Nat) (v : Int32), va_up B i (upd (B i) e v) j k = B j k := fun B i v => by
    by_cases h : j = i
    · subst h; rw [va_up_self, hu]
    · rw [va_up_ne _ _ h]
  unfold em_rdA
  split
  · split
    · exact hv _ _ _
    · split
      · exact hv _ _ _
      · exact hv _ _ _
  · by_cases h : j = 13
    · subst h; rw [va_up_self, hu]
    · rw [va_up_ne _ _ h]; exact hv _ _ _
theorem eq_rdA_r {A : Nat → Nat → Int32} {e : Nat} {a c : Int32} {j : Nat} (hj : j < 11 ∨ 14 < j) : em_rdA A e a c j = A j := by
  unfold em_rdA
  split
  · split
    · exact va_up_ne _ _ (by omega)
    · split
      · exact va_up_ne _ _ (by omega)
      · exact va_up_ne _ _ (by omega)
  · rw [va_up_ne _ _ (by omega), va_up_ne _ _ (by omega)]
theorem eq_nat {a : Nat} (h : a ≤ 4) : em_nat (nI a) = nI (if a = 4 then 0 else a + 1) := by
  unfold em_nat
  rcases (show a = 0 ∨ a = 1 ∨ a = 2 ∨ a = 3 ∨ a = 4 by omega) with rfl | rfl | rfl | rfl | rfl <;> rfl
/-- one letter more -/
theorem eq_PTS {A : Nat → Nat → Int32} {e a : Nat} (hPT : eq_PT A e a) (ha : a ≤ 4) {c : Int32} (hc : c = A 10 (eq_ps (A 10) e + a)) (hd : ¬ em_dot (nI a) c = true) (hr : em_rdB A e (nI a) c = true) :
    ¬ c = 46 ∧ (a < 4 → eq_PT (em_rdA A e (nI a) c) e (a + 1)) ∧ (a = 4 → eq_EV (em_rdA A e (nI a) c) e ∧ ¬ A 10 (eq_ps (A 10) e) = 46) := by
  obtain ⟨p1, p2, p3, p4⟩ := hPT
  have r10 : em_rdA A e (nI a) c 10 = A 10 := eq_rdA_r (.inl (by decide))
  rcases (show a = 0 ∨ a = 1 ∨ a = 2 ∨ a = 3 ∨ a = 4 by omega) with rfl | rfl | rfl | rfl | rfl
  · have hl : xw_in c 65 70 = true := by have := hr; unfold em_rdB at this; rwa [if_neg (show ¬ (2 : Int32) ≤ nI 0 by decide)] at this
    obtain ⟨l1, l2⟩ := eq_let hl
    refine ⟨l2, fun _ => ?_, fun q => absurd q (by decide)⟩
    unfold eq_PT
    rw [r10]
    have e12 : em_rdA A e (nI 0) c 12 e = c - 65 := by
      show (va_up (va_up A 12 (upd (A 12) e (c - 65))) 13 (upd (A 13) e (c - 65))) 12 e = c - 65
      rw [va_up_ne _ _ (by decide), va_up_self]; exact if_pos rfl
    rw [e12]
    rw [Nat.add_zero] at hc
    exact ⟨fun _ => ⟨by rw [← hc]; exact l2, by rw [hc], l1⟩, fun q => absurd q (by decide), fun q => absurd q (by decide), fun q => absurd q (by decide)⟩
  · have hl : xw_in c 65 70 = true := by have := hr; unfold em_rdB at this; rwa [if_neg (show ¬ (2 : Int32) ≤ nI 1 by decide)] at this
    obtain ⟨l1, l2⟩ := eq_let hl
    obtain ⟨q1, q2, q3⟩ := p1 (Nat.le_refl 1)
    refine ⟨l2, fun _ => ?_, fun q => absurd q (by decide)⟩
    unfold eq_PT
    rw [r10]
    have e12 : em_rdA A e (nI 1) c 12 e = A 12 e := by
      show (va_up (va_up A 12 (upd (A 12) e (A 12 e))) 13 (upd (A 13) e (c - 65))) 12 e = A 12 e
      rw [va_up_ne _ _ (by decide), va_up_self]; exact if_pos rfl
    have e13 : em_rdA A e (nI 1) c 13 e = c - 65 := by
      show (va_up (va_up A 12 (upd (A 12) e (A 12 e))) 13 (upd (A 13) e (c - 65))) 13 e = c - 65
      rw [va_up_self]; exact if_pos rfl
    rw [e12, e13]
    exact ⟨fun _ => ⟨q1, q2, q3⟩, fun _ => ⟨by rw [hc], l1⟩, fun q => absurd q (by decide), fun q => absurd q (by decide)⟩
  · have hl : xw_in c 48 49 = true := by have := hr; unfold em_rdB at this; rwa [if_pos (show (2 : Int32) ≤ nI 2 by decide), if_pos (show nI 2 = 2 by decide)] at this
    have h2 := eq_49.mp hl
    obtain ⟨q1, q2, q3⟩ := p1 (by decide)
    obtain ⟨s1, s2⟩ := p2 (by decide)
    refine ⟨fun q => by rcases h2 with z | z <;> (rw [z] at q; exact absurd q (by decide)), fun _ => ?_, fun q => absurd q (by decide)⟩
    unfold eq_PT
    rw [r10]
    have e12 : em_rdA A e (nI 2) c 12 e = A 12 e := by
      rw [show em_rdA A e (nI 2) c = va_up A 14 (upd (A 14) e (10 * (c - 48))) from rfl, va_up_ne _ _ (by decide)]
    have e13 : em_rdA A e (nI 2) c 13 e = A 13 e := by
      rw [show em_rdA A e (nI 2) c = va_up A 14 (upd (A 14) e (10 * (c - 48))) from rfl, va_up_ne _ _ (by decide)]
    have e14 : em_rdA A e (nI 2) c 14 e = 10 * (c - 48) := by
      show (va_up A 14 (upd (A 14) e (10 * (c - 48)))) 14 e = 10 * (c - 48)
      rw [va_up_self]; exact if_pos rfl
    rw [e12, e13, e14]
    exact ⟨fun _ => ⟨q1, q2, q3⟩, fun _ => ⟨s1, s2⟩, fun _ => ⟨by rw [hc], by rw [← hc]; exact h2⟩, fun q => absurd q (by decide)⟩
  · obtain ⟨q1, q2, q3⟩ := p1 (by decide)
    obtain ⟨s1, s2⟩ := p2 (by decide)
    obtain ⟨t1, t2⟩ := p3 rfl
    have hl : (if xw_in c 48 57 = true then xw_in (A 14 e + (c - 48)) 1 15 else false) = true := hr
    have hx : xw_in c 48 57 = true := by
      by_cases h : xw_in c 48 57 = true
      · exact h
      · rw [if_neg h] at hl; exact absurd hl (by decide)
    rw [if_pos hx] at hl
    obtain ⟨m, h1, h2, h3⟩ := (eq_in (a := 1) (b := 15) (by decide) (by decide)).mp hl
    obtain ⟨m2, g1, g2, g3⟩ := (eq_in (a := 48) (b := 57) (by decide) (by decide)).mp hx
    refine ⟨fun q => by rw [g3] at q; have := (nI_eq (a := m2) (b := 46) (by omega) (by decide)).mp q; omega, fun _ => ?_, fun q => absurd q (by decide)⟩
    unfold eq_PT
    rw [r10]
    have e12 : em_rdA A e (nI 3) c 12 e = A 12 e := by
      rw [show em_rdA A e (nI 3) c = va_up A 14 (upd (A 14) e (A 14 e + (c - 48))) from rfl, va_up_ne _ _ (by decide)]
    have e13 : em_rdA A e (nI 3) c 13 e = A 13 e := by
      rw [show em_rdA A e (nI 3) c = va_up A 14 (upd (A 14) e (A 14 e + (c - 48))) from rfl, va_up_ne _ _ (by decide)]
    have e14 : em_rdA A e (nI 3) c 14 e = A 14 e + (c - 48) := by
      show (va_up A 14 (upd (A 14) e (A 14 e + (c - 48)))) 14 e = A 14 e + (c - 48)
      rw [va_up_self]; exact if_pos rfl
    rw [e12, e13, e14]
    exact ⟨fun _ => ⟨q1, q2, q3⟩, fun _ => ⟨s1, s2⟩, fun q => absurd q (by decide), fun _ => ⟨by rw [t1, hc], ⟨m, h2, h3⟩⟩⟩
  · obtain ⟨q1, q2, q3⟩ := p1 (by decide)
    obtain ⟨s1, s2⟩ := p2 (by decide)
    obtain ⟨t1, t2⟩ := p4 rfl
    have hl : (if c = 43 then true else if c = 45 then true else decide (c = 42)) = true := hr
    have h3 : c = 43 ∨ c = 45 ∨ c = 42 := by
      by_cases h : c = 43
      · exact .inl h
      · by_cases h' : c = 45
        · exact .inr (.inl h')
        · rw [if_neg h, if_neg h'] at hl; exact .inr (.inr (of_decide_eq_true hl))
    refine ⟨fun q => by rcases h3 with z | z | z <;> (rw [z] at q; exact absurd q (by decide)), fun q => absurd q (by decide), fun _ => ⟨?_, q1⟩⟩
    unfold eq_EV
    rw [r10]
    have e11 : em_rdA A e (nI 4) c 11 e = c := by
      show (va_up A 11 (upd (A 11) e c)) 11 e = c
      rw [va_up_self]; exact if_pos rfl
    have e12 : em_rdA A e (nI 4) c 12 e = A 12 e := by
      rw [show em_rdA A e (nI 4) c = va_up A 11 (upd (A 11) e (c)) from rfl, va_up_ne _ _ (by decide)]
    have e13 : em_rdA A e (nI 4) c 13 e = A 13 e := by
      rw [show em_rdA A e (nI 4) c = va_up A 11 (upd (A 11) e (c)) from rfl, va_up_ne _ _ (by decide)]
    have e14 : em_rdA A e (nI 4) c 14 e = A 14 e := by
      rw [show em_rdA A e (nI 4) c = va_up A 11 (upd (A 11) e (c)) from rfl, va_up_ne _ _ (by decide)]
    rw [e11, e12, e13, e14]
    exact .inr ⟨q1, hc, h3, q2, s1, q3, s2, t1, t2⟩
theorem eq_can {A : Nat → Nat → Int32} {e a : Nat} (hPT : eq_PT A e a) (ha : a ≤ 4) {c be : Int32} (hbe : a = 3 → be = A 10 (eq_ps (A 10) e + 2)) : dp_can c (nI a) be = if em_dot (nI a) c = true then true else em_rdB A e (nI a) c := by
  rcases (show a = 0 ∨ a = 1 ∨ a = 2 ∨ a = 3 ∨ a = 4 by omega) with rfl | rfl | rfl | rfl | rfl
  · exact eq_can0
  · exact eq_can1
  · exact eq_can2
  · obtain ⟨t1, t2⟩ := hPT.2.2.1 rfl
    exact eq_can3 (by rw [hbe rfl]; exact t2) (by rw [hbe rfl]; exact t1)
  · exact eq_can4
theorem eq_fl {g : Nat → Int32} {n : Nat} (hn : n ≤ 60) : ∀ (m i e a : Nat) (A : Nat → Nat → Int32) (I : Nat → Int32), i + m = n → e ≤ i → i = eq_ps (A 10) e + a → a ≤ 4 → I 25 = nI e → I 20 = nI n → (∀ k, k < 60 → g k = A 10 k) → (∀ k, k < e → eq_EV A k) → eq_PT A e a →
    (em_fl m i A I (nI a)).1 = dp_flt g n m i (nI a) ∧ ((em_fl m i A I (nI a)).1 = -6 ∨ 0 ≤ (em_fl m i A I (nI a)).1) ∧
    ((em_fl m i A I (nI a)).1 = -6 → ∃ e2 : Nat, e2 ≤ n ∧ (em_fl m i A I (nI a)).2.2 25 = nI e2 ∧ eq_ps (A 10) e2 = n ∧ ∀ k, k < e2 → eq_EV (em_fl m i A I (nI a)).2.1 k) ∧
    (∀ j, j < 11 ∨ 14 < j → (em_fl m i A I (nI a)).2.1 j = A j) ∧ (∀ s, s ≠ 25 → (em_fl m i A I (nI a)).2.2 s = I s) := by
  intro m
  induction m with
  | zero =>
    intro i e a A I hi he hia ha h25 h20 hg hE hPT
    rw [em_fl, dp_flt]
    rw [h20]
    by_cases h0 : a = 0
    · subst h0
      rw [if_pos (show nI 0 ≤ 0 by decide), if_pos (show nI 0 = 0 from rfl)]
      exact ⟨rfl, .inl rfl, fun _ => ⟨e, by omega, h25, by omega, hE⟩, fun _ _ => rfl, fun _ _ => rfl⟩
    · have h1 : ¬ nI a ≤ 0 := nI_nle (by omega) (by omega)
      have h2 : ¬ nI a = 0 := nI_ne0 (by omega) (by omega)
      rw [if_neg h1, if_neg h2]
      refine ⟨rfl, .inr (nI_pos' (by omega)), fun q => ?_, fun _ _ => rfl, fun _ _ => rfl⟩
      exact absurd (show nI n < 0 by rw [show nI n = -6 from q]; decide) (nI_pos (by omega))
  | succ m ih =>
    intro i e a A I hi he hia ha h25 h20 hg hE hPT
    have hi60 : i < 60 := by omega
    have hgi : xb_at 60 g (nI i) = A 10 i := by rw [xb_at_n hi60 (by decide), hg i hi60]
    have hec : (I 25).toNatClampNeg = e := by rw [h25, nI_clamp (by omega)]
    have hbe : a = 3 → xb_at 60 g (nI i - 1) = A 10 (eq_ps (A 10) e + 2) := fun q => by
      rw [xb_dec1 (by omega), xb_at_n (by omega) (by decide), hg _ (by omega), show i - 1 = eq_ps (A 10) e + 2 by omega]
    have hcan := eq_can hPT ha (c := A 10 i) (be := xb_at 60 g (nI i - 1)) hbe
    rw [em_fl, dp_flt, hgi, hec, hcan]
    by_cases hd : em_dot (nI a) (A 10 i) = true
    · have ha0 : a = 0 := by
        rcases Nat.eq_zero_or_pos a with q | q
        · exact q
        · unfold em_dot at hd; rw [if_neg (nI_ne0 q (by omega))] at hd; exact absurd hd (by decide)
      subst ha0
      have hc46 : A 10 i = 46 := by unfold em_dot at hd; rw [if_pos (show nI 0 = 0 from rfl)] at hd; exact of_decide_eq_true hd
      rw [if_pos hd, if_pos hd, if_pos rfl]
      have hnx : dp_nx (A 10 i) (nI 0) = nI 0 := by unfold dp_nx; rw [if_pos hc46]; rfl
      rw [hnx]
      have h10 : va_up A 11 (upd (A 11) e 0) 10 = A 10 := va_up_ne _ _ (by decide)
      have hps : eq_ps (A 10) (e + 1) = eq_ps (A 10) e + 1 := by rw [eq_ps, if_pos (by rw [show eq_ps (A 10) e = i by omega]; exact hc46)]
      obtain ⟨r1, r2, r3, r4, r5⟩ := ih (i + 1) (e + 1) 0 (va_up A 11 (upd (A 11) e 0)) (va_up I 25 (I 25 + 1)) (by omega) (by omega) (by rw [h10, hps]; omega) (by decide) (by rw [va_up_self, h25]; exact nI_1 e) (by rw [va_up_ne _ _ (by decide)]; exact h20) (by rw [h10]; exact hg)
        (fun k hk => by
          rcases Nat.lt_or_ge k e with q | q
          · exact (hE k q).congr h10 (by rw [va_up_self]; unfold upd; rw [if_neg (by omega)]) (by rw [va_up_ne _ _ (by decide)]) (by rw [va_up_ne _ _ (by decide)]) (by rw [va_up_ne _ _ (by decide)])
          · have ek : k = e := by omega
            subst ek
            refine .inl ⟨?_, ?_⟩
            · rw [h10, show eq_ps (A 10) k = i by omega]; exact hc46
            · rw [va_up_self]; exact if_pos rfl)
        ⟨fun q => absurd q (by decide), fun q => absurd q (by decide), fun q => absurd q (by decide), fun q => absurd q (by decide)⟩
      rw [h10] at r3
      exact ⟨r1, r2, r3, fun j hj => by rw [r4 j hj]; exact va_up_ne _ _ (by omega), fun s hs => by rw [r5 s hs]; exact va_up_ne _ _ hs⟩
    · rw [if_neg hd, if_neg hd]
      by_cases hr : em_rdB A e (nI a) (A 10 i) = true
      · rw [if_pos hr, if_pos hr]
        obtain ⟨n46, nx, ev⟩ := eq_PTS hPT ha (c := A 10 i) (by rw [hia]) hd hr
        have hnx : dp_nx (A 10 i) (nI a) = nI (if a = 4 then 0 else a + 1) := by
          unfold dp_nx
          rw [if_neg n46]
          exact (eq_nat ha)
        rw [hnx, eq_nat ha]
        have h10 : em_rdA A e (nI a) (A 10 i) 10 = A 10 := eq_rdA_r (.inl (by decide))
        have h25' : em_evi I (nI a) 25 = nI (if a = 4 then e + 1 else e) := by
          rw [em_evi_e h25, eq_nat ha]
          by_cases q : a = 4
          · rw [if_pos q, if_pos q, if_pos (show nI 0 = 0 from rfl)]
          · rw [if_neg q, if_neg q, if_neg (nI_ne0 (by omega) (by omega))]
        have hI : ∀ s, s ≠ 25 → em_evi I (nI a) s = I s := fun s hs => va_up_ne _ _ hs
        by_cases q : a = 4
        · obtain ⟨ev1, ev2⟩ := ev q
          rw [if_pos q] at h25' ⊢
          have hps : eq_ps (A 10) (e + 1) = eq_ps (A 10) e + 5 := by rw [eq_ps, if_neg ev2]
          obtain ⟨r1, r2, r3, r4, r5⟩ := ih (i + 1) (e + 1) 0 (em_rdA A e (nI a) (A 10 i)) (em_evi I (nI a)) (by omega) (by omega) (by rw [h10, hps]; omega) (by decide) h25' (by rw [hI 20 (by decide)]; exact h20) (by rw [h10]; exact hg)
            (fun k hk => by
              rcases Nat.lt_or_ge k e with z | z
              · exact (hE k z).congr h10 (eq_rdA_o (by omega) 11) (eq_rdA_o (by omega) 12) (eq_rdA_o (by omega) 13) (eq_rdA_o (by omega) 14)
              · rw [show k = e by omega]; exact ev1)
            ⟨fun z => absurd z (by decide), fun z => absurd z (by decide), fun z => absurd z (by decide), fun z => absurd z (by decide)⟩
          rw [h10] at r3
          exact ⟨r1, r2, r3, fun j hj => by rw [r4 j hj]; exact eq_rdA_r hj, fun s hs => by rw [r5 s hs]; exact hI s hs⟩
        · rw [if_neg q] at h25' ⊢
          obtain ⟨r1, r2, r3, r4, r5⟩ := ih (i + 1) e (a + 1) (em_rdA A e (nI a) (A 10 i)) (em_evi I (nI a)) (by omega) (by omega) (by rw [h10]; omega) (by omega) h25' (by rw [hI 20 (by decide)]; exact h20) (by rw [h10]; exact hg)
            (fun k hk => (hE k hk).congr h10 (eq_rdA_o (by omega) 11) (eq_rdA_o (by omega) 12) (eq_rdA_o (by omega) 13) (eq_rdA_o (by omega) 14))
            (nx (by omega))
          rw [h10] at r3
          exact ⟨r1, r2, r3, fun j hj => by rw [r4 j hj]; exact eq_rdA_r hj, fun s hs => by rw [r5 s hs]; exact hI s hs⟩
      · rw [if_neg hr, if_neg hr]
        refine ⟨rfl, .inr (nI_pos' (by omega)), fun q => ?_, fun j hj => eq_rdA_r hj, fun _ _ => rfl⟩
        exact absurd (show nI i < 0 by rw [show nI i = -6 from q]; decide) (nI_pos (by omega))
/-- the text is read alike -/
theorem eq_flt {g : Nat → Int32} {n : Nat} {A : Nat → Nat → Int32} {I : Nat → Int32} (hn : n ≤ 60) (h20 : I 20 = nI n) (hg : ∀ k, k < 60 → g k = A 10 k) :
    (em_flt A I n).1 = dp_flt g n n 0 0 ∧ ((em_flt A I n).1 = -6 ∨ 0 ≤ (em_flt A I n).1) ∧
    ((em_flt A I n).1 = -6 → ∃ e2 : Nat, e2 ≤ n ∧ (em_flt A I n).2.2 25 = nI e2 ∧ eq_ps (A 10) e2 = n ∧ ∀ k, k < e2 → eq_EV (em_flt A I n).2.1 k) ∧
    (∀ j, j < 11 ∨ 14 < j → (em_flt A I n).2.1 j = A j) ∧ (∀ s, s ≠ 25 → (em_flt A I n).2.2 s = I s) := by
  obtain ⟨r1, r2, r3, r4, r5⟩ := eq_fl hn (g := g) n 0 0 0 A (va_up I 25 0) (by omega) (Nat.le_refl 0) rfl (by decide) (by rw [va_up_self]; rfl) (by rw [va_up_ne _ _ (by decide)]; exact h20) hg (fun k hk => absurd hk (by omega)) ⟨fun q => absurd q (by decide), fun q => absurd q (by decide), fun q => absurd q (by decide), fun q => absurd q (by decide)⟩
  exact ⟨r1, r2, r3, r4, fun s hs => by rw [show (em_flt A I n).2.2 s = va_up I 25 0 s from r5 s hs]; exact va_up_ne _ _ hs⟩
