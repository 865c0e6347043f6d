/-! a summer, as both go through it -/
theorem eq_nik_ne {A : Nat → Nat → Int32} {f : Int32} {j : Nat} (h5 : j ≠ 5) (h6 : j ≠ 6) : ∀ k : Nat, em_nik A f k j = A j := by
  intro k
  induction k with
  | zero => rfl
  | succ k ih =>
    rw [em_nik]
    unfold em_ni2 em_ni1
    rw [va_up_ne _ _ h6, va_up_ne _ _ h5, ih]
theorem eq_hpA_ne {A : Nat → Nat → Int32} {I : Nat → Int32} {k j : Nat} (h4 : j ≠ 4) (h5 : j ≠ 5) (h6 : j ≠ 6) : em_hpA A I k j = A j := by
  unfold em_hpA em_hp2
  split
  · exact em_doT_ne h4 h5 h6
  · split
    · exact va_up_ne _ _ h5
    · split
      · rw [em_doT_ne h4 h5 h6, em_doT_ne h4 h5 h6]
      · exact em_doT_ne h4 h5 h6
theorem eq_gs_keep : ∀ (m k : Nat) (A : Nat → Nat → Int32) (I : Nat → Int32), (∀ j, j ≠ 4 → j ≠ 5 → j ≠ 6 → (em_gs m k A I).1 j = A j) ∧ (∀ s, s ≠ 14 → s ≠ 26 → s ≠ 27 → s ≠ 28 → s ≠ 29 → s ≠ 30 → (em_gs m k A I).2 s = I s) := by
  intro m
  induction m with
  | zero => intros; exact ⟨fun _ _ _ _ => rfl, fun _ _ _ _ _ _ _ => rfl⟩
  | succ m ih =>
    intro k A I
    rw [em_gs]
    split
    · exact ⟨fun _ _ _ _ => rfl, fun _ _ _ _ _ _ _ => rfl⟩
    · split
      · exact ⟨fun _ _ _ _ => rfl, fun _ _ _ _ _ _ _ => rfl⟩
      · split
        · obtain ⟨i1, i2⟩ := ih (k + 1) (em_nik A (I 11) 6) I
          exact ⟨fun j h4 h5 h6 => by rw [i1 j h4 h5 h6, eq_nik_ne h5 h6], i2⟩
        · split
          · obtain ⟨i1, i2⟩ := ih (k + 1) (em_hpA A I k) (em_hpI A I k)
            exact ⟨fun j h4 h5 h6 => by rw [i1 j h4 h5 h6, eq_hpA_ne h4 h5 h6], fun s h1 h2 h3 h4 h5 h6 => by rw [i2 s h1 h2 h3 h4 h5 h6, em_hpI_ne h1 h4 h5 h6]⟩
          · obtain ⟨i1, i2⟩ := ih (k + 1) A (va_up (va_up I 26 (nI k)) 27 (em_why A I (A 12 k) (A 13 k) (A 14 k)))
            exact ⟨i1, fun s h1 h2 h3 h4 h5 h6 => by rw [i2 s h1 h2 h3 h4 h5 h6, va_up_ne _ _ h3, va_up_ne _ _ h2]⟩
def eq_L (A0 : Nat → Nat → Int32) (I0 : Nat → Int32) (k : Nat) (L : ds_L) : Prop := ∃ c : Nat, c ≤ 2 * k ∧ L.1 = nI c ∧ (c ≤ 15 → em_uhk A0 I0 k = (nI c, L.2.1) ∧ L.2.2 = lN (10 ^ c)) ∧ (15 < c → 15 < (em_uhk A0 I0 k).1)
theorem eq_uh_0 {A0 : Nat → Nat → Int32} {I0 : Nat → Int32} {k : Nat} (h2 : ¬ A0 11 k = 42) (h3 : ¬ A0 11 k = 43) : em_uhk A0 I0 (k + 1) = em_uhk A0 I0 k := by
  rw [em_uhk]
  unfold em_uh3 em_uh1 em_uh2
  rw [if_neg h2, if_neg h2, if_neg h3, if_neg h2, if_neg h3]
  by_cases h : 15 < (em_uhk A0 I0 k).1
  · rw [if_pos h]
  · rw [if_neg h, Int32.add_zero, Int64.mul_one, Int64.mul_one]
theorem eq_L0 {A0 : Nat → Nat → Int32} {I0 : Nat → Int32} {k : Nat} {L : ds_L} (h : eq_L A0 I0 k L) (h2 : ¬ A0 11 k = 42) (h3 : ¬ A0 11 k = 43) : eq_L A0 I0 (k + 1) L := by
  obtain ⟨c, c1, c2, c3, c4⟩ := h
  refine ⟨c, by omega, c2, ?_, ?_⟩
  · rw [eq_uh_0 h2 h3]; exact c3
  · rw [eq_uh_0 h2 h3]; exact c4
theorem eq_15 {c : Nat} (h : c < 2 ^ 31) : (15 : Int32) < nI c ↔ 15 < c := nI_ltI (a := 15) (b := c) (by decide) h
theorem eq_L43 {A0 : Nat → Nat → Int32} {I0 : Nat → Int32} {k : Nat} {L : ds_L} {T : Nat → Nat → Int32} {b y : Int32} (h : eq_L A0 I0 k L) (hk : k ≤ 60) (h3 : A0 11 k = 43) (ho : dt_odd T b y = em_odd A0 I0 (A0 13 k) (A0 14 k)) : eq_L A0 I0 (k + 1) (ds_rek T b y L) := by
  obtain ⟨c, c1, c2, c3, c4⟩ := h
  have h2 : ¬ A0 11 k = 42 := by rw [h3]; decide
  have e1 : L.1 + 1 = nI (c + 1) := by rw [c2]; exact nI_1 c
  unfold ds_rek
  refine ⟨c + 1, by omega, e1, ?_, ?_⟩
  · intro hc
    obtain ⟨d1, d2⟩ := c3 (by omega)
    have n15 : ¬ 15 < L.1 + 1 := by rw [e1, eq_15 (by omega)]; omega
    have m15 : ¬ (15 : Int32) < nI c := by rw [eq_15 (by omega)]; omega
    rw [if_neg n15, if_neg n15, em_uhk, d1]
    dsimp only
    rw [if_neg m15]
    unfold em_uh3 em_uh1 em_uh2
    rw [if_neg h2, if_pos h3, if_neg h2, if_neg h2, if_pos h3, Int64.mul_one, ho, d2]
    exact ⟨by rw [show nI c + 1 = nI (c + 1) from nI_1 c], by rw [Nat.pow_succ]; exact lN_mul (10 ^ c) 10⟩
  · intro hc
    rw [em_uhk]
    rcases Nat.lt_or_ge 15 c with q | q
    · have := c4 q
      rw [if_pos this]; exact this
    · obtain ⟨d1, d2⟩ := c3 q
      rw [d1]
      dsimp only
      have m15 : ¬ (15 : Int32) < nI c := by rw [eq_15 (by omega)]; omega
      rw [if_neg m15]
      unfold em_uh3
      rw [if_neg h2, if_pos h3]
      show (15 : Int32) < nI c + 1
      rw [show nI c + 1 = nI (c + 1) from nI_1 c, eq_15 (by omega)]; exact hc
theorem eq_L42 {A0 : Nat → Nat → Int32} {I0 : Nat → Int32} {k : Nat} {L : ds_L} {T : Nat → Nat → Int32} {a b y : Int32} (h : eq_L A0 I0 k L) (hk : k ≤ 60) (h2 : A0 11 k = 42) (hoa : dt_odd T a y = em_odd A0 I0 (A0 12 k) (A0 14 k)) (hob : dt_odd T b y = em_odd A0 I0 (A0 13 k) (A0 14 k)) : eq_L A0 I0 (k + 1) (ds_rek T b y (ds_rek T a y L)) := by
  obtain ⟨c, c1, c2, c3, c4⟩ := h
  have e1 : L.1 + 1 = nI (c + 1) := by rw [c2]; exact nI_1 c
  have e2 : L.1 + 1 + 1 = nI (c + 2) := by rw [e1]; exact nI_1 (c + 1)
  unfold ds_rek
  refine ⟨c + 2, by omega, e2, ?_, ?_⟩
  · intro hc
    obtain ⟨d1, d2⟩ := c3 (by omega)
    have n15 : ¬ 15 < L.1 + 1 := by rw [e1, eq_15 (by omega)]; omega
    have n16 : ¬ 15 < L.1 + 1 + 1 := by rw [e2, eq_15 (by omega)]; omega
    have m15 : ¬ (15 : Int32) < nI c := by rw [eq_15 (by omega)]; omega
    dsimp only
    rw [if_neg n15, if_neg n15, if_neg n16, if_neg n16, em_uhk, d1]
    dsimp only
    rw [if_neg m15]
    unfold em_uh3 em_uh1 em_uh2
    rw [if_pos h2, if_pos h2, if_pos h2, hoa, hob, d2]
    refine ⟨by rw [show nI c + 2 = nI (c + 2) from nI_add c 2], ?_⟩
    rw [show lN (10 ^ c) * 10 = lN (10 ^ c * 10) from lN_mul (10 ^ c) 10, show lN (10 ^ c * 10) * 10 = lN (10 ^ c * 10 * 10) from lN_mul (10 ^ c * 10) 10, show c + 2 = (c + 1) + 1 from rfl, Nat.pow_succ, Nat.pow_succ]
  · intro hc
    rw [em_uhk]
    rcases Nat.lt_or_ge 15 c with q | q
    · have := c4 q
      rw [if_pos this]; exact this
    · obtain ⟨d1, d2⟩ := c3 q
      rw [d1]
      dsimp only
      have m15 : ¬ (15 : Int32) < nI c := by rw [eq_15 (by omega)]; omega
      rw [if_neg m15]
      unfold em_uh3
      rw [if_pos h2]
      show (15 : Int32) < nI c + 2
      rw [show nI c + 2 = nI (c + 2) from nI_add c 2, eq_15 (by omega)]; exact hc
def eq_S (B k : Nat) (A0 : Nat → Nat → Int32) (I0 : Nat → Int32) (A : Nat → Nat → Int32) (I : Nat → Int32) (d : ds_D) : Prop :=
  eq_P d.1 A I ∧ eq_R B A I ∧ (∀ j, j ≠ 4 → j ≠ 5 → j ≠ 6 → A j = A0 j) ∧ (∀ s, s ≠ 14 → s ≠ 26 → s ≠ 27 → s ≠ 28 → s ≠ 29 → s ≠ 30 → I s = I0 s) ∧
  d.2.2.2 = (I 28, I 29, I 30) ∧ I 26 = -6 ∧ I 27 = -6 ∧ (∀ a b, a < 6 → b < 6 → d.2.1 (6 * a + b) = em_dao A0 (nI a) (nI b) k) ∧ eq_L A0 I0 k d.2.2.1
theorem eq_S_mono {B C k : Nat} {A0 : Nat → Nat → Int32} {I0 : Nat → Int32} {A : Nat → Nat → Int32} {I : Nat → Int32} {d : ds_D} (h : eq_S B k A0 I0 A I d) (hC : B ≤ C) : eq_S C k A0 I0 A I d := ⟨h.1, h.2.1.mono hC, h.2.2⟩
theorem eq_S_night {B k : Nat} {A0 : Nat → Nat → Int32} {I0 : Nat → Int32} {A : Nat → Nat → Int32} {I : Nat → Int32} {d : ds_D} (h : eq_S B k A0 I0 A I d) (hB : B < 2 ^ 30) (h0 : A0 11 k = 0) : eq_S B (k + 1) A0 I0 (em_nik A (I 11) 6) I (dt_nit d.1, d.2) := by
  obtain ⟨s1, s2, s3, s4, s5, s6, s7, s8, s9⟩ := h
  obtain ⟨n1, n2⟩ := eq_nik s1 s2 hB 6 (Nat.le_refl 6)
  refine ⟨n1, n2, fun j h4 h5 h6 => by rw [eq_nik_ne h5 h6]; exact s3 j h4 h5 h6, s4, s5, s6, s7, fun a b ha hb => ?_, eq_L0 s9 (by rw [h0]; decide) (by rw [h0]; decide)⟩
  rw [em_dao, if_pos (by rw [h0]; decide), Int32.add_zero]
  exact s8 a b ha hb
theorem eq_tie {f : Nat → Int32} {an bn : Nat} (ha : an < 6) (hb : bn < 6) : ds_tie f (nI an) (nI bn) = upd f (6 * an + bn) (f (6 * an + bn) + 1) := by
  unfold ds_tie
  have e : nI an * 6 + nI bn = nI (6 * an + bn) := by
    rw [show nI an * 6 = nI (an * 6) from pk_mul an 6, nI_add, Nat.mul_comm]
  rw [e, xb_at_n (by omega) (by decide), xb_pt_n (by omega) (by decide)]
theorem eq_vN {p : Int32} (h : vp_in p 6) : ∃ j : Nat, j < 6 ∧ p = nI j := em_in6N (eq_vin.mpr h)
theorem eq_S_dare {B k : Nat} {A0 : Nat → Nat → Int32} {I0 : Nat → Int32} {A : Nat → Nat → Int32} {I : Nat → Int32} {d : ds_D} (h : eq_S B k A0 I0 A I d) (hB : B + 30 < 2 ^ 30) (hk : k ≤ 60)
    (hs : A0 11 k = 43 ∨ A0 11 k = 45 ∨ A0 11 k = 42) (ha : vp_in (A0 12 k) 6) (hb : vp_in (A0 13 k) 6) (hh : eq_h (A0 14 k)) :
    eq_S (B + 30) (k + 1) A0 I0 (em_hpA A I k) (em_hpI A I k) (ds_t2 d.1 (A0 12 k) (A0 13 k) (A0 14 k) (A0 11 k), ds_tie d.2.1 (A0 12 k) (A0 13 k), ds_l2 d.1 (A0 12 k) (A0 13 k) (A0 14 k) (A0 11 k) d.2.2.1, ds_c2 (A0 11 k) d.2.2.2) := by
  obtain ⟨s1, s2, s3, s4, s5, s6, s7, s8, s9⟩ := h
  have r11 : A 11 = A0 11 := s3 11 (by decide) (by decide) (by decide)
  have r12 : A 12 = A0 12 := s3 12 (by decide) (by decide) (by decide)
  have r13 : A 13 = A0 13 := s3 13 (by decide) (by decide) (by decide)
  have r14 : A 14 = A0 14 := s3 14 (by decide) (by decide) (by decide)
  have ho : ∀ p, em_odd A I p (A0 14 k) = em_odd A0 I0 p (A0 14 k) := fun p => by unfold em_odd; rw [s3 0 (by decide) (by decide) (by decide), s4 13 (by decide) (by decide) (by decide) (by decide) (by decide) (by decide)]
  have hs42 : ∀ v : Int32, (A0 11 k = v) → (v = 43 ∨ v = 45 ∨ v = 42) → ¬ v ≤ 0 := fun v _ q => by rcases q with q | q | q <;> (rw [q]; decide)
  have hpos : ¬ A0 11 k ≤ 0 := hs42 _ rfl hs
  have hx := s2.2.2.2.1
  have ties : ∀ a b, a < 6 → b < 6 → ds_tie d.2.1 (A0 12 k) (A0 13 k) (6 * a + b) = em_dao A0 (nI a) (nI b) (k + 1) := by
    intro a b ha6 hb6
    obtain ⟨an, han, ea⟩ := eq_vN ha
    obtain ⟨bn, hbn, eb⟩ := eq_vN hb
    rw [em_dao, if_neg hpos, ea, eb, eq_tie han hbn, ← s8 a b ha6 hb6]
    unfold upd
    by_cases c1 : an = a
    · by_cases c2 : bn = b
      · rw [if_pos (by omega), c1, c2, if_pos rfl, if_pos rfl]
      · rw [if_neg (by omega), c1, if_pos rfl, if_neg (fun q => c2 ((nI_eq (by omega) (by omega)).mp q)), Int32.add_zero]
    · rw [if_neg (by omega), if_neg (fun q => c1 ((nI_eq (by omega) (by omega)).mp q)), Int32.add_zero]
  have rows : ∀ j, j ≠ 4 → j ≠ 5 → j ≠ 6 → em_hpA A I k j = A0 j := fun j h4 h5 h6 => by rw [eq_hpA_ne h4 h5 h6]; exact s3 j h4 h5 h6
  have slots : ∀ s, s ≠ 14 → s ≠ 26 → s ≠ 27 → s ≠ 28 → s ≠ 29 → s ≠ 30 → em_hpI A I k s = I0 s := fun s h1 h2 h3 h4 h5 h6 => by rw [em_hpI_ne h1 h4 h5 h6]; exact s4 s h1 h2 h3 h4 h5 h6
  have h26 : em_hpI A I k 26 = -6 := by rw [em_hpI_ne (by decide) (by decide) (by decide) (by decide)]; exact s6
  have h27 : em_hpI A I k 27 = -6 := by rw [em_hpI_ne (by decide) (by decide) (by decide) (by decide)]; exact s7
  have eA : em_hpA A I k = em_hp2 A I (A0 12 k) (A0 13 k) (A0 14 k) (A0 11 k) := by unfold em_hpA; rw [r11, r12, r13, r14]
  have eI : em_hpI A I k = em_hi2 A I (A0 12 k) (A0 14 k) (A0 11 k) := by unfold em_hpI; rw [r11, r12, r14]
  have same28 : ∀ (J : Nat → Int32) (v : Int32), eq_Isame (va_up J 28 v) J := fun J v => ⟨va_up_ne _ _ (by decide), fun k _ => va_up_ne _ _ (by omega), va_up_ne _ _ (by decide)⟩
  have same29 : ∀ (J : Nat → Int32) (v : Int32), eq_Isame (va_up J 29 v) J := fun J v => ⟨va_up_ne _ _ (by decide), fun k _ => va_up_ne _ _ (by omega), va_up_ne _ _ (by decide)⟩
  have same30 : ∀ (J : Nat → Int32) (v : Int32), eq_Isame (va_up J 30 v) J := fun J v => ⟨va_up_ne _ _ (by decide), fun k _ => va_up_ne _ _ (by omega), va_up_ne _ _ (by decide)⟩
  rcases hs with hs | hs | hs
  · have jA : em_hpA A I k = em_doT A I (A0 13 k) (A0 14 k) := by rw [eA, hs]; rfl
    have jI : em_hpI A I k = va_up (em_doI I) 28 (I 28 + 1) := by rw [eI, hs]; rfl
    have hP := eq_do s1 hx hb (A0 14 k)
    have hR := eq_doR s2 (by omega) (A0 13 k) hh
    refine ⟨?_, ?_, rows, slots, ?_, h26, h27, ties, ?_⟩
    · rw [jA, jI, hs]; exact hP.congr (fun _ _ _ _ => rfl) (same28 _ _)
    · rw [jA, jI]; exact (hR.congr (fun _ _ _ _ => rfl) (same28 _ _)).mono (by omega)
    · rw [jI, hs, s5]; rfl
    · rw [hs]; exact eq_L43 s9 hk hs (by rw [eq_odd s1 hb, ho])
  · have jA : em_hpA A I k = va_up A 5 (upd (A 5) (A0 13 k).toNatClampNeg (A 5 (A0 13 k).toNatClampNeg - A0 14 k / 2)) := by rw [eA, hs]; rfl
    have jI : em_hpI A I k = va_up I 29 (I 29 + 1) := by rw [eI, hs]; rfl
    have hP := eq_ref s1 hb (A0 14 k)
    have hR := eq_refR s2 (by omega) (A0 13 k) hh
    refine ⟨?_, ?_, rows, slots, ?_, h26, h27, ties, ?_⟩
    · rw [jA, jI, hs]; exact hP.congr (fun _ _ _ _ => rfl) (same29 _ _)
    · rw [jA, jI]; exact (hR.congr (fun _ _ _ _ => rfl) (same29 _ _)).mono (by omega)
    · rw [jI, hs, s5]; rfl
    · rw [hs]; exact eq_L0 s9 (by rw [hs]; decide) (by rw [hs]; decide)
  · have jA : em_hpA A I k = if em_doH A I (A0 12 k) (A0 14 k) = 0 then em_doT (em_doT A I (A0 12 k) (A0 14 k)) (em_doI I) (A0 13 k) (A0 14 k) else em_doT A I (A0 12 k) (A0 14 k) := by rw [eA, hs]; unfold em_hp2; rw [if_neg (show ¬ (42 : Int32) = 43 by decide), if_neg (show ¬ (42 : Int32) = 45 by decide)]
    have jI : em_hpI A I k = if em_doH A I (A0 12 k) (A0 14 k) = 0 then va_up (em_doI (em_doI I)) 30 (I 30 + 1) else va_up (em_doI I) 30 (I 30 + 1) := by rw [eI, hs]; unfold em_hi2; rw [if_neg (show ¬ (42 : Int32) = 43 by decide), if_neg (show ¬ (42 : Int32) = 45 by decide)]
    have hP := eq_do s1 hx ha (A0 14 k)
    have hR := eq_doR s2 (by omega) (A0 12 k) hh
    have hT : ds_t2 d.1 (A0 12 k) (A0 13 k) (A0 14 k) 42 = if em_doH A I (A0 12 k) (A0 14 k) = 0 then dt_pfT (dt_pfT d.1 (A0 12 k) (A0 14 k)) (A0 13 k) (A0 14 k) else dt_pfT d.1 (A0 12 k) (A0 14 k) := by
      unfold ds_t2
      rw [if_neg (by decide), if_neg (by decide), eq_doB s1 hx ha]
      by_cases c : em_doH A I (A0 12 k) (A0 14 k) = 0
      · rw [if_neg (by simp [c]), if_pos c]
      · rw [if_pos (by simp [c]), if_neg c]
    refine ⟨?_, ?_, rows, slots, ?_, h26, h27, ties, ?_⟩
    · rw [jA, jI, hs, hT]
      by_cases c : em_doH A I (A0 12 k) (A0 14 k) = 0
      · rw [if_pos c, if_pos c, if_pos c]
        exact (eq_do hP hR.2.2.2.1 hb (A0 14 k)).congr (fun _ _ _ _ => rfl) (same30 _ _)
      · rw [if_neg c, if_neg c, if_neg c]
        exact hP.congr (fun _ _ _ _ => rfl) (same30 _ _)
    · rw [jA, jI]
      by_cases c : em_doH A I (A0 12 k) (A0 14 k) = 0
      · rw [if_pos c, if_pos c]
        exact ((eq_doR hR (by omega) (A0 13 k) hh).congr (fun _ _ _ _ => rfl) (same30 _ _)).mono (by omega)
      · rw [if_neg c, if_neg c]
        exact (hR.congr (fun _ _ _ _ => rfl) (same30 _ _)).mono (by omega)
    · rw [jI, hs, s5]
      by_cases c : em_doH A I (A0 12 k) (A0 14 k) = 0
      · rw [if_pos c]; rfl
      · rw [if_neg c]; rfl
    · rw [hs]
      exact eq_L42 s9 hk hs (by rw [eq_odd s1 ha, ho]) (by rw [eq_odd s1 hb, ho])
theorem eq_w0 {A : Nat → Nat → Int32} {I : Nat → Int32} {a b h : Int32} : em_why A I a b h ≤ 0 ↔ em_why A I a b h = 0 := by
  have : em_why A I a b h = 0 ∨ em_why A I a b h = 1 ∨ em_why A I a b h = 2 ∨ em_why A I a b h = 3 ∨ em_why A I a b h = 4 := by
    unfold em_why
    repeat' split
    all_goals simp
  rcases this with q | q | q | q | q <;> rw [q] <;> decide
theorem eq_rd {g G : Nat → Int32} (hg : ∀ k, k < 60 → g k = G k) {s : Nat} (hs : s + 5 ≤ 60) : ds_a g (nI s) = G s - 65 ∧ ds_b g (nI s) = G (s + 1) - 65 ∧ ds_h g (nI s) = 10 * (G (s + 2) - 48) + (G (s + 3) - 48) ∧ ds_k g (nI s) = G (s + 4) := by
  have hx : ∀ j : Nat, j < 60 → xb_at 60 g (nI j) = G j := fun j hj => by rw [xb_at_n hj (by decide), hg j hj]
  unfold ds_a ds_b ds_h ds_k
  rw [show nI s + 1 = nI (s + 1) from nI_add s 1, show nI s + 2 = nI (s + 2) from nI_add s 2, show nI s + 3 = nI (s + 3) from nI_add s 3, show nI s + 4 = nI (s + 4) from nI_add s 4]
  rw [hx s (by omega), hx (s + 1) (by omega), hx (s + 2) (by omega), hx (s + 3) (by omega), hx (s + 4) (by omega)]
  refine ⟨rfl, rfl, ?_, rfl⟩
  rw [Int32.sub_eq_add_neg, Int32.add_assoc, ← Int32.sub_eq_add_neg]
theorem eq_sim {g : Nat → Int32} {n e : Nat} {A0 : Nat → Nat → Int32} {I0 : Nat → Int32} (hn : n ≤ 60) (hg : ∀ k, k < 60 → g k = A0 10 k) (hE : ∀ k, k < e → eq_EV A0 k) (hps : eq_ps (A0 10) e = n) (he : e ≤ 60) (h25 : I0 25 = nI e) :
    ∀ (r k B : Nat) (A : Nat → Nat → Int32) (I : Nat → Int32) (d : ds_D) (fu fv : Nat), k + r = e → r < fu → r < fv → eq_S B k A0 I0 A I d → B + 30 * r < 2 ^ 30 →
    ((ds_ply g n fv (eq_ps (A0 10) k) (nI k) d).2.1 = 0 ∧ (ds_ply g n fv (eq_ps (A0 10) k) (nI k) d).1 = nI e ∧ eq_S (B + 30 * r) e A0 I0 (em_gs fu k A I).1 (em_gs fu k A I).2 (ds_ply g n fv (eq_ps (A0 10) k) (nI k) d).2.2) ∨
    (¬ (ds_ply g n fv (eq_ps (A0 10) k) (nI k) d).2.1 = 0 ∧ 0 ≤ (em_gs fu k A I).2 26 ∧ (em_gs fu k A I).2 26 = (ds_ply g n fv (eq_ps (A0 10) k) (nI k) d).1 ∧ (em_gs fu k A I).2 27 = (ds_ply g n fv (eq_ps (A0 10) k) (nI k) d).2.1) := by
  intro r
  induction r with
  | zero =>
    intro k B A I d fu fv hk hfu hfv hS hB
    obtain ⟨fu', rfl⟩ : ∃ z, fu = z + 1 := ⟨fu - 1, by omega⟩
    obtain ⟨fv', rfl⟩ : ∃ z, fv = z + 1 := ⟨fv - 1, by omega⟩
    have hke : k = e := by omega
    subst hke
    have hI25 : I 25 = nI k := by rw [hS.2.2.2.1 25 (by decide) (by decide) (by decide) (by decide) (by decide) (by decide)]; exact h25
    rw [em_gs, if_pos (by rw [hI25]; exact Int32.le_refl _), ds_ply, if_pos (by omega)]
    exact .inl ⟨rfl, rfl, eq_S_mono hS (by omega)⟩
  | succ r ih =>
    intro k B A I d fu fv hk hfu hfv hS hB
    obtain ⟨fu', rfl⟩ : ∃ z, fu = z + 1 := ⟨fu - 1, by omega⟩
    obtain ⟨fv', rfl⟩ : ∃ z, fv = z + 1 := ⟨fv - 1, by omega⟩
    have hI25 : I 25 = nI e := by rw [hS.2.2.2.1 25 (by decide) (by decide) (by decide) (by decide) (by decide) (by decide)]; exact h25
    have hmono := eq_ps_mono (A0 10) (k + 1) r
    rw [show k + 1 + r = e by omega, hps] at hmono
    have hlt : eq_ps (A0 10) k < n := by rw [eq_ps] at hmono; split at hmono <;> omega
    have r11 : A 11 k = A0 11 k := by rw [hS.2.2.1 11 (by decide) (by decide) (by decide)]
    have r12 : A 12 k = A0 12 k := by rw [hS.2.2.1 12 (by decide) (by decide) (by decide)]
    have r13 : A 13 k = A0 13 k := by rw [hS.2.2.1 13 (by decide) (by decide) (by decide)]
    have r14 : A 14 k = A0 14 k := by rw [hS.2.2.1 14 (by decide) (by decide) (by decide)]
    have hgs : xb_at 60 g (nI (eq_ps (A0 10) k)) = A0 10 (eq_ps (A0 10) k) := by rw [xb_at_n (by omega) (by decide), hg _ (by omega)]
    rw [em_gs, if_neg (by rw [hI25]; exact fun z => absurd ((nI_leI (by omega) (by omega)).mp z) (by omega)), if_neg (by rw [hS.2.2.2.2.2.1]; decide), ds_ply, if_neg (by omega), hgs, r11, r12, r13, r14]
    rcases hE k (by omega) with ⟨v1, v2⟩ | ⟨v1, v2, v3, v4, v5, v6, v7, v8, v9⟩
    · rw [if_pos v2, if_pos v1, show nI k + 1 = nI (k + 1) from nI_1 k]
      have hp1 : eq_ps (A0 10) (k + 1) = eq_ps (A0 10) k + 1 := by rw [eq_ps, if_pos v1]
      rw [← hp1]
      have := ih (k + 1) B _ I _ fu' fv' (by omega) (by omega) (by omega) (eq_S_night hS (by omega) v2) (by omega)
      rcases this with ⟨q1, q2, q3⟩ | q
      · exact .inl ⟨q1, q2, eq_S_mono q3 (by omega)⟩
      · exact .inr q
    · have hne : ¬ A0 11 k = 0 := by rcases v3 with q | q | q <;> (rw [q]; decide)
      have hp1 : eq_ps (A0 10) (k + 1) = eq_ps (A0 10) k + 5 := by rw [eq_ps, if_neg v1]
      rw [hp1] at hmono
      obtain ⟨d1, d2, d3, d4⟩ := eq_rd hg (s := eq_ps (A0 10) k) (by omega)
      rw [if_neg hne, if_neg v1]
      have e1 : ds_a g (nI (eq_ps (A0 10) k)) = A0 12 k := by rw [d1, v4]
      have e2 : ds_b g (nI (eq_ps (A0 10) k)) = A0 13 k := by rw [d2, v5]
      have e3 : ds_h g (nI (eq_ps (A0 10) k)) = A0 14 k := by rw [d3, v8]
      have e4 : ds_k g (nI (eq_ps (A0 10) k)) = A0 11 k := by rw [d4, v2]
      have hw : ds_why d.1 g (nI (eq_ps (A0 10) k)) = em_why A I (A0 12 k) (A0 13 k) (A0 14 k) := by
        unfold ds_why
        rw [e1, e2, e3, eq_why hS.1]
      have hd : em_why A I (A0 12 k) (A0 13 k) (A0 14 k) = 0 → ds_dar g (nI (eq_ps (A0 10) k)) d = (ds_t2 d.1 (A0 12 k) (A0 13 k) (A0 14 k) (A0 11 k), ds_tie d.2.1 (A0 12 k) (A0 13 k), ds_l2 d.1 (A0 12 k) (A0 13 k) (A0 14 k) (A0 11 k) d.2.2.1, ds_c2 (A0 11 k) d.2.2.2) := fun z => by
        unfold ds_dar
        rw [hw, if_pos z, e1, e2, e3, e4]
      rw [hw]
      by_cases c : em_why A I (A0 12 k) (A0 13 k) (A0 14 k) = 0
      · rw [if_pos (eq_w0.mpr c), if_pos c, hd c, show nI k + 1 = nI (k + 1) from nI_1 k, ← hp1]
        have := ih (k + 1) (B + 30) _ _ _ fu' fv' (by omega) (by omega) (by omega) (eq_S_dare hS (by omega) (by omega) v3 v6 v7 v9) (by omega)
        rcases this with ⟨q1, q2, q3⟩ | q
        · exact .inl ⟨q1, q2, eq_S_mono q3 (by omega)⟩
        · exact .inr q
      · rw [if_neg (fun z => c (eq_w0.mp z)), if_neg c]
        obtain ⟨fu2, rfl⟩ : ∃ z, fu' = z + 1 := ⟨fu' - 1, by omega⟩
        have h26 : va_up (va_up I 26 (nI k)) 27 (em_why A I (A0 12 k) (A0 13 k) (A0 14 k)) 26 = nI k := by rw [va_up_ne _ _ (by decide), va_up_self]
        have hfin : em_gs (fu2 + 1) (k + 1) A (va_up (va_up I 26 (nI k)) 27 (em_why A I (A0 12 k) (A0 13 k) (A0 14 k))) = (A, va_up (va_up I 26 (nI k)) 27 (em_why A I (A0 12 k) (A0 13 k) (A0 14 k))) := by
          rw [em_gs, if_pos (show 0 ≤ va_up (va_up I 26 (nI k)) 27 (em_why A I (A0 12 k) (A0 13 k) (A0 14 k)) 26 by rw [h26]; exact nI_pos' (by omega))]
          split <;> rfl
        rw [hfin]
        refine .inr ⟨c, ?_, h26, ?_⟩
        · show 0 ≤ va_up (va_up I 26 (nI k)) 27 (em_why A I (A0 12 k) (A0 13 k) (A0 14 k)) 26
          rw [h26]; exact nI_pos' (by omega)
        · show va_up (va_up I 26 (nI k)) 27 (em_why A I (A0 12 k) (A0 13 k) (A0 14 k)) 27 = em_why A I (A0 12 k) (A0 13 k) (A0 14 k)
          exact va_up_self _ _ _
