/-! what is asked of a summer -/
/-- what matters is the same -/
def eq_O (A' : Nat → Nat → Int32) (I' : Nat → Int32) (A : Nat → Nat → Int32) (I : Nat → Int32) : Prop := (∀ j k, j < 10 → k < 6 → A' j k = A j k) ∧ A' 10 = A 10 ∧ A' 21 = A 21 ∧ A' 22 = A 22 ∧ eq_Isame I' I ∧ I' 20 = I 20
theorem eq_O.rf {A : Nat → Nat → Int32} {I : Nat → Int32} : eq_O A I A I := ⟨fun _ _ _ _ => rfl, rfl, rfl, rfl, ⟨rfl, fun _ _ => rfl, rfl⟩, rfl⟩
theorem eq_fltO {g : Nat → Int32} {n : Nat} {A : Nat → Nat → Int32} {I : Nat → Int32} (hn : n ≤ 60) (h20 : I 20 = nI n) (hg : ∀ k, k < 60 → g k = A 10 k) : eq_O (em_flt A I n).2.1 (em_flt A I n).2.2 A I := by
  obtain ⟨-, -, -, r4, r5⟩ := eq_flt hn h20 hg
  exact ⟨fun j k hj _ => by rw [r4 j (by omega)], r4 10 (by omega), r4 21 (by omega), r4 22 (by omega), ⟨r5 0 (by decide), fun k hk => r5 (8 + k) (by omega), r5 18 (by decide)⟩, r5 20 (by decide)⟩
theorem eq_kpk_o {A : Nat → Nat → Int32} {j : Nat} (h : j ≠ 15) (h2 : j ≠ 16) (h3 : j ≠ 17) : em_kpk A 6 j = A j := by
  unfold em_kpk
  rw [va_up_ne _ _ h3, va_up_ne _ _ h2, va_up_ne _ _ h]
theorem eq_kpk_k {A : Nat → Nat → Int32} {k : Nat} (hk : k < 6) : em_kpk A 6 15 k = A 4 k ∧ em_kpk A 6 16 k = A 5 k ∧ em_kpk A 6 17 k = A 6 k := by
  unfold em_kpk
  refine ⟨?_, ?_, ?_⟩
  · rw [va_up_ne _ _ (by decide), va_up_ne _ _ (by decide), va_up_self]; exact if_pos hk
  · rw [va_up_ne _ _ (by decide), va_up_self]; exact if_pos hk
  · rw [va_up_self]; exact if_pos hk
theorem eq_pbO {A0 A : Nat → Nat → Int32} {I0 I : Nat → Int32} {S : em_G} (hk : ∀ k, k < 6 → A0 15 k = A 4 k ∧ A0 16 k = A 5 k ∧ A0 17 k = A 6 k) (hr : ∀ j, j < 10 ∨ j = 10 ∨ j = 21 ∨ j = 22 → A0 j = A j) (hx : I0 34 = I 14) (hI : ∀ s, s = 0 ∨ (8 ≤ s ∧ s ≤ 13) ∨ s = 18 ∨ s = 20 → I0 s = I s)
    (hA : ∀ j, j ≠ 4 → j ≠ 5 → j ≠ 6 → S.1 j = A0 j) (hJ : ∀ s, s ≠ 14 → s ≠ 26 → s ≠ 27 → s ≠ 28 → s ≠ 29 → s ≠ 30 → S.2 s = I0 s) : eq_O (em_pb S).1 (em_pb S).2 A I := by
  have e15 : S.1 15 = A0 15 := hA 15 (by decide) (by decide) (by decide)
  have e16 : S.1 16 = A0 16 := hA 16 (by decide) (by decide) (by decide)
  have e17 : S.1 17 = A0 17 := hA 17 (by decide) (by decide) (by decide)
  have o : ∀ j, j ≠ 4 → j ≠ 5 → j ≠ 6 → (em_pb S).1 j = A0 j := fun j h4 h5 h6 => by
    show em_pbk S.1 6 j = A0 j
    unfold em_pbk
    rw [va_up_ne _ _ h6, va_up_ne _ _ h5, va_up_ne _ _ h4]
    exact hA j h4 h5 h6
  have oI : ∀ s, s ≠ 14 → s ≠ 26 → s ≠ 27 → s ≠ 28 → s ≠ 29 → s ≠ 30 → (em_pb S).2 s = I0 s := fun s h1 h2 h3 h4 h5 h6 => by
    show va_up S.2 14 (S.2 34) s = I0 s
    rw [va_up_ne _ _ h1]
    exact hJ s h1 h2 h3 h4 h5 h6
  have oX : (em_pb S).2 14 = I 14 := by
    show va_up S.2 14 (S.2 34) 14 = I 14
    rw [va_up_self, hJ 34 (by decide) (by decide) (by decide) (by decide) (by decide) (by decide)]
    exact hx
  refine ⟨fun j k hj hk6 => ?_, (o 10 (by decide) (by decide) (by decide)).trans (hr 10 (by omega)), (o 21 (by decide) (by decide) (by decide)).trans (hr 21 (by omega)), (o 22 (by decide) (by decide) (by decide)).trans (hr 22 (by omega)), ⟨(oI 0 (by decide) (by decide) (by decide) (by decide) (by decide) (by decide)).trans (hI 0 (by omega)), fun k hk7 => ?_, (oI 18 (by decide) (by decide) (by decide) (by decide) (by decide) (by decide)).trans (hI 18 (by omega))⟩, (oI 20 (by decide) (by decide) (by decide) (by decide) (by decide) (by decide)).trans (hI 20 (by omega))⟩
  · obtain ⟨k4, k5, k6⟩ := hk k hk6
    by_cases h4 : j = 4
    · subst h4
      show em_pbk S.1 6 4 k = A 4 k
      unfold em_pbk
      rw [va_up_ne _ _ (by decide), va_up_ne _ _ (by decide), va_up_self, e15]
      exact (if_pos hk6).trans k4
    · by_cases h5 : j = 5
      · subst h5
        show em_pbk S.1 6 5 k = A 5 k
        unfold em_pbk
        rw [va_up_ne _ _ (by decide), va_up_self, e16]
        exact (if_pos hk6).trans k5
      · by_cases h6 : j = 6
        · subst h6
          show em_pbk S.1 6 6 k = A 6 k
          unfold em_pbk
          rw [va_up_self, e17]
          exact (if_pos hk6).trans k6
        · rw [o j h4 h5 h6, hr j (.inl hj)]
  · by_cases e : k = 6
    · subst e; exact oX
    · rw [oI (8 + k) (by omega) (by omega) (by omega) (by omega) (by omega) (by omega)]
      exact hI _ (by omega)
/-- the start of a summer in the reference -/
def eq_A0 (A : Nat → Nat → Int32) (I : Nat → Int32) (n : Nat) : Nat → Nat → Int32 := em_kpk (em_flt A I n).2.1 6
def eq_I0 (A : Nat → Nat → Int32) (I : Nat → Int32) (n : Nat) : Nat → Int32 := em_gI (va_up (em_flt A I n).2.2 34 ((em_flt A I n).2.2 14))
theorem eq_sumr_0 {A : Nat → Nat → Int32} {I : Nat → Int32} {n : Nat} : em_sumr A I n = em_gs 61 0 (eq_A0 A I n) (eq_I0 A I n) := rfl
theorem eq_gI_ne {J : Nat → Int32} {s : Nat} (h2 : s ≠ 26) (h3 : s ≠ 27) (h4 : s ≠ 28) (h5 : s ≠ 29) (h6 : s ≠ 30) : em_gI J s = J s := by
  unfold em_gI
  rw [va_up_ne _ _ h6, va_up_ne _ _ h5, va_up_ne _ _ h4, va_up_ne _ _ h3, va_up_ne _ _ h2]
theorem eq_I0_s {g : Nat → Int32} {A : Nat → Nat → Int32} {I : Nat → Int32} {n : Nat} (hn : n ≤ 60) (h20 : I 20 = nI n) (hg : ∀ k, k < 60 → g k = A 10 k) {s : Nat} (h1 : s ≠ 25) (h2 : s ≠ 26) (h3 : s ≠ 27) (h4 : s ≠ 28) (h5 : s ≠ 29) (h6 : s ≠ 30) (h7 : s ≠ 34) : eq_I0 A I n s = I s := by
  obtain ⟨-, -, -, -, r5⟩ := eq_flt hn h20 hg
  unfold eq_I0
  rw [eq_gI_ne h2 h3 h4 h5 h6, va_up_ne _ _ h7]
  exact r5 s h1
theorem eq_sumrO {g : Nat → Int32} {A : Nat → Nat → Int32} {I : Nat → Int32} {n : Nat} (hn : n ≤ 60) (h20 : I 20 = nI n) (hg : ∀ k, k < 60 → g k = A 10 k) : eq_O (em_pb (em_sumr A I n)).1 (em_pb (em_sumr A I n)).2 A I := by
  obtain ⟨-, -, -, r4, r5⟩ := eq_flt hn h20 hg
  obtain ⟨k1, k2⟩ := eq_gs_keep 61 0 (eq_A0 A I n) (eq_I0 A I n)
  refine eq_pbO (A0 := eq_A0 A I n) (I0 := eq_I0 A I n) (fun k hk => ?_) (fun j hj => ?_) ?_ (fun s hs => eq_I0_s hn h20 hg (by omega) (by omega) (by omega) (by omega) (by omega) (by omega) (by omega)) k1 k2
  · obtain ⟨a1, a2, a3⟩ := eq_kpk_k (A := (em_flt A I n).2.1) hk
    rw [r4 4 (by omega)] at a1
    rw [r4 5 (by omega)] at a2
    rw [r4 6 (by omega)] at a3
    exact ⟨a1, a2, a3⟩
  · unfold eq_A0
    rw [eq_kpk_o (by omega) (by omega) (by omega)]
    exact r4 j (by omega)
  · unfold eq_I0
    rw [eq_gI_ne (by decide) (by decide) (by decide) (by decide) (by decide), va_up_self]
    exact r5 14 (by decide)
theorem eq_rfGO {g : Nat → Int32} {A : Nat → Nat → Int32} {I : Nat → Int32} {n : Nat} (hn : n ≤ 60) (h20 : I 20 = nI n) (hg : ∀ k, k < 60 → g k = A 10 k) : eq_O (em_rfG A I n).1 (em_rfG A I n).2 A I := by
  unfold em_rfG
  split
  · exact eq_sumrO hn h20 hg
  · exact eq_fltO hn h20 hg
theorem eq_play {B n : Nat} {g : Nat → Int32} {T A : Nat → Nat → Int32} {I : Nat → Int32} (hP : eq_P T A I) (hR : eq_R B A I) (hB : B + 2000 < 2 ^ 30) (hn : n ≤ 60) (h20 : I 20 = nI n) (hg : ∀ k, k < 60 → g k = A 10 k) (hf : (em_flt A I n).1 = -6) :
    ∃ e : Nat, e ≤ n ∧ eq_I0 A I n 25 = nI e ∧ (∀ k, k < e → eq_EV (eq_A0 A I n) k) ∧
    (((ds_sum T g n).2.1 = 0 ∧ (ds_sum T g n).1 = nI e ∧ eq_S (B + 1800) e (eq_A0 A I n) (eq_I0 A I n) (em_sumr A I n).1 (em_sumr A I n).2 (ds_sum T g n).2.2) ∨
    (¬ (ds_sum T g n).2.1 = 0 ∧ 0 ≤ (em_sumr A I n).2 26 ∧ (em_sumr A I n).2 26 = (ds_sum T g n).1 ∧ (em_sumr A I n).2 27 = (ds_sum T g n).2.1)) := by
  obtain ⟨-, -, r3, r4, r5⟩ := eq_flt hn h20 hg
  obtain ⟨e, he, h25, hps, hE⟩ := r3 hf
  have hA0 : ∀ j, j < 15 → eq_A0 A I n j = (em_flt A I n).2.1 j := fun j hj => eq_kpk_o (by omega) (by omega) (by omega)
  have h10 : eq_A0 A I n 10 = A 10 := (hA0 10 (by decide)).trans (r4 10 (by omega))
  have hI25 : eq_I0 A I n 25 = nI e := by
    unfold eq_I0
    rw [eq_gI_ne (by decide) (by decide) (by decide) (by decide) (by decide), va_up_ne _ _ (by decide)]
    exact h25
  have hE0 : ∀ k, k < e → eq_EV (eq_A0 A I n) k := fun k hk => (hE k hk).congr (hA0 10 (by decide)) (congrFun (hA0 11 (by decide)) k) (congrFun (hA0 12 (by decide)) k) (congrFun (hA0 13 (by decide)) k) (congrFun (hA0 14 (by decide)) k)
  have hsame : eq_Isame (eq_I0 A I n) I := ⟨eq_I0_s hn h20 hg (by decide) (by decide) (by decide) (by decide) (by decide) (by decide) (by decide), fun k hk => eq_I0_s hn h20 hg (by omega) (by omega) (by omega) (by omega) (by omega) (by omega) (by omega), eq_I0_s hn h20 hg (by decide) (by decide) (by decide) (by decide) (by decide) (by decide) (by decide)⟩
  have hrow : ∀ j k, j < 10 → k < 6 → eq_A0 A I n j k = A j k := fun j k hj _ => by rw [hA0 j (by omega), r4 j (by omega)]
  have hS : eq_S B 0 (eq_A0 A I n) (eq_I0 A I n) (eq_A0 A I n) (eq_I0 A I n) (T, ds_z, (0, 1, 1), (0, 0, 0)) :=
    ⟨hP.congr hrow hsame, hR.congr hrow hsame, fun _ _ _ _ => rfl, fun _ _ _ _ _ _ _ => rfl, rfl, rfl, rfl, fun _ _ _ _ => rfl, ⟨0, by omega, rfl, fun _ => ⟨rfl, rfl⟩, fun q => absurd q (by decide)⟩⟩
  have := eq_sim (g := g) (n := n) (e := e) (A0 := eq_A0 A I n) (I0 := eq_I0 A I n) hn (by rw [h10]; exact hg) hE0 (by rw [h10]; exact hps) (by omega) hI25 e 0 B _ _ _ 61 61 (by omega) (by omega) (by omega) hS (by omega)
  refine ⟨e, he, hI25, hE0, ?_⟩
  rcases this with ⟨q1, q2, q3⟩ | q
  · exact .inl ⟨q1, q2, eq_S_mono q3 (by omega)⟩
  · exact .inr q
/-- the three ways of a summer -/
theorem eq_tri {B n : Nat} {g : Nat → Int32} {T A : Nat → Nat → Int32} {I : Nat → Int32} (hP : eq_P T A I) (hR : eq_R B A I) (hB : B + 2000 < 2 ^ 30) (hn : n ≤ 60) (h20 : I 20 = nI n) (hg : ∀ k, k < 60 → g k = A 10 k) (x : dk_S) :
    (dk_ret T g n = -5 ∧ ¬ (em_flt A I n).1 < 0) ∨
    (dk_ret T g n = -3 ∧ (em_flt A I n).1 < 0 ∧ ¬ (em_sumr A I n).2 26 < 0 ∧ dk_ply T g n x = ds_sum T g n ∧ (em_sumr A I n).2 26 = (ds_sum T g n).1 ∧ (em_sumr A I n).2 27 = (ds_sum T g n).2.1) ∨
    (dk_ret T g n = 0 ∧ (em_flt A I n).1 < 0 ∧ (em_sumr A I n).2 26 < 0 ∧ dk_ply T g n x = ds_sum T g n ∧ ∃ e : Nat, e ≤ n ∧ eq_I0 A I n 25 = nI e ∧ (∀ k, k < e → eq_EV (eq_A0 A I n) k) ∧ (ds_sum T g n).1 = nI e ∧ eq_S (B + 1800) e (eq_A0 A I n) (eq_I0 A I n) (em_sumr A I n).1 (em_sumr A I n).2 (ds_sum T g n).2.2) := by
  obtain ⟨r1, r2, -, -, -⟩ := eq_flt hn h20 hg
  unfold dk_ret dk_ply
  rw [← r1]
  rcases r2 with hf | hf
  · have hl : (em_flt A I n).1 < 0 := by rw [hf]; decide
    rw [if_pos hf, if_pos hf]
    obtain ⟨e, he, h25, hE, q⟩ := eq_play hP hR hB hn h20 hg hf
    rcases q with ⟨q1, q2, q3⟩ | ⟨q1, q2, q3, q4⟩
    · refine .inr (.inr ⟨if_pos q1, hl, ?_, rfl, e, he, h25, hE, q2, q3⟩)
      rw [q3.2.2.2.2.2.1]; decide
    · exact .inr (.inl ⟨if_neg q1, hl, Int32.not_lt.mpr q2, rfl, q3, q4⟩)
  · have hl : ¬ (em_flt A I n).1 < 0 := Int32.not_lt.mpr hf
    have hne : ¬ (em_flt A I n).1 = -6 := fun q => hl (by rw [q]; decide)
    exact .inl ⟨if_neg hne, hl⟩
theorem eq_flt_a {n : Nat} {g : Nat → Int32} {A : Nat → Nat → Int32} {I : Nat → Int32} (hn : n ≤ 60) (h20 : I 20 = nI n) (hg : ∀ k, k < 60 → g k = A 10 k) : dp_flt g n n 0 0 = (em_flt A I n).1 := (eq_flt hn h20 hg).1.symm
theorem eq_jud {B n : Nat} {g : Nat → Int32} {T A : Nat → Nat → Int32} {I : Nat → Int32} (hP : eq_P T A I) (hR : eq_R B A I) (hB : B + 2000 < 2 ^ 30) (hn : n ≤ 60) (h20 : I 20 = nI n) (hg : ∀ k, k < 60 → g k = A 10 k) (x : dk_S) (w : Int32) : dj_jud (dk_ret T g n) (dk_ply T g n x) w = em_jud A I n w := by
  unfold dj_jud em_jud
  by_cases hw : xw_in w 0 4 = true
  · rw [if_pos hw, if_pos hw]
    obtain ⟨m, -, hm, rfl⟩ := (eq_in (a := 0) (b := 4) (by decide) (by decide)).mp hw
    rcases eq_tri hP hR hB hn h20 hg x with ⟨a1, a2⟩ | ⟨a1, a2, a3, a4, a5, a6⟩ | ⟨a1, a2, a3, a4, e, -, -, -, a5, a6⟩
    · rw [a1, if_pos rfl, if_neg a2]
    · rw [a1, a4, if_neg (by decide), if_pos rfl, if_pos a2]
      rcases (show m = 0 ∨ m = 1 ∨ (2 ≤ m) by omega) with rfl | rfl | h2
      · rw [if_pos (by decide), if_pos (by decide)]
        unfold dj_jsw em_jsw
        rw [if_pos (show nI 0 = 0 from rfl), if_pos rfl, if_pos (show nI 0 = 0 from rfl), a5]
      · rw [if_pos (by decide), if_pos (by decide)]
        unfold dj_jsw em_jsw
        rw [if_neg (show ¬ nI 1 = 0 by decide), if_pos (show nI 1 = 1 from rfl), if_pos rfl, if_neg (show ¬ nI 1 = 0 by decide), if_pos (show nI 1 = 1 from rfl), a6]
      · rw [if_neg (show ¬ nI m < 2 from nI_nlt (a := m) (b := 2) h2 (by omega)), if_neg (show ¬ nI m ≤ 1 from fun q => absurd ((nI_leI (a := m) (b := 1) (by omega) (by decide)).mp q) (by omega)), if_neg a3]
    · have c26 := a6.2.2.2.2.2.1
      have c27 := a6.2.2.2.2.2.2.1
      have cc := a6.2.2.2.2.1
      rw [a1, a4, if_neg (by decide), if_neg (by decide), if_pos a2, if_pos a3]
      have e1 : dj_jsw 0 (ds_sum T g n) (nI m) = em_jsw (em_sumr A I n).2 (nI m) := by
        unfold dj_jsw em_jsw
        rw [if_neg (show ¬ (0 : Int32) = -3 by decide), c26, c27, show (ds_sum T g n).2.2.2.2.2 = ((em_sumr A I n).2 28, (em_sumr A I n).2 29, (em_sumr A I n).2 30) from cc]
        rfl
      rw [e1]
      split <;> rfl
  · rw [if_neg hw, if_neg hw]
theorem eq_beh {B n : Nat} {g : Nat → Int32} {T A : Nat → Nat → Int32} {I : Nat → Int32} (hP : eq_P T A I) (hR : eq_R B A I) (hB : B + 2000 < 2 ^ 30) (hn : n ≤ 60) (h20 : I 20 = nI n) (hg : ∀ k, k < 60 → g k = A 10 k) (x : dk_S) (p w : Int32) : dj_beh T (dk_ret T g n) (dk_ply T g n x) p w = em_beh A I n p w := by
  unfold dj_beh em_beh
  rw [eq_isT hP]
  by_cases hp : em_isT I p = true
  · rw [if_pos hp, if_pos hp]
    by_cases hw : xw_in w 0 2 = true
    · rw [if_pos hw, if_pos hw]
      rcases eq_tri hP hR hB hn h20 hg x with ⟨a1, a2⟩ | ⟨a1, a2, a3, a4, a5, a6⟩ | ⟨a1, a2, a3, a4, e, -, -, -, a5, a6⟩
      · rw [a1, if_neg (by decide), if_neg a2]
      · rw [a1, if_neg (by decide), if_pos a2, if_neg a3]
      · rw [a1, if_pos rfl, if_pos a2, if_pos a3, a4, eq_sta a6.1 (em_isT_in hp)]
    · rw [if_neg hw, if_neg hw]
  · rw [if_neg hp, if_neg hp]
theorem eq_don {B n : Nat} {g : Nat → Int32} {T A : Nat → Nat → Int32} {I : Nat → Int32} (hP : eq_P T A I) (hR : eq_R B A I) (hB : B + 2000 < 2 ^ 30) (hn : n ≤ 60) (h20 : I 20 = nI n) (hg : ∀ k, k < 60 → g k = A 10 k) (x : dk_S) : dj_don (dk_ret T g n) (dk_ply T g n x) = em_don A I n := by
  unfold dj_don em_don
  rcases eq_tri hP hR hB hn h20 hg x with ⟨a1, a2⟩ | ⟨a1, a2, a3, a4, a5, a6⟩ | ⟨a1, a2, a3, a4, e, -, a7, -, a5, a6⟩
  · rw [a1, if_neg (by decide), if_neg a2]
  · rw [a1, if_neg (by decide), if_pos a2, if_neg a3]
  · rw [a1, if_pos rfl, if_pos a2, if_pos a3, a4, a5, em_sumr_25, ← a7]
    unfold eq_I0
    rw [eq_gI_ne (by decide) (by decide) (by decide) (by decide) (by decide), va_up_ne _ _ (by decide)]
theorem eq_rfR {B n : Nat} {g : Nat → Int32} {T A : Nat → Nat → Int32} {I : Nat → Int32} (hP : eq_P T A I) (hR : eq_R B A I) (hB : B + 2000 < 2 ^ 30) (hn : n ≤ 60) (h20 : I 20 = nI n) (hg : ∀ k, k < 60 → g k = A 10 k) : em_rfR A I n = if dk_ret T g n = 0 then -6 else dk_ret T g n := by
  unfold em_rfR
  rcases eq_tri hP hR hB hn h20 hg (0, 0, (T, ds_z, (0, 1, 1), (0, 0, 0))) with ⟨a1, a2⟩ | ⟨a1, a2, a3, a4, a5, a6⟩ | ⟨a1, a2, a3, a4, e, -, a7, -, a5, a6⟩
  · rw [a1, if_neg a2, if_neg (by decide)]
  · rw [a1, if_pos a2, if_neg a3, if_neg (by decide)]
  · rw [a1, if_pos a2, if_pos a3, if_pos rfl]
theorem eq_daoC {A A' : Nat → Nat → Int32} {a b : Int32} (h1 : A' 11 = A 11) (h2 : A' 12 = A 12) (h3 : A' 13 = A 13) : ∀ k : Nat, em_dao A' a b k = em_dao A a b k := by
  intro k
  induction k with
  | zero => rfl
  | succ k ih => rw [em_dao, em_dao, ih, h1, h2, h3]
theorem eq_uhkC {A A' : Nat → Nat → Int32} {I I' : Nat → Int32} (h0 : A' 0 = A 0) (h1 : A' 11 = A 11) (h2 : A' 12 = A 12) (h3 : A' 13 = A 13) (h4 : A' 14 = A 14) (h13 : I' 13 = I 13) : ∀ k : Nat, em_uhk A' I' k = em_uhk A I k := by
  intro k
  induction k with
  | zero => rfl
  | succ k ih =>
    rw [em_uhk, em_uhk, ih]
    unfold em_uh1 em_uh2 em_uh3 em_odd
    rw [h0, h1, h2, h3, h4, h13]
theorem eq_rfG_r {A : Nat → Nat → Int32} {I : Nat → Int32} {n : Nat} (hl : (em_flt A I n).1 < 0) : (∀ j, j ≠ 4 → j ≠ 5 → j ≠ 6 → (em_rfG A I n).1 j = eq_A0 A I n j) ∧ (∀ s, s ≠ 14 → s ≠ 26 → s ≠ 27 → s ≠ 28 → s ≠ 29 → s ≠ 30 → (em_rfG A I n).2 s = eq_I0 A I n s) := by
  obtain ⟨k1, k2⟩ := eq_gs_keep 61 0 (eq_A0 A I n) (eq_I0 A I n)
  unfold em_rfG
  rw [if_pos hl]
  refine ⟨fun j h4 h5 h6 => ?_, fun s h1 h2 h3 h4 h5 h6 => ?_⟩
  · show em_pbk (em_sumr A I n).1 6 j = _
    unfold em_pbk
    rw [va_up_ne _ _ h6, va_up_ne _ _ h5, va_up_ne _ _ h4]
    exact k1 j h4 h5 h6
  · show va_up (em_sumr A I n).2 14 ((em_sumr A I n).2 34) s = _
    rw [va_up_ne _ _ h1]
    exact k2 s h1 h2 h3 h4 h5 h6
theorem eq_tik {f : Nat → Int32} {A : Nat → Nat → Int32} {e : Nat} (hf : ∀ a b, a < 6 → b < 6 → f (6 * a + b) = em_dao A (nI a) (nI b) e) : ∀ k : Nat, k ≤ 36 →
    ((ds_clo f k).1 = -1 ∧ (ds_clo f k).2 = 0 ∧ em_tik A e k = (-6, 0)) ∨ (∃ j : Nat, j < 36 ∧ ds_clo f k = (nI j, f j) ∧ em_tik A e k = (10 * nI (j / 6) + nI (j % 6), f j)) := by
  intro k
  induction k with
  | zero => intro _; exact .inl ⟨rfl, rfl, rfl⟩
  | succ k ih =>
    intro hk
    have ht : em_tid A e k = f k := by
      unfold em_tid
      rw [em_rem6 (j := k) (by omega), em_div6 (j := k) (by omega), ← hf (k / 6) (k % 6) (by omega) (by omega)]
      exact congrArg f (by omega)
    have hx : xb_at 36 f (nI k) = f k := xb_at_n (by omega) (by decide)
    have hnew : 10 * (nI k / 6) + (nI k - nI k / 6 * 6) = 10 * nI (k / 6) + nI (k % 6) := by rw [em_rem6 (j := k) (by omega), em_div6 (j := k) (by omega)]
    rw [ds_clo, em_tik, ht, hx, hnew]
    have hm : ∀ v : Int32, f k ≤ v → em_mst v (f k) = v := fun v hv => by
      unfold em_mst
      by_cases q : v ≤ f k
      · rw [if_pos q]; exact Int32.le_antisymm hv q
      · rw [if_neg q]
    have hm2 : ∀ v : Int32, ¬ f k ≤ v → em_mst v (f k) = f k := fun v hv => by
      unfold em_mst
      rw [if_pos (Int32.le_of_lt (Int32.not_le.mp hv))]
    rcases ih (by omega) with ⟨i1, i2, i3⟩ | ⟨j, hj, i1, i2⟩
    · rw [i2, i3]
      dsimp only
      by_cases c : f k ≤ 0
      · rw [if_pos c, if_pos c, hm 0 c]
        exact .inl ⟨i1, i2, rfl⟩
      · rw [if_neg c, if_neg c, hm2 0 c]
        exact .inr ⟨k, by omega, rfl, rfl⟩
    · rw [i1, i2]
      dsimp only
      by_cases c : f k ≤ f j
      · rw [if_pos c, if_pos c, hm _ c]
        exact .inr ⟨j, hj, rfl, rfl⟩
      · rw [if_neg c, if_neg c, hm2 _ c]
        exact .inr ⟨k, by omega, rfl, rfl⟩
theorem eq_tieA {B n : Nat} {g : Nat → Int32} {T A : Nat → Nat → Int32} {I : Nat → Int32} (hP : eq_P T A I) (hR : eq_R B A I) (hB : B + 2000 < 2 ^ 30) (hn : n ≤ 60) (h20 : I 20 = nI n) (hg : ∀ k, k < 60 → g k = A 10 k) (x : dk_S) {e : Nat} (he : (em_rfG A I n).2 25 = nI e) (he60 : e ≤ 60) (w : Int32) : dj_tie (dk_ret T g n) (dk_ply T g n x) w = em_tie A I n e w := by
  unfold dj_tie em_tie
  by_cases hw : xw_in w 0 1 = true
  · rw [if_pos hw, if_pos hw, eq_rfR hP hR hB hn h20 hg]
    rcases eq_tri hP hR hB hn h20 hg x with ⟨a1, a2⟩ | ⟨a1, a2, a3, a4, a5, a6⟩ | ⟨a1, a2, a3, a4, e2, b1, b2, b3, a5, a6⟩
    · rw [a1, if_neg (show ¬ (-5 : Int32) = 0 by decide), if_neg (show ¬ (-5 : Int32) = 0 by decide), if_neg (by decide)]
    · rw [a1, if_neg (show ¬ (-3 : Int32) = 0 by decide), if_neg (show ¬ (-3 : Int32) = 0 by decide), if_neg (by decide)]
    · obtain ⟨k1, k2⟩ := eq_rfG_r a2
      have ee : e = e2 := by
        have := k2 25 (by decide) (by decide) (by decide) (by decide) (by decide) (by decide)
        rw [he, b2] at this
        exact (nI_eq (by omega) (by omega)).mp this
      subst ee
      have hf : ∀ a b, a < 6 → b < 6 → (ds_sum T g n).2.2.2.1 (6 * a + b) = em_dao (em_rfG A I n).1 (nI a) (nI b) e := fun a b ha hb => by
        rw [eq_daoC (k1 11 (by decide) (by decide) (by decide)) (k1 12 (by decide) (by decide) (by decide)) (k1 13 (by decide) (by decide) (by decide))]
        exact a6.2.2.2.2.2.2.2.1 a b ha hb
      rw [a1, if_pos rfl, if_pos rfl, if_pos rfl, a4]
      generalize (ds_sum T g n).2.2.2.1 = f at *
      rcases eq_tik hf 36 (Nat.le_refl 36) with ⟨i1, i2, i3⟩ | ⟨j, hj, i1, i2⟩
      · rw [i1, i3, if_neg (by decide)]
        unfold em_tiw
        rw [if_pos (by decide)]
      · rw [i1, i2]
        have h0 : (0 : Int32) ≤ nI j := nI_pos' (by omega)
        have hv : 10 * nI (j / 6) + nI (j % 6) = nI (10 * (j / 6) + j % 6) := by rw [show 10 * nI (j / 6) = nI (10 * (j / 6)) from pk_mul 10 (j / 6), nI_add]
        have hc : nI j / 6 * 10 + xw_rem (nI j) 6 = 10 * nI (j / 6) + nI (j % 6) := by
          unfold xw_rem
          rw [em_rem6 (j := j) (by omega), em_div6 (j := j) (by omega), Int32.mul_comm]
        unfold em_tiw
        dsimp only
        have hng : ¬ (10 * nI (j / 6) + nI (j % 6) < 0) := by rw [hv]; exact nI_pos (by omega)
        rw [if_pos h0, if_neg hng, hc, xb_at_n hj (by decide)]
  · rw [if_neg hw, if_neg hw]
theorem eq_unh {B n : Nat} {g : Nat → Int32} {T A : Nat → Nat → Int32} {I : Nat → Int32} (hP : eq_P T A I) (hR : eq_R B A I) (hB : B + 2000 < 2 ^ 30) (hn : n ≤ 60) (h20 : I 20 = nI n) (hg : ∀ k, k < 60 → g k = A 10 k) (x : dk_S) {e : Nat} (he : (em_rfG A I n).2 25 = nI e) (he60 : e ≤ 60) (w : Int32) : dj_unh (dk_ret T g n) (dk_ply T g n x) w = em_unh A I n e w := by
  unfold dj_unh em_unh
  by_cases hw : xw_in w 0 1 = true
  · rw [if_pos hw, if_pos hw, eq_rfR hP hR hB hn h20 hg]
    rcases eq_tri hP hR hB hn h20 hg x with ⟨a1, a2⟩ | ⟨a1, a2, a3, a4, a5, a6⟩ | ⟨a1, a2, a3, a4, e2, b1, b2, b3, a5, a6⟩
    · rw [a1, if_neg (show ¬ (-5 : Int32) = 0 by decide), if_neg (show ¬ (-5 : Int32) = 0 by decide), if_neg (by decide)]
    · rw [a1, if_neg (show ¬ (-3 : Int32) = 0 by decide), if_neg (show ¬ (-3 : Int32) = 0 by decide), if_neg (by decide)]
    · obtain ⟨k1, k2⟩ := eq_rfG_r a2
      have ee : e = e2 := by
        have := k2 25 (by decide) (by decide) (by decide) (by decide) (by decide) (by decide)
        rw [he, b2] at this
        exact (nI_eq (by omega) (by omega)).mp this
      subst ee
      rw [a1, if_pos rfl, if_pos rfl, if_pos rfl, a4]
      rw [eq_uhkC (A := eq_A0 A I n) (I := eq_I0 A I n) (k1 0 (by decide) (by decide) (by decide)) (k1 11 (by decide) (by decide) (by decide)) (k1 12 (by decide) (by decide) (by decide)) (k1 13 (by decide) (by decide) (by decide)) (k1 14 (by decide) (by decide) (by decide)) (k2 13 (by decide) (by decide) (by decide) (by decide) (by decide) (by decide))]
      obtain ⟨c, c1, c2, c3, c4⟩ := a6.2.2.2.2.2.2.2.2
      generalize (ds_sum T g n).2.2.2.2.1 = L at *
      rw [c2]
      rcases Nat.lt_or_ge 15 c with q | q
      · have h1 : ¬ nI c ≤ 15 := fun z => absurd ((nI_leI (a := c) (b := 15) (by omega) (by decide)).mp z) (by omega)
        rw [if_neg h1, if_neg (Int32.not_le.mpr (c4 q))]
      · obtain ⟨d1, d2⟩ := c3 q
        have h1 : nI c ≤ 15 := nI_le (a := c) (b := 15) q (by decide)
        obtain ⟨m, v, n1, n2, n3, n4⟩ := em_uhk_N (eq_A0 A I n) (eq_I0 A I n) e
        rw [d1] at n2 n3 ⊢
        have em : m = c := ((nI_eq (a := c) (b := m) (by omega) (by omega)).mp n2).symm
        subst em
        dsimp only at n2 n3 ⊢
        rw [if_pos h1, if_pos h1, n3, d2, lN_tn (by have := (em_cl17 n1 n4).1; omega), xb_cl (by omega)]
        obtain ⟨p1, p2, p3⟩ := eq_p15 q n4
        exact eq_low p1 p2 p3 w
  · rw [if_neg hw, if_neg hw]
/-- what the reference's unhurt wants of its events -/
theorem eq_hev {n e : Nat} {g : Nat → Int32} {A : Nat → Nat → Int32} {I : Nat → Int32} (hn : n ≤ 60) (h20 : I 20 = nI n) (hg : ∀ k, k < 60 → g k = A 10 k) (he : (em_rfG A I n).2 25 = nI e) (he60 : e ≤ 60) : em_rfR A I n = -6 → ∀ k : Nat, k < e → ((em_rfG A I n).1 11 k = 42 → vp_in ((em_rfG A I n).1 12 k) 6) ∧ ((em_rfG A I n).1 11 k = 42 ∨ (em_rfG A I n).1 11 k = 43 → vp_in ((em_rfG A I n).1 13 k) 6) := by
  intro hr k hk
  obtain ⟨-, r2, r3, -, -⟩ := eq_flt hn h20 hg
  have hl : (em_flt A I n).1 < 0 := by
    unfold em_rfR at hr
    by_cases c : (em_flt A I n).1 < 0
    · exact c
    · rw [if_neg c] at hr; exact absurd hr (by decide)
  have hf : (em_flt A I n).1 = -6 := by
    rcases r2 with q | q
    · exact q
    · exact absurd hl (Int32.not_lt.mpr q)
  obtain ⟨e2, b1, b2, -, b3⟩ := r3 hf
  obtain ⟨k1, k2⟩ := eq_rfG_r hl
  have ee : e = e2 := by
    have := k2 25 (by decide) (by decide) (by decide) (by decide) (by decide) (by decide)
    rw [he] at this
    unfold eq_I0 at this
    rw [eq_gI_ne (by decide) (by decide) (by decide) (by decide) (by decide), va_up_ne _ _ (by decide), b2] at this
    exact (nI_eq (by omega) (by omega)).mp this
  subst ee
  have row : ∀ j, j < 15 → j ≠ 4 → j ≠ 5 → j ≠ 6 → (em_rfG A I n).1 j = (em_flt A I n).2.1 j := fun j h1 h2 h3 h4 => by
    rw [k1 j h2 h3 h4]; exact eq_kpk_o (by omega) (by omega) (by omega)
  rw [row 11 (by decide) (by decide) (by decide) (by decide), row 12 (by decide) (by decide) (by decide) (by decide), row 13 (by decide) (by decide) (by decide) (by decide)]
  rcases b3 k hk with ⟨v1, v2⟩ | ⟨v1, v2, v3, v4, v5, v6, v7, -⟩
  · rw [v2]
    exact ⟨fun q => absurd q (by decide), fun q => by rcases q with q | q <;> exact absurd q (by decide)⟩
  · exact ⟨fun _ => v6, fun _ => v7⟩
/-- the states behind -/
theorem eq_juO {g : Nat → Int32} {A : Nat → Nat → Int32} {I : Nat → Int32} {n : Nat} (hn : n ≤ 60) (h20 : I 20 = nI n) (hg : ∀ k, k < 60 → g k = A 10 k) (w : Int32) : eq_O (em_juG A I n w).1 (em_juG A I n w).2 A I := by
  unfold em_juG
  split
  · exact eq_rfGO hn h20 hg
  · exact eq_O.rf
theorem eq_beO {g : Nat → Int32} {A : Nat → Nat → Int32} {I : Nat → Int32} {n : Nat} (hn : n ≤ 60) (h20 : I 20 = nI n) (hg : ∀ k, k < 60 → g k = A 10 k) (p w : Int32) : eq_O (em_beG A I n p w).1 (em_beG A I n p w).2 A I := by
  unfold em_beG
  split
  · split
    · exact eq_rfGO hn h20 hg
    · exact eq_O.rf
  · exact eq_O.rf
theorem eq_tiO {g : Nat → Int32} {A : Nat → Nat → Int32} {I : Nat → Int32} {n : Nat} (hn : n ≤ 60) (h20 : I 20 = nI n) (hg : ∀ k, k < 60 → g k = A 10 k) (w : Int32) : eq_O (em_tiG A I n w).1 (em_tiG A I n w).2 A I := by
  unfold em_tiG
  split
  · exact eq_rfGO hn h20 hg
  · exact eq_O.rf
