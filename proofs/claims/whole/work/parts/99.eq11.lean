/-! each call, side by side: the answers are one, and all is alike behind it -/
theorem eq_All.set {B B' nn : Nat} {T T' TF TS : Nat → Nat → Int32} {g : Nat → Int32} {fk sk : Int32} {A A' : Nat → Nat → Int32} {I I' : Nat → Int32} (h : eq_All B nn T TF TS g fk sk A I) (hP : eq_P T' A' I') (hR : eq_R B' A' I') (hB : B ≤ B') (h10 : A' 10 = A 10) (h21 : A' 21 = A 21) (h22 : A' 22 = A 22) (h20 : I' 20 = I 20) : eq_All B' nn T' TF TS g fk sk A' I' := by
  obtain ⟨-, -, h3, h4, h5, h6, h7, h8, h9⟩ := h
  exact ⟨hP, hR, h3, by rw [h20]; exact h4, by rw [h10]; exact h5, by rw [h22]; exact h6, by rw [h22]; exact h7, by rw [h22, h21]; exact fun q => (h8 q).mono hB, by rw [h22, h21]; exact fun q => (h9 q).mono hB⟩
section LA
variable {B nn : Nat} {T TF TS : Nat → Nat → Int32} {g : Nat → Int32} {fk sk : Int32} {A : Nat → Nat → Int32} {I : Nat → Int32}
theorem la_same (h : eq_All B nn T TF TS g fk sk A I) : eq_All (B + 2000) nn T TF TS g fk sk A I := h.mono (by omega)
theorem la_person (h : eq_All B nn T TF TS g fk sk A I) (p s f q w : Int32) : eq_All (B + 2000) nn (dj_perT T p s f q w) TF TS g fk sk (em_perT A I p s f q w) (em_perI I p s f q) :=
  h.set (eq_per h.1 p s f q w).1 ((eq_perQ h.2.1 p s f q w).mono (by omega)) (by omega) (eq_per_o _ _ _ _ _ (by decide)) (eq_per_o _ _ _ _ _ (by decide)) (eq_per_o _ _ _ _ _ (by decide)) (eq_perI_o _ _ _ _ (by decide))
theorem la_leave (h : eq_All B nn T TF TS g fk sk A I) (p : Int32) : eq_All (B + 2000) nn (dj_leaT T p) TF TS g fk sk A (em_leaI I p) :=
  h.set (eq_lea h.1 p).1 (h.2.1.mono (by omega) |>.to (eq_leaI_o p (by decide)) (eq_leaI_o p (by decide)) (eq_leaI_o p (by decide)) (eq_leaI_o p (by decide)) (eq_leaI_o p (by decide)) h.2.1.2.2.2.2.2.1 (h.2.1.mono (C := B + 2000) (by omega)).2.2.2.2.2.2.1 h.2.1.2.2.2.2.2.2.2) (by omega) rfl rfl rfl (eq_leaI_o p (by decide))
theorem la_set (h : eq_All B nn T TF TS g fk sk A I) (k v : Int32) : eq_All (B + 2000) nn (dj_setT T k v) TF TS g fk sk A (em_setI I k v) :=
  h.set (eq_set h.1 h.2.1 k v).1 ((eq_set h.1 h.2.1 k v).2.1.mono (by omega)) (by omega) rfl rfl rfl (eq_setI_o k v (by decide))
theorem la_say (h : eq_All B nn T TF TS g fk sk A I) (x : Int32) : ∃ n' : Nat, dj_sayN (nI nn) x = nI n' ∧ eq_All (B + 2000) n' T TF TS (dj_sayF (nI nn) x g) fk sk (em_sayA A I x) (em_sayI I x) := by
  obtain ⟨h1, h2, h3, h4, h5, h6, h7, h8, h9⟩ := h
  obtain ⟨-, n', n1, n2, n3, n4⟩ := eq_say h3 h4 h5 x
  have o : ∀ j, j ≠ 10 → em_sayA A I x j = A j := fun j hj => eq_sayA_o x hj
  have hsame : eq_Isame (em_sayI I x) I := ⟨eq_sayI_o x (by decide), fun k hk => eq_sayI_o x (by omega), eq_sayI_o x (by decide)⟩
  exact ⟨n', n2, h1.congr (fun j k hj _ => by rw [o j (by omega)]) hsame, (h2.congr (fun j k hj _ => by rw [o j (by omega)]) hsame).mono (by omega), n1, n3, n4, by rw [o 22 (by decide)]; exact h6, by rw [o 22 (by decide)]; exact h7, by rw [o 22 (by decide), o 21 (by decide)]; exact fun q => (h8 q).mono (by omega), by rw [o 22 (by decide), o 21 (by decide)]; exact fun q => (h9 q).mono (by omega)⟩
theorem la_wipe (h : eq_All B nn T TF TS g fk sk A I) : eq_All (B + 2000) 0 T TF TS g fk sk A (va_up I 20 0) := by
  obtain ⟨h1, h2, h3, h4, h5, h6, h7, h8, h9⟩ := h
  have hsame : eq_Isame (va_up I 20 0) I := ⟨va_up_ne _ _ (by decide), fun k hk => va_up_ne _ _ (by omega), va_up_ne _ _ (by decide)⟩
  exact ⟨h1.congr (fun _ _ _ _ => rfl) hsame, (h2.congr (fun _ _ _ _ => rfl) hsame).mono (by omega), by omega, va_up_self .., h5, h6, h7, fun q => (h8 q).mono (by omega), fun q => (h9 q).mono (by omega)⟩
theorem la_O {A' : Nat → Nat → Int32} {I' : Nat → Int32} (h : eq_All B nn T TF TS g fk sk A I) (hO : eq_O A' I' A I) : eq_All (B + 2000) nn T TF TS g fk sk A' I' := (h.O hO).mono (by omega)
theorem la_fault (h : eq_All B nn T TF TS g fk sk A I) : eq_All (B + 2000) nn T TF TS g fk sk (em_flt A I nn).2.1 (em_flt A I nn).2.2 := la_O h (eq_fltO h.2.2.1 h.2.2.2.1 h.2.2.2.2.1)
theorem la_judge (h : eq_All B nn T TF TS g fk sk A I) (w : Int32) : eq_All (B + 2000) nn T TF TS g fk sk (em_juG A I nn w).1 (em_juG A I nn w).2 := la_O h (eq_juO h.2.2.1 h.2.2.2.1 h.2.2.2.2.1 w)
theorem la_behind (h : eq_All B nn T TF TS g fk sk A I) (p w : Int32) : eq_All (B + 2000) nn T TF TS g fk sk (em_beG A I nn p w).1 (em_beG A I nn p w).2 := la_O h (eq_beO h.2.2.1 h.2.2.2.1 h.2.2.2.2.1 p w)
theorem la_ties (h : eq_All B nn T TF TS g fk sk A I) (w : Int32) : eq_All (B + 2000) nn T TF TS g fk sk (em_tiG A I nn w).1 (em_tiG A I nn w).2 := la_O h (eq_tiO h.2.2.1 h.2.2.2.1 h.2.2.2.2.1 w)
theorem la_done (h : eq_All B nn T TF TS g fk sk A I) (hB : B + 2000 < 2 ^ 30) (x : dk_S) : ∃ n' : Nat, dj_donN (nI nn) (dk_ret T g nn) = nI n' ∧ eq_All (B + 2000) n' (dj_donT T (dk_ret T g nn) (dk_ply T g nn x)) TF TS g fk sk (em_dnG A I nn).1 (em_dnG A I nn).2 := by
  have h0 := h
  obtain ⟨h1, h2, h3, h4, h5, h6, h7, h8, h9⟩ := h
  unfold dj_donN dj_donT em_dnG
  rcases eq_tri h1 h2 hB h3 h4 h5 x with ⟨a1, a2⟩ | ⟨a1, a2, a3, a4, a5, a6⟩ | ⟨a1, a2, a3, a4, e, -, -, -, a5, a6⟩
  · rw [a1, if_neg (by decide), if_neg (by decide), if_neg a2]
    exact ⟨nn, rfl, la_fault h0⟩
  · rw [a1, if_neg (by decide), if_neg (by decide), if_pos a2, if_neg a3]
    exact ⟨nn, rfl, la_O h0 (eq_sumrO h3 h4 h5)⟩
  · rw [a1, if_pos rfl, if_pos rfl, if_pos a2, if_pos a3, a4]
    obtain ⟨-, -, -, r4, r5⟩ := eq_flt h3 h4 h5
    obtain ⟨s1, s2, s3, s4, -⟩ := a6
    have row : ∀ j, (j = 10 ∨ j = 21 ∨ j = 22) → (em_sumr A I nn).1 j = A j := fun j hj => by
      rw [s3 j (by omega) (by omega) (by omega)]
      unfold eq_A0
      rw [eq_kpk_o (by omega) (by omega) (by omega)]
      exact r4 j (by omega)
    have hsame : eq_Isame (va_up (em_sumr A I nn).2 20 0) (em_sumr A I nn).2 := ⟨va_up_ne _ _ (by decide), fun k hk => va_up_ne _ _ (by omega), va_up_ne _ _ (by decide)⟩
    exact ⟨0, rfl, s1.congr (fun _ _ _ _ => rfl) hsame, (s2.congr (fun _ _ _ _ => rfl) hsame).mono (by omega), by omega, (show va_up (em_sumr A I nn).2 20 0 20 = nI 0 from va_up_self ..), by rw [row 10 (by omega)]; exact h5, by rw [row 22 (by omega)]; exact h6, by rw [row 22 (by omega)]; exact h7, by rw [row 22 (by omega), row 21 (by omega)]; exact fun q => (h8 q).mono (by omega), by rw [row 22 (by omega), row 21 (by omega)]; exact fun q => (h9 q).mono (by omega)⟩
theorem eq_cIO (x : em_C) : eq_O A (em_cI I x) A I := by
  have o : ∀ s, s ≠ 35 → s ≠ 36 → s ≠ 37 → em_cI I x s = I s := fun s q1 q2 q3 => by
    unfold em_cI
    rw [va_up_ne _ _ q3, va_up_ne _ _ q2, va_up_ne _ _ q1]
  exact ⟨fun _ _ _ _ => rfl, rfl, rfl, rfl, ⟨o 0 (by decide) (by decide) (by decide), fun k hk => o (8 + k) (by omega) (by omega) (by omega), o 18 (by decide) (by decide) (by decide)⟩, o 20 (by decide) (by decide) (by decide)⟩
theorem la_climb (h : eq_All B nn T TF TS g fk sk A I) (p q y z w hi : Int32) (st : Nat) : eq_All (B + 2000) nn T TF TS g fk sk A (em_cwI A I p q y z w hi st) := by
  unfold em_cwI
  split
  · split
    · split
      · exact la_O h (eq_cIO _)
      · exact la_same h
    · exact la_same h
  · exact la_same h
theorem la_law (h : eq_All B nn T TF TS g fk sk A I) (p q y a b : Int32) (st : Nat) : eq_All (B + 2000) nn T TF TS g fk sk A (em_lwI A I p q y a b st) := by
  unfold em_lwI
  split
  · exact la_O h (eq_cIO _)
  · exact la_same h
theorem eq_fgr_r {p q : Int32} {lm st : Nat} {j : Nat} (h1 : j ≠ 18) (h2 : j ≠ 19) (h3 : j ≠ 20) : ∀ (k : Nat) (C : Nat → Nat → Int32), em_fgr I p q lm st k C j = C j := by
  intro k
  induction k with
  | zero => intro C; rfl
  | succ k ih =>
    intro C
    rw [em_fgr, ih, eq_fg_r h1 h2 h3, eq_fg_r h1 h2 h3]
theorem la_game (h : eq_All B nn T TF TS g fk sk A I) (p q y z w : Int32) (st : Nat) : eq_All (B + 2000) nn T TF TS g fk sk (em_gaA A I p q y z w st) I := by
  unfold em_gaA
  split
  · have r : ∀ j, (j < 11 ∨ j = 21 ∨ j = 22) → em_fgr I p q z.toNatClampNeg st z.toNatClampNeg A j = A j := fun j hj => eq_fgr_r (by omega) (by omega) (by omega) _ _
    exact la_O h ⟨fun j k hj _ => by rw [r j (by omega)], r 10 (by omega), r 21 (by omega), r 22 (by omega), ⟨rfl, fun _ _ => rfl, rfl⟩, rfl⟩
  · exact la_same h
theorem la_seen (h : eq_All B nn T TF TS g fk sk A I) (p y d : Int32) : eq_All (B + 2000) nn (dj_seeT T p y d) TF TS g fk sk (em_seA A I p y d) (em_seI I p y d) :=
  h.set (eq_see h.1 h.2.1 p y d).1 ((eq_see h.1 h.2.1 p y d).2.1.mono (by omega)) (by omega) (eq_seA_o p y d (by decide)) (eq_seA_o p y d (by decide)) (eq_seA_o p y d (by decide)) (eq_seI_o p y d (by decide))
theorem la_forget (h : eq_All B nn T TF TS g fk sk A I) : eq_All (B + 2000) nn (va_up T 12 (fun _ => 0)) TF TS g fk sk A (va_up I 18 0) :=
  h.set (h.1.sights 0) ((eq_forR h.2.1).mono (by omega)) (by omega) rfl rfl rfl (va_up_ne _ _ (by decide))
theorem la_year (h : eq_All B nn T TF TS g fk sk A I) (hB : B + 2000 < 2 ^ 30) (s n w : Int32) : eq_All (B + 2000) nn T TF TS g fk sk (em_yeG A I s n w).1 (em_yeG A I s n w).2 := la_O h (eq_yeO h.1 h.2.1 hB s n w)
theorem la_image (h : eq_All B nn T TF TS g fk sk A I) (x : Int32) : eq_All (B + 2000) nn T (dj_imT T TF x 0) (dj_imT T TS x 1) g (dj_imF x fk) (dj_imS x sk) (em_imG A I x).1 (em_imG A I x).2 := (eq_img h x).mono (by omega)
theorem la_restore (h : eq_All B nn T TF TS g fk sk A I) (x : Int32) : eq_All (B + 2000) nn (dj_rsT T TF TS x fk sk) TF TS g fk sk (em_rsG A I x).1 (em_rsG A I x).2 := (eq_rst h x).1.mono (by omega)
theorem la_step (h : eq_All B nn T TF TS g fk sk A I) : ∃ st : Nat, 1 ≤ st ∧ st ≤ 9 ∧ I 8 = nI st ∧ xb_at 7 (T 0) 0 = nI st := by
  obtain ⟨x, x1, x2, x3⟩ := h.2.1.1
  exact ⟨x, x1, x2, x3, (eq_r0 h.1).trans x3⟩
theorem la_ns (h : eq_All B nn T TF TS g fk sk A I) : ∃ ns : Nat, ns ≤ 6 ∧ I 18 = nI ns ∧ T 12 0 = nI ns ∧ (∀ k, k < ns → A 9 k = 0 ∨ A 9 k = 1) := by
  obtain ⟨x, x1, x2⟩ := h.2.1.2.2.2.2.1
  exact ⟨x, x1, x2, h.1.2.2.2.2.trans x2, fun k hk => h.2.1.2.2.2.2.2.2.2 k (by omega)⟩
end LA
/-- a new class and a new reference -/
theorem la_new : eq_All 0 0 (fun j => if j = 0 then xg_f0 else (fun _ => 0)) (fun j => if j = 0 then xg_f0 else (fun _ => 0)) (fun j => if j = 0 then xg_f0 else (fun _ => 0)) (fun _ => 0) 0 0 (fun _ => (fun _ => 0)) (fun k => if k = 8 then 2 else if k = 9 then 3 else if k = 10 then 20 else if k = 11 then 1 else if k = 12 then 6 else if k = 14 then 1 else 0) := by
  refine ⟨⟨⟨0, by decide, rfl⟩, fun k hk => ?_, fun k hk => ?_, fun j k hj hk => ?_, rfl⟩, ⟨⟨2, by decide, by decide, rfl⟩, ⟨3, by decide, rfl⟩, ⟨1, by decide, rfl⟩, ⟨1, by decide, rfl⟩, ⟨0, by decide, rfl⟩, fun k _ => ⟨0, by decide, rfl⟩, fun k _ => ⟨(show -((0 : Nat) : Int) ≤ (0 : Int32).toInt by decide), (show (0 : Int32).toInt ≤ ((0 : Nat) : Int) by decide)⟩, fun k _ => .inl rfl⟩, by decide, rfl, fun k _ => rfl, rfl, rfl, fun q => absurd rfl q, fun q => absurd rfl q⟩
  · rcases (show k = 0 ∨ k = 1 ∨ k = 2 ∨ k = 3 ∨ k = 4 ∨ k = 5 by omega) with q | q | q | q | q | q <;> subst q <;> rfl
  · rcases (show k = 0 ∨ k = 1 ∨ k = 2 ∨ k = 3 ∨ k = 4 ∨ k = 5 ∨ k = 6 by omega) with q | q | q | q | q | q | q <;> subst q <;> rfl
  · show (if 2 + j = 0 then xg_f0 else (fun _ => 0)) k = (fun _ => 0) k
    rw [if_neg (by omega)]
