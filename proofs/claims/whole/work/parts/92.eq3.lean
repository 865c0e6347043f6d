/-! who says enough -/
theorem eq_sbS {A : Nat → Nat → Int32} {I : Nat → Int32} {x : Int32} (k : Nat) : em_sbk A I x (k + 1) = if em_isT I (nI k) = true then (if A 3 k = 0 then (if em_one x < A 2 k / 2 then em_sbk A I x k else em_sbk A I x k ||| (1 <<< (nI k &&& 31))) else em_sbk A I x k) else em_sbk A I x k := by
  rw [em_sbk, em_sbj]
  by_cases h1 : em_isT I (nI k) = true
  · by_cases h2 : A 3 k = 0
    · by_cases h3 : em_one x < A 2 k / 2
      · simp only [h1, h2, h3, if_true]; exact Int32.or_zero
      · simp only [h1, h2, h3, if_true, if_false]; rw [if_neg (by decide)]
    · simp only [h1, h2, if_true, if_false]; exact Int32.or_zero
  · simp only [h1, if_false, if_true, Bool.false_eq_true]; exact Int32.or_zero
theorem eq_i6 {k : Nat} (hk : k < 6) : vp_in (nI k) 6 := vp_in_nI hk (by decide)
theorem eq_c6 {k : Nat} (hk : k < 6) : (nI k).toNatClampNeg = k := nI_clamp (by omega)
theorem eq_jrk {T A : Nat → Nat → Int32} {I : Nat → Int32} (hP : eq_P T A I) {x : Int32} (hx : em_6 x) : ∀ k : Nat, k ≤ 6 → dt_jrk T x k = em_sbk A I x k := by
  intro k
  induction k with
  | zero => intro _; rfl
  | succ k ih =>
    intro hk
    rw [eq_sbS, dt_jrk, ih (by omega), eq_isT hP, eq_a5 hP (eq_i6 (by omega)), eq_a4 hP (eq_i6 (by omega)), eq_c6 (by omega), em_one_bc hx]
def eq_F (A : Nat → Nat → Int32) (I : Nat → Int32) (x : Int32) : Int32 := em_sbk A I x 6
theorem eq_F6 {A : Nat → Nat → Int32} {I : Nat → Int32} {x : Int32} (h : em_6 x) : em_6 (eq_F A I x) := by
  obtain ⟨m, hm, e⟩ := h
  obtain ⟨m2, a1, a2, -⟩ := em_sbk_N (A := A) (I := I) e hm 6 (Nat.le_refl 6)
  exact ⟨m2, a1, a2⟩
theorem eq_sbk_or {A : Nat → Nat → Int32} {I : Nat → Int32} {x : Int32} : ∀ k : Nat, em_sbk A I x k ||| x = em_sbk A I x k := by
  intro k
  induction k with
  | zero => exact Int32.or_self
  | succ k ih =>
    rw [em_sbk, Int32.or_assoc, Int32.or_comm _ x, ← Int32.or_assoc, ih]
def eq_it (A : Nat → Nat → Int32) (I : Nat → Int32) : Nat → Int32 → Int32
  | 0, x => x
  | k + 1, x => eq_it A I k (eq_F A I x)
theorem eq_itS {A : Nat → Nat → Int32} {I : Nat → Int32} : ∀ (k : Nat) (x : Int32), eq_it A I (k + 1) x = eq_F A I (eq_it A I k x) := by
  intro k
  induction k with
  | zero => intro x; rfl
  | succ k ih => intro x; rw [eq_it, ih]; rfl
theorem eq_it6 {A : Nat → Nat → Int32} {I : Nat → Int32} : ∀ (k : Nat) (x : Int32), em_6 x → em_6 (eq_it A I k x) := by
  intro k
  induction k with
  | zero => intro x h; exact h
  | succ k ih => intro x h; exact ih _ (eq_F6 h)
theorem eq_jnk {T A : Nat → Nat → Int32} {I : Nat → Int32} (hP : eq_P T A I) {x : Int32} (hx : em_6 x) : ∀ k : Nat, dt_jnk T x k = eq_it A I k x := by
  intro k
  induction k with
  | zero => rfl
  | succ k ih => rw [dt_jnk, ih, eq_itS, eq_jrk hP (eq_it6 k x hx) 6 (Nat.le_refl 6)]; rfl
def eq_pc (m : Nat) : Nat := m % 2 + m / 2 % 2 + m / 4 % 2 + m / 8 % 2 + m / 16 % 2 + m / 32 % 2
theorem eq_pc_lt : ∀ m, m < 64 → ∀ m2, m2 < 64 → (nI m2 ||| nI m) = nI m2 → m = m2 ∨ eq_pc m < eq_pc m2 := by decide +kernel
theorem eq_pc_6 : ∀ m, m < 64 → eq_pc m ≤ 6 := by decide +kernel
theorem eq_it_c {A : Nat → Nat → Int32} {I : Nat → Int32} : ∀ (k : Nat) {x : Int32}, eq_F A I x = x → eq_it A I k x = x := by
  intro k
  induction k with
  | zero => intro x _; rfl
  | succ k ih => intro x h; rw [eq_it, h]; exact ih h
theorem eq_it_fix {A : Nat → Nat → Int32} {I : Nat → Int32} : ∀ (k m : Nat), m < 64 → 6 ≤ eq_pc m + k → eq_F A I (eq_it A I k (nI m)) = eq_it A I k (nI m) := by
  intro k
  induction k with
  | zero =>
    intro m hm h
    obtain ⟨m2, a1, a2, -⟩ := em_sbk_N (A := A) (I := I) (x := nI m) rfl hm 6 (Nat.le_refl 6)
    have h3 := eq_sbk_or (A := A) (I := I) (x := nI m) 6
    rw [a2] at h3
    show em_sbk A I (nI m) 6 = nI m
    rw [a2]
    rcases eq_pc_lt m hm m2 a1 h3 with q | q
    · rw [q]
    · have := eq_pc_6 m2 a1; omega
  | succ k ih =>
    intro m hm h
    obtain ⟨m2, a1, a2, -⟩ := em_sbk_N (A := A) (I := I) (x := nI m) rfl hm 6 (Nat.le_refl 6)
    have h3 := eq_sbk_or (A := A) (I := I) (x := nI m) 6
    rw [a2] at h3
    have hF : eq_F A I (nI m) = nI m2 := a2
    rw [eq_it, hF]
    rcases eq_pc_lt m hm m2 a1 h3 with q | q
    · subst q
      rw [eq_it_c k hF, hF]
    · exact ih m2 a1 (by omega)
theorem eq_sbr {A : Nat → Nat → Int32} {I : Nat → Int32} : ∀ (j n : Nat) (x : Int32), eq_F A I (eq_it A I j x) = eq_it A I j x → j ≤ n → em_sbr A I n x = eq_it A I j x := by
  intro j
  induction j with
  | zero =>
    intro n x h _
    cases n with
    | zero => rfl
    | succ n => rw [em_sbr, if_pos (show em_sbk A I x 6 = x from h)]; rfl
  | succ j ih =>
    intro n x h hn
    obtain ⟨n', rfl⟩ : ∃ n', n = n' + 1 := ⟨n - 1, by omega⟩
    rw [em_sbr]
    by_cases hf : em_sbk A I x 6 = x
    · rw [if_pos hf]
      exact (eq_it_c (j + 1) hf).symm
    · rw [if_neg hf]
      exact ih n' _ h (by omega)
theorem eq_joi {T A : Nat → Nat → Int32} {I : Nat → Int32} (hP : eq_P T A I) {x : Int32} (hx : em_6 x) : dt_joi T x = em_sbr A I 65 x := by
  unfold dt_joi
  rw [eq_jnk hP hx 6]
  obtain ⟨m, hm, e⟩ := hx
  subst e
  exact (eq_sbr 6 65 _ (eq_it_fix 6 m hm (by omega)) (by omega)).symm
theorem eq_mst {T A : Nat → Nat → Int32} {I : Nat → Int32} (hP : eq_P T A I) {x : Int32} (hx : em_6 x) : dt_mst T x = em_hld I x := by
  unfold dt_mst em_hld
  rw [eq_btu hP, em_one_bc hx, em_one_bc hP.1]
theorem eq_eno {T A : Nat → Nat → Int32} {I : Nat → Int32} (hP : eq_P T A I) (p : Int32) : dj_eno T p = em_eno A I p := by
  unfold dj_eno em_eno
  rw [eq_isT hP]
  by_cases h : em_isT I p = true
  · rw [if_pos h, if_pos h, eq_joi hP (em_sh6 (em_isT_no h))]
  · rw [if_neg h, if_neg h]
theorem eq_hol {T A : Nat → Nat → Int32} {I : Nat → Int32} (hP : eq_P T A I) (p : Int32) : dj_hol T p = em_hol A I p := by
  unfold dj_hol em_hol
  rw [eq_isT hP]
  by_cases h : em_isT I p = true
  · have h6 := em_sh6 (em_isT_no h)
    rw [if_pos h, if_pos h, eq_joi hP h6, eq_mst hP (em_sbr_6 65 _ h6)]
  · rw [if_neg h, if_neg h]
theorem eq_frk {T A : Nat → Nat → Int32} {I : Nat → Int32} (hP : eq_P T A I) : ∀ k : Nat, k ≤ 6 → dt_frk T k = em_wik A I k := by
  intro k
  induction k with
  | zero => intro _; rfl
  | succ k ih =>
    intro hk
    rw [em_wik, dt_frk, ih (by omega), eq_isT hP, eq_a5 hP (eq_i6 (by omega)), eq_c6 (by omega)]
    by_cases h1 : em_isT I (nI k) = true
    · by_cases h2 : A 3 k = 0
      · simp only [h1, h2, if_true]
      · simp only [h1, h2, if_true, if_false]; exact Int32.or_zero.symm
    · simp only [h1, if_false, Bool.false_eq_true]; exact Int32.or_zero.symm
theorem eq_fwk {T A : Nat → Nat → Int32} {I : Nat → Int32} (hP : eq_P T A I) (fr : Int32) : ∀ k : Nat, k ≤ 63 → em_6 (dt_fwk T fr k) ∧ em_wok A I fr k = if dt_fwk T fr k = 0 then -6 else dt_fwk T fr k := by
  intro k
  induction k with
  | zero => intro _; exact ⟨⟨0, by decide, rfl⟩, rfl⟩
  | succ k ih =>
    intro hk
    obtain ⟨h6, e⟩ := ih (by omega)
    have hk6 : em_6 (nI (k + 1)) := ⟨k + 1, by omega, rfl⟩
    have hk0 : ¬ nI (k + 1) = 0 := nI_ne0 (by omega) (by omega)
    rw [em_wok, em_wob, dt_fwk, dt_fwB, e, eq_joi hP hk6, eq_mst hP (em_sbr_6 65 _ hk6)]
    generalize dt_fwk T fr k = y at *
    have hy0 : (if y = 0 then (-6 : Int32) else y) < 0 ↔ y = 0 := by
      by_cases q : y = 0
      · simp [q]
      · rw [if_neg q]
        obtain ⟨m, hm, rfl⟩ := h6
        exact ⟨fun z => absurd z (nI_pos (by omega)), fun z => absurd z q⟩
    generalize nI (k + 1) &&& (fr ^^^ (-1)) = cc
    by_cases c1 : cc = 0
    · by_cases c2 : y = 0
      · by_cases c3 : em_hld I (em_sbr A I 65 (nI (k + 1))) = true
        · simp [c1, c2, c3, hk0, hk6]
        · simp [c1, c2, c3]; exact ⟨0, by decide, rfl⟩
      · have hone : em_one (if y = 0 then (-6 : Int32) else y) = xw_bc y := by rw [if_neg c2, em_one_bc h6]
        by_cases c4 : xw_bc y ≤ xw_bc (nI (k + 1))
        · have c4' : em_one y ≤ em_one (nI (k + 1)) := by rw [em_one_bc h6, em_one_bc hk6]; exact c4
          have c5 : ¬ y < 0 := fun z => c2 (by have := hy0.mp (by rw [if_neg c2]; exact z); exact this)
          simp [c1, c2, c4, c4', c5, h6]
        · have c4' : ¬ em_one y ≤ em_one (nI (k + 1)) := by rw [em_one_bc h6, em_one_bc hk6]; exact c4
          have c5 : ¬ y < 0 := fun z => c2 (by have := hy0.mp (by rw [if_neg c2]; exact z); exact this)
          by_cases c3 : em_hld I (em_sbr A I 65 (nI (k + 1))) = true
          · simp [c1, c2, c4, c4', c5, c3, hk0, hk6]
          · simp [c1, c2, c4, c4', c5, c3, h6]
    · simp [c1, h6]
theorem eq_w01 {w : Int32} (h : xw_in w 0 1 = true) : w = 0 ∨ w = 1 := by
  obtain ⟨e, -, h3⟩ := xw_inN (a := 0) (c := 1) h (by decide) (by decide)
  rcases (show w.toNatClampNeg = 0 ∨ w.toNatClampNeg = 1 by omega) with q | q
  · exact .inl (by rw [e, q]; rfl)
  · exact .inr (by rw [e, q]; rfl)
theorem eq_won {T A : Nat → Nat → Int32} {I : Nat → Int32} (hP : eq_P T A I) (w : Int32) : dj_won T w = em_won A I w := by
  unfold dj_won em_won dt_few
  rw [eq_frk hP 6 (Nat.le_refl 6)]
  obtain ⟨h6, e⟩ := eq_fwk hP (em_wik A I 6) 63 (Nat.le_refl 63)
  rw [e]
  by_cases hw : xw_in w 0 1 = true
  · rw [if_pos hw, if_pos hw]
    generalize dt_fwk T (em_wik A I 6) 63 = y at *
    by_cases h0 : y = 0
    · rw [if_pos h0, if_pos h0, if_pos (by decide)]
    · rw [if_neg h0, if_neg h0]
      have h1 : ¬ y < 0 := by obtain ⟨m, hm, rfl⟩ := h6; exact nI_pos (by omega)
      rw [if_neg h1]
      rcases eq_w01 hw with rfl | rfl
      · rw [if_pos rfl, if_neg (by decide), em_one_bc h6]
      · rw [if_neg (by decide), if_pos rfl]
  · rw [if_neg hw, if_neg hw]
/-! whom to dare so that he refuses, how proud -/
theorem eq_rfd {T A : Nat → Nat → Int32} {I : Nat → Int32} (hP : eq_P T A I) (p y : Int32) {k : Nat} (hk : k < 6) : dj_rfd T p y k = em_rfd A I p y k := by
  unfold dj_rfd em_rfd dt_wou
  rw [eq_isT hP]
  by_cases h1 : em_isT I (nI k) = true
  · rw [eq_a8 hP (eq_i6 hk), eq_a6 hP (eq_i6 hk), eq_dit hP (eq_i6 hk), eq_c6 hk]
    by_cases h2 : nI k = p
    · subst h2; simp only [h1, if_true]
    · by_cases h3 : A 6 k = 0
      · by_cases h4 : y ≤ A 4 k
        · simp [h1, h2, h3, h4]
        · simp [h1, h2, h3, h4]
      · simp [h1, h2, h3]
  · simp [h1]
theorem eq_rfs {T A : Nat → Nat → Int32} {I : Nat → Int32} (hP : eq_P T A I) (p y : Int32) : dj_rfs T p y = em_rfs A I p y := by
  unfold dj_rfs em_rfs
  rw [eq_roh hP, eq_firstC (d' := em_rfd A I p y) 6 0 (fun j _ h2 => eq_rfd hP p y (by omega))]
  by_cases hp : em_isT I p = true
  · by_cases hx : xw_in y 1 15 = true
    · simp only [hp, hx, if_true]
    · simp [hp, hx]
  · simp [hp]
theorem eq_lkk {T A : Nat → Nat → Int32} {I : Nat → Int32} (hP : eq_P T A I) {p : Int32} (hp : vp_in p 6) (y : Int32) : ∀ k : Nat, dj_lkk T p y k = em_lkk A I p y k := by
  intro k
  induction k with
  | zero => rfl
  | succ k ih =>
    rw [dj_lkk, em_lkk, ih, eq_drs hP hp]
    by_cases h : em_dsb A I p (nI k) y = true
    · rw [if_pos h, if_pos h]
    · rw [if_neg h, if_neg h]; exact (Int32.add_zero _).symm
theorem eq_lik {T A : Nat → Nat → Int32} {I : Nat → Int32} (hP : eq_P T A I) (p y : Int32) : dj_lik T p y = em_lik A I p y := by
  unfold dj_lik em_lik
  rw [eq_roh hP]
  by_cases hp : em_isT I p = true
  · rw [eq_lkk hP (em_isT_in hp)]
    by_cases hx : xw_in y 1 15 = true
    · simp only [hp, hx, if_true]
    · simp [hp, hx]
  · simp [hp]
theorem eq_allS (d : Nat → Bool) : ∀ (n k : Nat), xw_all d (n + 1) k = (xw_all d n k && d (k + n)) := by
  intro n
  induction n with
  | zero => intro k; rw [xw_all, xw_all, xw_all, Nat.add_zero]; cases d k <;> rfl
  | succ n ih =>
    intro k
    rw [xw_all, ih, xw_all, show k + 1 + n = k + (n + 1) by omega]
    cases d k <;> simp
theorem eq_hal {T A : Nat → Nat → Int32} {I : Nat → Int32} (hP : eq_P T A I) {p : Int32} (hp : vp_in p 6) (q : Int32) : ∀ n : Nat, n ≤ 6 → (∀ k, k < n → A 9 k = 0 ∨ A 9 k = 1) → xw_all (dt_fit T p q) n 0 = em_hal A I p q n := by
  intro n
  induction n with
  | zero => intro _ _; rfl
  | succ n ih =>
    intro hn h9
    have i1 := ih (by omega) (fun k hk => h9 k (by omega))
    rw [eq_allS, Nat.zero_add, i1]
    have i6 := eq_i6 (k := n) (by omega)
    have ef : dt_fit T p q n = if A 7 n = p then decide (xb_i (em_dsb A I p q (A 8 n)) = (if A 9 n = 1 then 1 else 0)) else true := by
      unfold dt_fit
      have e9 : xb_at 6 (T 9) (nI n) = A 7 n := (eq_at hP 7 (by decide) i6).trans (by rw [eq_c6 (by omega)])
      have e10 : xb_at 6 (T 10) (nI n) = A 8 n := (eq_at hP 8 (by decide) i6).trans (by rw [eq_c6 (by omega)])
      have e11 : xb_at 6 (T 11) (nI n) = A 9 n := (eq_at hP 9 (by decide) i6).trans (by rw [eq_c6 (by omega)])
      rw [e9, e10, e11, eq_drs hP hp]
    rw [ef]
    unfold em_hal
    rw [em_hak]
    have h01 := em_hak_01 (A := A) (I := I) (p := p) (q := q) n
    have hn9 := h9 n (by omega)
    generalize em_hak A I p q n = z at *
    generalize A 9 n = v at *
    generalize em_dsb A I p q (A 8 n) = bb
    by_cases c : A 7 n = p
    · rcases h01 with rfl | rfl <;> rcases hn9 with rfl | rfl <;> cases bb <;> simp [c, xb_i]
    · rcases h01 with rfl | rfl <;> simp [c]
theorem eq_prk {T A : Nat → Nat → Int32} {I : Nat → Int32} (hP : eq_P T A I) {p : Int32} (hp : vp_in p 6) {ns : Nat} (hn : ns ≤ 6) (h9 : ∀ k, k < ns → A 9 k = 0 ∨ A 9 k = 1) : ∀ k : Nat, dj_prk T p ns k = em_prk A I p ns k := by
  intro k
  induction k with
  | zero => rfl
  | succ k ih => rw [dj_prk, em_prk, ih, eq_hal hP hp (nI k) ns hn h9]
theorem eq_pri {T A : Nat → Nat → Int32} {I : Nat → Int32} (hP : eq_P T A I) {ns : Nat} (hn : ns ≤ 6) (h9 : ∀ k, k < ns → A 9 k = 0 ∨ A 9 k = 1) (p w : Int32) : dj_pri T p w ns = em_pri A I p w ns := by
  unfold dj_pri em_pri
  rw [eq_isT hP]
  by_cases hp : em_isT I p = true
  · rw [eq_prk hP (em_isT_in hp) hn h9]
  · simp only [hp, if_false, Bool.false_eq_true]
theorem eq_tolR {T A : Nat → Nat → Int32} {I : Nat → Int32} (hP : eq_P T A I) {x : Int32} (h : xw_in x 2 8 = true) : xb_at 7 (T 0) (x - 2) = em_tol I (x - 2) := by
  obtain ⟨e, h2, h3⟩ := xw_inN (a := 2) (c := 8) h (by decide) (by decide)
  generalize x.toNatClampNeg = m at *
  subst e
  rw [show nI m - 2 = nI (m - 2) from pk_sub (b := 2) h2, eq_rule hP (m - 2) (by omega)]
  rcases (show m = 2 ∨ m = 3 ∨ m = 4 ∨ m = 5 ∨ m = 6 ∨ m = 7 ∨ m = 8 by omega) with rfl | rfl | rfl | rfl | rfl | rfl | rfl <;> rfl
theorem eq_tra {T A : Nat → Nat → Int32} {I : Nat → Int32} (hP : eq_P T A I) (p k : Int32) : dj_tra T p k = em_tlp A I p k := by
  unfold dj_tra em_tlp
  rw [eq_isT hP]
  by_cases hp : em_isT I p = true
  · have hv := em_isT_in hp
    rw [eq_a2 hP hv, eq_a3 hP hv, eq_a4 hP hv, eq_a5 hP hv]
  · simp only [hp, if_false, Bool.false_eq_true]
theorem eq_tll {T A : Nat → Nat → Int32} {I : Nat → Int32} (hP : eq_P T A I) {n : Int32} (hn : n = I 20) (x : Int32) : dj_tol T n x = em_tll A I x := by
  unfold dj_tol em_tll
  rw [eq_btu hP, hP.2.2.2.2, eq_tra hP, hn]
  by_cases c : xw_in x 10 69 = true
  · obtain ⟨e, h2, h3⟩ := xw_inN (a := 10) (c := 69) c (by decide) (by decide)
    have hne : ∀ j : Nat, j < 10 → ¬ x = nI j := fun j hj z => by
      have := (nI_eq (a := x.toNatClampNeg) (b := j) (by omega) (by omega)).mp (e.symm.trans z); omega
    have h28 : ¬ xw_in x 2 8 = true := fun z => by
      obtain ⟨-, -, z3⟩ := xw_inN (a := 2) (c := 8) z (by decide) (by decide); omega
    have h10 : (10 : Int32) ≤ x := by rw [e]; exact nI_le (a := 10) h2 (by omega)
    rw [if_neg (show ¬ x = 0 from hne 0 (by decide)), if_neg (show ¬ x = 1 from hne 1 (by decide)), if_neg h28, if_neg (show ¬ x = 9 from hne 9 (by decide)), if_pos h10, if_pos c]
  · rw [if_neg c]
    by_cases c2 : xw_in x 2 8 = true
    · obtain ⟨e, h2, h3⟩ := xw_inN (a := 2) (c := 8) c2 (by decide) (by decide)
      have hne : ∀ j : Nat, j < 2 → ¬ x = nI j := fun j hj z => by
        have := (nI_eq (a := x.toNatClampNeg) (b := j) (by omega) (by omega)).mp (e.symm.trans z); omega
      rw [if_neg (show ¬ x = 0 from hne 0 (by decide)), if_neg (show ¬ x = 1 from hne 1 (by decide)), if_pos c2, if_pos c2, eq_tolR hP c2]
    · rw [if_neg c2, if_neg c2]
      by_cases c0 : x = 0
      · rw [if_pos c0, if_pos c0]
      · rw [if_neg c0, if_neg c0]
        by_cases c1 : x = 1
        · rw [if_pos c1, if_pos c1]
        · rw [if_neg c1, if_neg c1]
          by_cases c9 : x = 9
          · rw [if_pos c9, if_pos c9]
          · rw [if_neg c9, if_neg c9]
            by_cases h10 : (10 : Int32) ≤ x
            · rw [if_pos h10]
              obtain ⟨j, hj, rfl⟩ := nI_of (x := x) (fun z => Int32.lt_irrefl (Int32.lt_of_lt_of_le z (Int32.le_trans (show (0 : Int32) ≤ 10 by decide) h10)))
              have hj10 : 10 ≤ j := (nI_leI (a := 10) (b := j) (by decide) hj).mp h10
              have hj70 : 70 ≤ j := by
                rcases Nat.lt_or_ge j 70 with q | q
                · exact absurd (by unfold xw_in; simp [show ¬ nI j < 10 from nI_nlt (a := j) (b := 10) hj10 hj, show ¬ (69 : Int32) < nI j from nI_nlt (a := 69) (b := j) (by omega) (by decide)]) c
                · exact q
              have hn1 : nI j / 10 - 1 = nI (j / 10 - 1) := by
                rw [show nI j / 10 = nI (j / 10) from pk_div (d := 10) hj (by decide) (by decide)]
                exact pk_sub (b := 1) (by omega)
              unfold em_tlp
              rw [if_neg]
              intro z
              have hv := eq_vinN (em_isT_in z)
              rw [hn1, nI_clamp (by omega)] at hv
              omega
            · rw [if_neg h10]
