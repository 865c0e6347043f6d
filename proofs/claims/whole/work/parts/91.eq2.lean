/-! climbs, where they stop, how safe they are; the law -/
theorem eq_cuk_end {A : Nat → Nat → Int32} {I : Nat → Int32} {f s : Int32} {lm st : Nat} : ∀ (n h : Nat) (d dn la re : Int32) (u : Int64), 0 ≤ re → em_cuk A I f s lm st n h d dn la re u = (dn, la, re, u) := by
  intro n
  cases n with
  | zero => intros; rfl
  | succ n =>
    intro h d dn la re u hr
    rw [em_cuk]
    by_cases h1 : lm < h
    · rw [if_pos h1]
    · rw [if_neg h1, if_pos hr]
theorem eq_nn {d : Int32} (h : vp_in d 6) : 0 ≤ d := Int32.not_lt.mp (fun q => h (.inl q))
theorem eq_clk {T A : Nat → Nat → Int32} {I : Nat → Int32} (hP : eq_P T A I) {f s : Int32} (hf : vp_in f 6) (hs : vp_in s 6) {lm st : Nat} (hst : 1 ≤ st) : ∀ (n x : Nat) (d dn la : Int32) (u : Int64) (m : Nat), vp_in d 6 → dn = nI m →
    ∃ m' : Nat, m' ≤ m + (lm + 1 - x) ∧ (em_cuk A I f s lm st n x d dn la (-6) u).1 = nI m' ∧ dc_clk T f s lm st n x d dn la u (em_tns m) = ((em_cuk A I f s lm st n x d dn la (-6) u).1, (em_cuk A I f s lm st n x d dn la (-6) u).2.1, (em_cuk A I f s lm st n x d dn la (-6) u).2.2.1, (em_cuk A I f s lm st n x d dn la (-6) u).2.2.2, em_tns m') := by
  intro n
  induction n with
  | zero => intro x d dn la u m hd hm; exact ⟨m, by omega, hm, rfl⟩
  | succ n ih =>
    intro x d dn la u m hd hm
    rw [em_cuk, dc_clk]
    by_cases h1 : lm < x
    · rw [if_pos h1, if_pos h1]; exact ⟨m, by omega, hm, rfl⟩
    · rw [if_neg h1, if_neg h1, if_neg (show ¬ (0 : Int32) ≤ -6 by decide), eq_dit hP hd]
      by_cases h2 : em_dit A I d (nI x) = true
      · rw [if_pos h2, if_pos h2, eq_odd hP hd]
        obtain ⟨m', a1, a2, a3⟩ := ih (x + st) (if d = s then f else s) (dn + 1) (nI x) (u * (10 - em_odd A I d (nI x)).toInt64) (m + 1) (by split <;> assumption) (by rw [hm]; exact nI_1 m)
        exact ⟨m', by omega, a2, a3⟩
      · rw [if_neg h2, if_neg h2, eq_cuk_end n (x + st) d dn (nI x) d u (eq_nn hd)]
        exact ⟨m, by omega, hm, rfl⟩
theorem eq_clm {T A : Nat → Nat → Int32} {I : Nat → Int32} (hP : eq_P T A I) {f s : Int32} (hf : vp_in f 6) (hs : vp_in s 6) {hh lm st : Nat} (hst : 1 ≤ st) (h1 : 1 ≤ hh) (h2 : lm ≤ 15) :
    ∃ m v : Nat, m ≤ 15 ∧ v ≤ 10 ^ m ∧ (em_clu A I f s hh lm st).1 = nI m ∧ (em_clu A I f s hh lm st).2.2.2 = lN v ∧ dc_clm T f s hh lm st = (nI m, (em_clu A I f s hh lm st).2.1, (em_clu A I f s hh lm st).2.2.1, lN v, lN (10 ^ m)) := by
  obtain ⟨m', a1, a2, a3⟩ := eq_clk hP hf hs (lm := lm) (st := st) hst 16 hh s 0 (nI hh) 1 0 hs rfl
  obtain ⟨m, v, b1, b2, b3, b4⟩ := em_clu_N A I f s hh lm st
  have e : m' = m := (nI_eq (a := m') (b := m) (by omega) (by omega)).mp (a2.symm.trans b2)
  subst e
  refine ⟨m', v, by omega, b4, b2, b3, ?_⟩
  unfold dc_clm
  rw [show (1 : Int64) = em_tns 0 from rfl]
  rw [show dc_clk T f s lm st 16 hh s 0 (nI hh) (em_tns 0) (em_tns 0) = _ from a3]
  rw [← em_tns_N m', ← b3, ← b2]
  rfl
theorem eq_modh {b c : Nat} (h0 : 0 < c) (h : c < b) : 2 * (b % c) < b := by
  by_cases h1 : 2 * c ≤ b
  · have := Nat.mod_lt b h0; omega
  · have e : b % c = b - c := by rw [Nat.mod_eq_sub_mod (by omega), Nat.mod_eq_of_lt (by omega)]
    omega
theorem eq_gc : ∀ (k n a b : Nat), 2 * k ≤ n → b < 2 ^ k → a < 2 ^ 60 → b < 2 ^ 60 → xw_gc n (lN a) (lN b) = lN (Nat.gcd a b) := by
  intro k
  induction k with
  | zero =>
    intro n a b _ hb _ _
    have e : b = 0 := by simpa using hb
    subst e
    rw [Nat.gcd_zero_right]
    cases n with
    | zero => rfl
    | succ n => rw [xw_gc, if_pos (show lN 0 = 0 from rfl)]
  | succ k ih =>
    intro n a b hn hb ha hb2
    obtain ⟨n', rfl⟩ : ∃ n', n = n' + 2 := ⟨n - 2, by omega⟩
    by_cases h0 : b = 0
    · subst h0
      rw [Nat.gcd_zero_right, xw_gc, if_pos (show lN 0 = 0 from rfl)]
    · have hz : ∀ y : Nat, 0 < y → y < 2 ^ 60 → ¬ lN y = 0 := fun y h1 h2 q => by have := (pk_lEQ (a := y) (b := 0) (by omega) (by decide)).mp q; omega
      rw [xw_gc, if_neg (hz b (by omega) hb2), pk_lRem (by omega) (by omega) (by omega)]
      have hg : Nat.gcd a b = Nat.gcd (a % b) b := by rw [Nat.gcd_comm, Nat.gcd_rec]
      have hlt : a % b < b := Nat.mod_lt _ (by omega)
      by_cases hc : a % b = 0
      · rw [hg, hc, Nat.gcd_zero_left, xw_gc, if_pos (show lN 0 = 0 from rfl)]
      · rw [xw_gc, if_neg (hz (a % b) (by omega) (by omega)), pk_lRem (by omega) (by omega) (by omega)]
        have hm := eq_modh (b := b) (c := a % b) (by omega) hlt
        rw [Nat.pow_succ] at hb
        rw [ih n' (a % b) (b % (a % b)) (by omega) (by omega) (by omega) (by omega), hg, Nat.gcd_rec (a % b) b, Nat.gcd_comm]
theorem eq_low {u l : Nat} (hul : u ≤ l) (h0 : 0 < l) (hl : l < 2 ^ 50) (x : Int32) : dc_low (lN u) (lN l) x = em_low u l x := by
  unfold dc_low em_low
  have hg : 0 < Nat.gcd l u := Nat.gcd_pos_of_pos_left _ h0
  have hgl : Nat.gcd l u ≤ l := Nat.gcd_le_left _ h0
  rw [eq_gc 50 100 l u (by omega) (by omega) (by omega) (by omega)]
  rw [if_neg (fun q => by have := (pk_lEQ (a := Nat.gcd l u) (b := 0) (by omega) (by decide)).mp q; omega)]
  by_cases hx : x = 0
  · rw [if_pos hx, if_pos hx]; exact pk_lDiv (by omega) hg (by omega)
  · rw [if_neg hx, if_neg hx]; exact pk_lDiv (by omega) hg (by omega)
theorem eq_p15 {m v : Nat} (hm : m ≤ 15) (hv : v ≤ 10 ^ m) : v ≤ 10 ^ m ∧ 0 < 10 ^ m ∧ 10 ^ m < 2 ^ 50 := by
  have h1 : 10 ^ m ≤ 10 ^ 15 := Nat.pow_le_pow_right (by decide) hm
  have h2 : (10 : Nat) ^ 15 < 2 ^ 50 := by decide
  exact ⟨hv, Nat.pow_pos (by decide), by omega⟩
theorem eq_roc {T A : Nat → Nat → Int32} {I : Nat → Int32} (hP : eq_P T A I) (p q x l : Int32) : dj_roc T p q x l = if em_two I p q = true then (if em_isC x l = true then 0 else -2) else -1 := by
  unfold dj_roc em_two em_isC
  rw [eq_isT hP, eq_isT hP]
  by_cases h1 : em_isT I p = true <;> by_cases h2 : em_isT I q = true <;> by_cases h3 : p = q <;> by_cases h4 : xw_in l 1 15 = true <;> by_cases h5 : xw_in x 1 l = true <;> simp [h1, h2, h3, h4, h5]
theorem eq_cli {T A : Nat → Nat → Int32} {I : Nat → Int32} (hP : eq_P T A I) {st : Nat} (hst : 1 ≤ st) (p q x l w : Int32) : dj_cli T p q x l w st = em_cli A I p q x l w st := by
  unfold dj_cli em_cli
  rw [eq_roc hP]
  by_cases h1 : em_two I p q = true
  · by_cases h2 : em_isC x l = true
    · obtain ⟨a1, a2, -⟩ := em_two_N h1
      obtain ⟨-, -, b3, b4, b5⟩ := em_isC_N h2
      obtain ⟨m, v, c1, c2, c3, c4, c5⟩ := eq_clm hP a1 a2 (hh := x.toNatClampNeg) (lm := l.toNatClampNeg) hst b3 b5
      have e : dj_clm T p q x l st = _ := c5
      rw [if_pos h1, if_pos h2, if_pos rfl, if_pos h1, if_pos h2, e, ← c3]
      rfl
    · rw [if_pos h1, if_neg h2, if_pos h1, if_neg h2, if_neg (by decide)]
  · rw [if_neg h1, if_neg h1, if_neg (by decide)]
theorem eq_saf {T A : Nat → Nat → Int32} {I : Nat → Int32} (hP : eq_P T A I) {st : Nat} (hst : 1 ≤ st) (p q x l w : Int32) : dj_saf T p q x l w st = em_saf A I p q x l w st := by
  unfold dj_saf em_saf
  rw [eq_roc hP]
  by_cases h1 : em_two I p q = true
  · by_cases h2 : em_isC x l = true
    · obtain ⟨a1, a2, -⟩ := em_two_N h1
      obtain ⟨-, -, b3, b4, b5⟩ := em_isC_N h2
      obtain ⟨m, v, c1, c2, c3, c4, c5⟩ := eq_clm hP a1 a2 (hh := x.toNatClampNeg) (lm := l.toNatClampNeg) hst b3 b5
      have e : dj_clm T p q x l st = _ := c5
      obtain ⟨d1, d2, d3⟩ := eq_p15 c1 c2
      rw [if_pos h1, if_pos h2, if_pos rfl, if_pos h1, if_pos h2, e]
      unfold em_cwv
      rw [c3, c4, lN_tn (by omega), xb_cl (by omega)]
      by_cases hw : xw_in w 0 1 = true
      · rw [if_pos hw, if_pos hw]
        exact eq_low d1 d2 d3 w
      · rw [if_neg hw, if_neg hw]
    · rw [if_pos h1, if_neg h2, if_pos h1, if_neg h2, if_neg (by decide)]; decide
  · rw [if_neg h1, if_neg h1, if_neg (by decide)]; decide
theorem eq_lwB {T A : Nat → Nat → Int32} {I : Nat → Int32} (hP : eq_P T A I) {st : Nat} (hst : 1 ≤ st) {p q : Int32} (hp : vp_in p 6) (hq : vp_in q 6) {hh l : Nat} (h1 : 1 ≤ hh) (h2 : l ≤ 15) (a b : Int32) : dj_lwB T p q hh l st a b = em_lwB A I p q hh l st a b := by
  obtain ⟨m, v, c1, c2, c3, c4, c5⟩ := eq_clm hP hp hq (hh := hh) (lm := l) hst h1 h2
  unfold dj_lwB em_lwB
  rw [c5, c4, c3, xb_cl (by omega), em_tns_N]
theorem eq_lwkS {A : Nat → Nat → Int32} {I : Nat → Int32} {p q : Int32} {hh st : Nat} {a b : Int32} : ∀ (n l : Nat) (r : Int32), em_lwk A I p q hh st a b (n + 1) l r = if em_lwB A I p q hh (l + n) st a b = true then nI (l + n) else em_lwk A I p q hh st a b n l r := by
  intro n
  induction n with
  | zero => intro l r; rfl
  | succ n ih =>
    intro l r
    rw [em_lwk, ih, show l + 1 + n = l + (n + 1) by omega]
    rfl
theorem eq_lwk {T A : Nat → Nat → Int32} {I : Nat → Int32} (hP : eq_P T A I) {st : Nat} (hst : 1 ≤ st) {p q : Int32} (hp : vp_in p 6) (hq : vp_in q 6) {hh : Nat} (h1 : 1 ≤ hh) (a b : Int32) : ∀ n : Nat, hh + n ≤ 16 → dj_lwk T p q hh st a b n = em_lwk A I p q hh st a b n hh (-6) := by
  intro n
  induction n with
  | zero => intro _; rfl
  | succ n ih =>
    intro hn
    rw [eq_lwkS, dj_lwk, eq_lwB hP hst hp hq h1 (by omega), ih (by omega)]
theorem eq_law {T A : Nat → Nat → Int32} {I : Nat → Int32} (hP : eq_P T A I) {st : Nat} (hst : 1 ≤ st) (p q x a b : Int32) : dj_law T p q x a b st = em_law A I p q x a b st := by
  unfold dj_law em_law
  rw [eq_roc hP, show em_isC x 15 = xw_in x 1 15 from rfl]
  by_cases h1 : em_two I p q = true
  · by_cases h2 : xw_in x 1 15 = true
    · obtain ⟨a1, a2, -⟩ := em_two_N h1
      obtain ⟨-, b2, b3⟩ := xw_inN (a := 1) (c := 15) h2 (by decide) (by decide)
      rw [if_pos h1, if_pos h2, if_pos rfl, if_pos h1, if_pos h2, eq_lwk hP hst a1 a2 b2 a b _ (by omega)]
    · rw [if_pos h1, if_neg h2, if_pos h1, if_neg h2, if_neg (by decide)]
  · rw [if_neg h1, if_neg h1, if_neg (by decide)]
/-! the game -/
theorem eq_fg_o {A : Nat → Nat → Int32} {I : Nat → Int32} {p q : Int32} {lm st h sd : Nat} {j i : Nat} (hi : i ≠ 2 * h + sd) : em_fg1 A I p q lm st h sd j i = A j i := by
  unfold em_fg1 em_plA va_up upd
  by_cases h1 : j = 20
  · subst h1; simp [hi]
  · by_cases h2 : j = 19
    · subst h2; simp [hi]
    · by_cases h3 : j = 18
      · subst h3; simp [hi]
      · simp [h1, h2, h3]
theorem eq_fg_r {A : Nat → Nat → Int32} {I : Nat → Int32} {p q : Int32} {lm st h sd : Nat} {j : Nat} (h1 : j ≠ 18) (h2 : j ≠ 19) (h3 : j ≠ 20) : em_fg1 A I p q lm st h sd j = A j := by
  unfold em_fg1 em_plA
  rw [va_up_ne _ _ h3, va_up_ne _ _ h2, va_up_ne _ _ h1]
def eq_gv (A : Nat → Nat → Int32) (I : Nat → Int32) (p q : Int32) (h sd : Nat) (t5 t6 : Int32) : dg_R := (em_pl0 A I (if sd = 0 then p else q) (if sd = 0 then q else p) (nI h) t5 t6, em_pl1 A I (if sd = 0 then p else q) (if sd = 0 then q else p) (nI h) t5 t6, em_pl2 A I (if sd = 0 then p else q) (if sd = 0 then q else p) (nI h) t5 t6)
def eq_gt (A : Nat → Nat → Int32) (i : Nat) : dg_R := (A 18 i, A 19 i, A 20 i)
theorem eq_fg_s {A : Nat → Nat → Int32} {I : Nat → Int32} {p q : Int32} {lm st h sd : Nat} : eq_gt (em_fg1 A I p q lm st h sd) (2 * h + sd) = eq_gv A I p q h sd (em_fgv A lm st h sd 20) (em_fgv A lm st h sd 19) := by
  unfold eq_gt eq_gv em_fg1 em_plA
  simp only [va_up_self, va_up_ne, ne_eq, Nat.reduceEqDiff, not_false_eq_true, upd, if_true]
theorem eq_gvC {A A0 : Nat → Nat → Int32} {I : Nat → Int32} {p q : Int32} {h sd : Nat} {t5 t6 : Int32} (h0 : A 0 = A0 0) (h1 : A 1 = A0 1) (h2 : A 2 = A0 2) : eq_gv A I p q h sd t5 t6 = eq_gv A0 I p q h sd t5 t6 := by
  unfold eq_gv em_pl2 em_pl1 em_pl0 em_plB em_plG em_plD em_plR em_plQ em_dnb em_odd
  rw [h0, h1, h2]
def eq_gE (A0 : Nat → Nat → Int32) (I : Nat → Int32) (p q : Int32) (lm st k : Nat) (A : Nat → Nat → Int32) : Prop :=
  A 0 = A0 0 ∧ A 1 = A0 1 ∧ A 2 = A0 2 ∧ ∀ h sd, k < h → h ≤ lm → sd < 2 → eq_gt A (2 * h + sd) = eq_gv A0 I p q h sd (em_fgv A lm st h sd 20) (em_fgv A lm st h sd 19)
theorem eq_fgvC {A A' : Nat → Nat → Int32} {lm st h sd j : Nat} (hst : 1 ≤ st) (hsd : sd < 2) (hA : ∀ i, 2 * h + 1 < i → A' j i = A j i) : em_fgv A' lm st h sd j = em_fgv A lm st h sd j := by
  unfold em_fgv
  by_cases h1 : lm < h + st
  · rw [if_pos h1, if_pos h1]
  · rw [if_neg h1, if_neg h1]; exact hA _ (by omega)
theorem eq_gtC {A A' : Nat → Nat → Int32} {i : Nat} (h : ∀ j, A' j i = A j i) : eq_gt A' i = eq_gt A i := by
  unfold eq_gt
  rw [h, h, h]
theorem eq_gstep {A0 A : Nat → Nat → Int32} {I : Nat → Int32} {p q : Int32} {lm st k : Nat} (hst : 1 ≤ st) (hE : eq_gE A0 I p q lm st (k + 1) A) : eq_gE A0 I p q lm st k (em_fg1 (em_fg1 A I p q lm st (k + 1) 0) I p q lm st (k + 1) 1) := by
  obtain ⟨e0, e1, e2, hE⟩ := hE
  have f0 : (em_fg1 A I p q lm st (k + 1) 0) 0 = A0 0 := (eq_fg_r (by decide) (by decide) (by decide)).trans e0
  have f1 : (em_fg1 A I p q lm st (k + 1) 0) 1 = A0 1 := (eq_fg_r (by decide) (by decide) (by decide)).trans e1
  have f2 : (em_fg1 A I p q lm st (k + 1) 0) 2 = A0 2 := (eq_fg_r (by decide) (by decide) (by decide)).trans e2
  refine ⟨(eq_fg_r (by decide) (by decide) (by decide)).trans f0, (eq_fg_r (by decide) (by decide) (by decide)).trans f1, (eq_fg_r (by decide) (by decide) (by decide)).trans f2, ?_⟩
  intro h sd hk hl hsd
  have hfar : ∀ j i, 2 * (k + 1) + 1 < i → em_fg1 (em_fg1 A I p q lm st (k + 1) 0) I p q lm st (k + 1) 1 j i = A j i := fun j i hi => by rw [eq_fg_o (by omega), eq_fg_o (by omega)]
  rw [eq_fgvC hst hsd (A := A) (fun i hi => hfar 20 i (by omega)), eq_fgvC hst hsd (A := A) (fun i hi => hfar 19 i (by omega))]
  rcases Nat.lt_or_ge (k + 1) h with c | c
  · rw [eq_gtC (A := A) (fun j => hfar j _ (by omega))]
    exact hE h sd c hl hsd
  · have ek : h = k + 1 := by omega
    subst ek
    rcases (show sd = 0 ∨ sd = 1 by omega) with c0 | c1
    · subst c0
      rw [eq_gtC (A := em_fg1 A I p q lm st (k + 1) 0) (fun j => eq_fg_o (by omega)), eq_fg_s, eq_gvC e0 e1 e2]
    · subst c1
      rw [eq_fg_s, eq_gvC f0 f1 f2, eq_fgvC hst (by decide) (A := A) (fun i hi => eq_fg_o (by omega)), eq_fgvC hst (by decide) (A := A) (fun i hi => eq_fg_o (by omega))]
theorem eq_gall {A0 : Nat → Nat → Int32} {I : Nat → Int32} {p q : Int32} {lm st : Nat} (hst : 1 ≤ st) : ∀ (k : Nat) (A : Nat → Nat → Int32), eq_gE A0 I p q lm st k A → eq_gE A0 I p q lm st 0 (em_fgr I p q lm st k A) := by
  intro k
  induction k with
  | zero => intro A h; exact h
  | succ k ih => intro A h; rw [em_fgr]; exact ih _ (eq_gstep hst h)
theorem eq_gset {T A : Nat → Nat → Int32} {I : Nat → Int32} (hP : eq_P T A I) {a b : Int32} (ha : vp_in a 6) (hb : vp_in b 6) (h : Int32) (x : dg_R) : dg_set T a b h x = (em_pl0 A I b a h x.2.2 x.2.1, em_pl1 A I b a h x.2.2 x.2.1, em_pl2 A I b a h x.2.2 x.2.1) := by
  unfold dg_set em_pl2 em_pl1 em_pl0 em_plB em_plG em_plD em_plR em_plQ
  dsimp only
  rw [eq_prd hP ha, eq_prd hP hb, eq_wdn hP hb, eq_wdn hP ha]
  generalize em_dnb A I b (A 2 b.toNatClampNeg) h + x.2.2 = dtd
  generalize dt_wrf h (A 2 b.toNatClampNeg) = rtd
  generalize em_dnb A I a (A 2 a.toNatClampNeg) h + x.2.1 = mtd
  generalize (-10) * A 2 a.toNatClampNeg * h = umt
  generalize 5 * A 2 b.toNatClampNeg * h = fq
  by_cases c1 : mtd < umt
  · simp only [c1, if_true]
    by_cases c2 : dtd < rtd
    · simp only [c2, if_true]
      by_cases c3 : rtd < fq <;> simp [c3]
    · simp only [c2, if_false]
      by_cases c3 : dtd < fq <;> by_cases c4 : rtd < fq <;> simp [c3, c4]
  · simp only [c1, if_false]
    by_cases c2 : dtd < rtd
    · simp only [c2, if_true]
      by_cases c3 : rtd < dtd <;> simp [c3]
    · simp only [c2, if_false]
      have c5 : ¬ dtd < dtd := fun z => Int32.lt_irrefl z
      simp [c5]
def eq_gG (Tb : Nat → Nat → Int32) (lm hN st j : Nat) : dg_R := if lm < hN + j * st then (0, 0, 0) else eq_gt Tb (2 * (hN + j * st) + (1 - j % 2))
theorem eq_gstp {T A Tb : Nat → Nat → Int32} {I : Nat → Int32} (hP : eq_P T A I) {p q : Int32} (hp : vp_in p 6) (hq : vp_in q 6) {lm hN st : Nat} (hst : 1 ≤ st) (hst9 : st ≤ 9) (hh : 1 ≤ hN) (hh15 : hN ≤ 15) (hlm : lm ≤ 15) (hE : eq_gE A I p q lm st 0 Tb) {j : Nat} (hj : j < 16) : dg_stp T p q (nI hN) (nI lm) (nI st) (j + 1) (eq_gG Tb lm hN st (j + 1)) = eq_gG Tb lm hN st j := by
  have e1 : nI (j + 1) - 1 = nI j := nI_pred j
  have e2 : nI hN + nI j * nI st = nI (hN + j * st) := by rw [pk_mul, nI_add]
  have hb : j * st ≤ 15 * 9 := Nat.mul_le_mul (by omega) hst9
  have e3 : xw_rem (nI j) 2 = nI (j % 2) := pk_rem (d := 2) (by omega) (by decide) (by decide)
  unfold dg_stp
  rw [e1, e2, e3]
  by_cases c : lm < hN + j * st
  · rw [if_pos ((nI_ltI (by omega) (by omega)).mpr c)]
    have c2 : lm < hN + (j + 1) * st := by rw [Nat.succ_mul]; omega
    unfold eq_gG
    rw [if_pos c, if_pos c2]
  · rw [if_neg (fun z => c ((nI_ltI (by omega) (by omega)).mp z))]
    have hx5 : (eq_gG Tb lm hN st (j + 1)).2.2 = em_fgv Tb lm st (hN + j * st) (1 - j % 2) 20 := by
      unfold eq_gG em_fgv
      rw [show hN + (j + 1) * st = hN + j * st + st by rw [Nat.succ_mul]; omega]
      by_cases d : lm < hN + j * st + st
      · rw [if_pos d, if_pos d]
      · rw [if_neg d, if_neg d]
        show Tb 20 _ = Tb 20 _
        rw [show 2 * (hN + j * st + st) + (1 - (j + 1) % 2) = 2 * (hN + j * st + st) + 1 - (1 - j % 2) by omega]
    have hx6 : (eq_gG Tb lm hN st (j + 1)).2.1 = em_fgv Tb lm st (hN + j * st) (1 - j % 2) 19 := by
      unfold eq_gG em_fgv
      rw [show hN + (j + 1) * st = hN + j * st + st by rw [Nat.succ_mul]; omega]
      by_cases d : lm < hN + j * st + st
      · rw [if_pos d, if_pos d]
      · rw [if_neg d, if_neg d]
        show Tb 19 _ = Tb 19 _
        rw [show 2 * (hN + j * st + st) + (1 - (j + 1) % 2) = 2 * (hN + j * st + st) + 1 - (1 - j % 2) by omega]
    have hG : eq_gG Tb lm hN st j = eq_gv A I p q (hN + j * st) (1 - j % 2) (em_fgv Tb lm st (hN + j * st) (1 - j % 2) 20) (em_fgv Tb lm st (hN + j * st) (1 - j % 2) 19) := by
      unfold eq_gG
      rw [if_neg c]
      exact hE.2.2.2 _ _ (by omega) (by omega) (by omega)
    rw [hG, ← hx5, ← hx6]
    rcases (show j % 2 = 0 ∨ j % 2 = 1 by omega) with d | d
    · rw [d]
      rw [show (if (if nI 0 = 0 then (1 : Int32) else 0) = 0 then q else p) = p from rfl, show (if (if nI 0 = 0 then (1 : Int32) else 0) = 0 then p else q) = q from rfl]
      exact eq_gset hP hp hq _ _
    · rw [d]
      rw [show (if (if nI 1 = 0 then (1 : Int32) else 0) = 0 then q else p) = q from rfl, show (if (if nI 1 = 0 then (1 : Int32) else 0) = 0 then p else q) = p from rfl]
      exact eq_gset hP hq hp _ _
theorem eq_grun {T A Tb : Nat → Nat → Int32} {I : Nat → Int32} (hP : eq_P T A I) {p q : Int32} (hp : vp_in p 6) (hq : vp_in q 6) {lm hN st : Nat} (hst : 1 ≤ st) (hst9 : st ≤ 9) (hh : 1 ≤ hN) (hh15 : hN ≤ 15) (hlm : lm ≤ 15) (hE : eq_gE A I p q lm st 0 Tb) : ∀ k : Nat, k ≤ 16 → dg_run T p q (nI hN) (nI lm) (nI st) k (eq_gG Tb lm hN st k) = eq_gG Tb lm hN st 0 := by
  intro k
  induction k with
  | zero => intro _; rfl
  | succ k ih =>
    intro hk
    rw [dg_run, eq_gstp hP hp hq hst hst9 hh hh15 hlm hE (by omega)]
    exact ih (by omega)
theorem eq_gam {T A : Nat → Nat → Int32} {I : Nat → Int32} (hP : eq_P T A I) {st : Nat} (hst : 1 ≤ st) (hst9 : st ≤ 9) (p q x l w : Int32) : dj_gam T p q x l w st = em_gam A I p q x l w st := by
  unfold dj_gam em_gam
  rw [eq_roc hP]
  by_cases h1 : em_two I p q = true
  · by_cases h2 : em_isC x l = true
    · obtain ⟨a1, a2, -⟩ := em_two_N h1
      obtain ⟨b1, b2, b3, b4, b5⟩ := em_isC_N h2
      have hE := eq_gall (A0 := A) (I := I) (p := p) (q := q) (lm := l.toNatClampNeg) hst l.toNatClampNeg A ⟨rfl, rfl, rfl, fun h sd c1 c2 => absurd c1 (by omega)⟩
      have hr := eq_grun hP a1 a2 hst hst9 b3 (by omega) b5 hE 16 (Nat.le_refl 16)
      have e16 : eq_gG (em_fgr I p q l.toNatClampNeg st l.toNatClampNeg A) l.toNatClampNeg x.toNatClampNeg st 16 = (0, 0, 0) := if_pos (by omega)
      have e0 : eq_gG (em_fgr I p q l.toNatClampNeg st l.toNatClampNeg A) l.toNatClampNeg x.toNatClampNeg st 0 = eq_gt (em_fgr I p q l.toNatClampNeg st l.toNatClampNeg A) (2 * x.toNatClampNeg + 1) := by
        unfold eq_gG
        rw [Nat.zero_mul, Nat.add_zero, if_neg (by omega)]
      rw [e16, e0, ← b1, ← b2] at hr
      have e : dj_gmr T p q x l st = _ := hr
      rw [if_pos h1, if_pos h2, if_pos rfl, if_pos h1, if_pos h2, e]
      unfold eq_gt
      by_cases w0 : w = 0
      · subst w0; simp
      · by_cases w1 : w = 1
        · subst w1; simp
        · simp only [w0, w1, if_false]
    · rw [if_pos h1, if_neg h2, if_pos h1, if_neg h2, if_neg (by decide)]
  · rw [if_neg h1, if_neg h1, if_neg (by decide)]
