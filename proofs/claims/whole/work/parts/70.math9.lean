/-! the reference's climbs and games, as it reckons -/
theorem xb_nite (P : Prop) [Decidable P] (x y : Int32) : (if (!decide P) = true then x else y) = if P then y else x := by
  by_cases h : P <;> simp [h]
theorem em_two_N {I : Nat → Int32} {p q : Int32} (h : em_two I p q = true) : vp_in p 6 ∧ vp_in q 6 ∧ p ≠ q := by
  unfold em_two at h
  by_cases h1 : em_isT I p = true
  · by_cases h2 : em_isT I q = true
    · rw [if_pos h1, if_pos h2] at h
      refine ⟨em_isT_in h1, em_isT_in h2, fun e => ?_⟩
      rw [e] at h; simp at h
    · rw [if_pos h1, if_neg h2] at h; exact absurd h (by decide)
  · rw [if_neg h1] at h; exact absurd h (by decide)
theorem em_isC_N {h l : Int32} (hc : em_isC h l = true) : h = nI h.toNatClampNeg ∧ l = nI l.toNatClampNeg ∧ 1 ≤ h.toNatClampNeg ∧ h.toNatClampNeg ≤ l.toNatClampNeg ∧ l.toNatClampNeg ≤ 15 := by
  unfold em_isC at hc
  by_cases h4 : xw_in l 1 15 = true
  · rw [if_pos h4] at hc
    obtain ⟨a1, a2, a3⟩ := xw_inN (a := 1) (c := 15) h4 (by decide) (by decide)
    rw [a1] at hc
    obtain ⟨b1, b2, b3⟩ := xw_inN (a := 1) (c := l.toNatClampNeg) hc (by decide) (by omega)
    exact ⟨b1, a1, b2, b3, a3⟩
  · rw [if_neg h4] at hc; exact absurd hc (by decide)
theorem em_odd_N (A : Nat → Nat → Int32) (I : Nat → Int32) (p h : Int32) : ∃ j : Nat, j ≤ 10 ∧ em_odd A I p h = nI j := by
  unfold em_odd
  generalize (h + 5 * I 13 - A 0 p.toNatClampNeg) / 2 = x
  by_cases h0 : 0 ≤ x
  · rw [if_pos h0]
    by_cases h1 : x ≤ 10
    · rw [if_pos h1]
      obtain ⟨j, hj, rfl⟩ := nI_of (x := x) (by rw [Int32.lt_iff_toInt_lt]; rw [Int32.le_iff_toInt_le] at h0; omega)
      exact ⟨j, (nI_leI (a := j) (b := 10) hj (by decide)).mp h1, rfl⟩
    · rw [if_neg h1]; exact ⟨10, by omega, rfl⟩
  · rw [if_neg h0]; exact ⟨0, by omega, rfl⟩
theorem em_ten_l : ∀ j : Nat, j ≤ 10 → (10 - nI j : Int32).toInt64 = lN (10 - j) := by decide +kernel
theorem em_cuk_N {A : Nat → Nat → Int32} {I : Nat → Int32} {f s : Int32} {lm st : Nat} : ∀ (n h : Nat) (d dn la re : Int32) (u : Int64) (m v : Nat), dn = nI m → u = lN v → v ≤ 10 ^ m → ∃ m' v', m' ≤ m + n ∧ (em_cuk A I f s lm st n h d dn la re u).1 = nI m' ∧ (em_cuk A I f s lm st n h d dn la re u).2.2.2 = lN v' ∧ v' ≤ 10 ^ m' := by
  intro n
  induction n with
  | zero => intro h d dn la re u m v h1 h2 h3; exact ⟨m, v, by omega, h1, h2, h3⟩
  | succ n ih =>
    intro h d dn la re u m v h1 h2 h3
    rw [em_cuk]
    split
    · exact ⟨m, v, by omega, h1, h2, h3⟩
    · split
      · exact ⟨m, v, by omega, h1, h2, h3⟩
      · split
        · obtain ⟨j, hj, e⟩ := em_odd_N A I d (nI h)
          obtain ⟨m', v', a1, a2, a3, a4⟩ := ih (h + st) (if d = s then f else s) (dn + 1) (nI h) re (u * (10 - em_odd A I d (nI h)).toInt64) (m + 1) (v * (10 - j)) (by rw [h1]; exact nI_1 m) (by rw [e, em_ten_l j hj, h2, lN_mul]) (by rw [Nat.pow_succ]; exact Nat.mul_le_mul h3 (by omega))
          exact ⟨m', v', by omega, a2, a3, a4⟩
        · obtain ⟨m', v', a1, a2, a3, a4⟩ := ih (h + st) d dn (nI h) d u m v h1 h2 h3
          exact ⟨m', v', by omega, a2, a3, a4⟩
theorem em_clu_N (A : Nat → Nat → Int32) (I : Nat → Int32) (f s : Int32) (hh lm st : Nat) : ∃ m v : Nat, m ≤ 16 ∧ (em_clu A I f s hh lm st).1 = nI m ∧ (em_clu A I f s hh lm st).2.2.2 = lN v ∧ v ≤ 10 ^ m := by
  obtain ⟨m, v, a1, a2, a3, a4⟩ := em_cuk_N (A := A) (I := I) (f := f) (s := s) (lm := lm) (st := st) 16 hh s 0 (nI hh) (-6) 1 0 1 rfl rfl (by decide)
  exact ⟨m, v, by omega, a2, a3, a4⟩
theorem em_tns_N (k : Nat) : em_tns k = lN (10 ^ k) := by
  induction k with
  | zero => rfl
  | succ k ih => rw [em_tns, ih, Nat.pow_succ]; exact lN_mul (10 ^ k) 10
theorem em_cl16 {m v : Nat} (hm : m ≤ 16) (hv : v ≤ 10 ^ m) : v < 2 ^ 60 ∧ 10 ^ m < 2 ^ 60 ∧ 0 < 10 ^ m := by
  have h1 : 10 ^ m ≤ 10 ^ 16 := Nat.pow_le_pow_right (by decide) hm
  have h2 : (10 : Nat) ^ 16 < 2 ^ 60 := by decide
  exact ⟨by omega, by omega, Nat.pow_pos (by decide)⟩
theorem lN_tn {v : Nat} (h : v < 2 ^ 63) : (lN v).toNatClampNeg = v := by
  unfold Int64.toNatClampNeg
  rw [pk_lT h, Int.toNat_natCast]
def em_cwv (A : Nat → Nat → Int32) (I : Nat → Int32) (p q h l : Int32) (st : Nat) : em_C := em_clu A I p q h.toNatClampNeg l.toNatClampNeg st
def em_cwI (A : Nat → Nat → Int32) (I : Nat → Int32) (p q h l w hi : Int32) (st : Nat) : Nat → Int32 := if em_two I p q = true then (if em_isC h l = true then (if xw_in w 0 hi = true then em_cI I (em_cwv A I p q h l st) else I) else I) else I
def em_cwL (A : Nat → Nat → Int32) (I : Nat → Int32) (L : Int64) (p q h l w hi : Int32) (st : Nat) : Int64 := if em_two I p q = true then (if em_isC h l = true then (if xw_in w 0 hi = true then (em_cwv A I p q h l st).2.2.2 else L) else L) else L
def em_cli (A : Nat → Nat → Int32) (I : Nat → Int32) (p q h l w : Int32) (st : Nat) : Int32 := if em_two I p q = true then (if em_isC h l = true then (if xw_in w 0 2 = true then (if w = 0 then (em_cwv A I p q h l st).1 else if w = 1 then (em_cwv A I p q h l st).2.1 else (em_cwv A I p q h l st).2.2.1) else -2) else -2) else -1
def em_saf (A : Nat → Nat → Int32) (I : Nat → Int32) (p q h l w : Int32) (st : Nat) : Int64 := if em_two I p q = true then (if em_isC h l = true then (if xw_in w 0 1 = true then em_low (em_cwv A I p q h l st).2.2.2.toNatClampNeg (10 ^ (em_cwv A I p q h l st).1.toNatClampNeg) w else -1000000000000000002) else -1000000000000000002) else -1000000000000000001
theorem em_cI_35 (I : Nat → Int32) (x : em_C) : em_cI I x 35 = x.1 := rfl
theorem em_cI_cI (I : Nat → Int32) (x y : em_C) : em_cI (em_cI I x) y = em_cI I y := by
  funext k
  unfold em_cI va_up
  by_cases h1 : k = 35
  · subst h1; rfl
  · by_cases h2 : k = 36
    · subst h2; rfl
    · by_cases h3 : k = 37
      · subst h3; rfl
      · simp only [h1, h2, h3, if_false]
theorem em_cI_rf (I : Nat → Int32) (u : Int64) : em_cI I (I 35, I 36, I 37, u) = I := by
  funext k
  unfold em_cI va_up
  by_cases h1 : k = 35
  · subst h1; rfl
  · by_cases h2 : k = 36
    · subst h2; rfl
    · by_cases h3 : k = 37
      · subst h3; rfl
      · simp only [h1, h2, h3, if_false]
theorem em_odd_cI {A : Nat → Nat → Int32} {I : Nat → Int32} {x : em_C} {p h : Int32} : em_odd A (em_cI I x) p h = em_odd A I p h := by
  unfold em_cI
  rw [em_odd_ne (by decide), em_odd_ne (by decide), em_odd_ne (by decide)]
theorem em_dit_cI {A : Nat → Nat → Int32} {I : Nat → Int32} {x : em_C} {p h : Int32} : em_dit A (em_cI I x) p h = em_dit A I p h := by
  unfold em_cI
  rw [em_dit_ne (by decide) (by decide), em_dit_ne (by decide) (by decide), em_dit_ne (by decide) (by decide)]
theorem em_cuk_cI {A : Nat → Nat → Int32} {I : Nat → Int32} {x : em_C} {f s : Int32} {lm st : Nat} : ∀ (n h : Nat) (d dn la re : Int32) (u : Int64), em_cuk A (em_cI I x) f s lm st n h d dn la re u = em_cuk A I f s lm st n h d dn la re u := by
  intro n
  induction n with
  | zero => intros; rfl
  | succ n ih => intro h d dn la re u; rw [em_cuk, em_cuk, em_dit_cI, em_odd_cI, ih, ih]
theorem em_clu_cI {A : Nat → Nat → Int32} {I : Nat → Int32} {x : em_C} {f s : Int32} {hh lm st : Nat} : em_clu A (em_cI I x) f s hh lm st = em_clu A I f s hh lm st := em_cuk_cI ..
def em_lwB (A : Nat → Nat → Int32) (I : Nat → Int32) (p q : Int32) (hh l st : Nat) (a b : Int32) : Bool := !decide ((em_clu A I p q hh l st).2.2.2 * b.toInt64 < a.toInt64 * em_tns (em_clu A I p q hh l st).1.toNatClampNeg)
def em_lwk (A : Nat → Nat → Int32) (I : Nat → Int32) (p q : Int32) (hh st : Nat) (a b : Int32) : Nat → Nat → Int32 → Int32
  | 0, _, r => r
  | n + 1, l, r => em_lwk A I p q hh st a b n (l + 1) (if em_lwB A I p q hh l st a b = true then nI l else r)
theorem em_lwk_S {A : Nat → Nat → Int32} {I : Nat → Int32} {p q : Int32} {hh st : Nat} {a b r : Int32} {l : Nat} (h : l < 16) : em_lwk A I p q hh st a b (16 - l) l r = em_lwk A I p q hh st a b (16 - (l + 1)) (l + 1) (if em_lwB A I p q hh l st a b = true then nI l else r) := by
  rw [show 16 - l = (16 - (l + 1)) + 1 by omega, em_lwk]
def em_lwV (I : Nat → Int32) (p q h a b : Int32) : Bool := if em_two I p q = true then (if xw_in h 1 15 = true then (if xw_in b 1 100 = true then xw_in a 0 b else false) else false) else false
def em_law (A : Nat → Nat → Int32) (I : Nat → Int32) (p q h a b : Int32) (st : Nat) : Int32 := if em_two I p q = true then (if xw_in h 1 15 = true then (if xw_in b 1 100 = true then (if xw_in a 0 b = true then em_lwk A I p q h.toNatClampNeg st a b (16 - h.toNatClampNeg) h.toNatClampNeg (-6) else -2) else -2) else -2) else -1
def em_lwI (A : Nat → Nat → Int32) (I : Nat → Int32) (p q h a b : Int32) (st : Nat) : Nat → Int32 := if em_lwV I p q h a b = true then em_cI I (em_clu A I p q h.toNatClampNeg 15 st) else I
def em_lwL (A : Nat → Nat → Int32) (I : Nat → Int32) (L : Int64) (p q h a b : Int32) (st : Nat) : Int64 := if em_lwV I p q h a b = true then (em_clu A I p q h.toNatClampNeg 15 st).2.2.2 else L
/-! the game -/
def em_plD (A : Nat → Nat → Int32) (I : Nat → Int32) (p h t5 : Int32) : Int32 := em_dnb A I p (A 2 p.toNatClampNeg) h + t5
def em_plR (A : Nat → Nat → Int32) (p h : Int32) : Int32 := dt_wrf h (A 2 p.toNatClampNeg)
def em_plQ (A : Nat → Nat → Int32) (q h : Int32) : Int32 := (-10) * A 2 q.toNatClampNeg * h
def em_plG (A : Nat → Nat → Int32) (I : Nat → Int32) (q h t6 : Int32) : Int32 := if em_plD A I q h t6 < em_plQ A q h then 0 else 1
def em_plB (A : Nat → Nat → Int32) (I : Nat → Int32) (p q h t5 t6 : Int32) : Int32 := if em_plG A I q h t6 = 0 then 5 * A 2 p.toNatClampNeg * h else em_plD A I p h t5
def em_pl0 (A : Nat → Nat → Int32) (I : Nat → Int32) (p q h t5 t6 : Int32) : Int32 := if em_plD A I p h t5 < em_plR A p h then (if em_plR A p h < em_plB A I p q h t5 t6 then 2 else 1) else (if em_plD A I p h t5 < em_plB A I p q h t5 t6 then (if em_plR A p h < em_plB A I p q h t5 t6 then 2 else 1) else 0)
def em_pl1 (A : Nat → Nat → Int32) (I : Nat → Int32) (p q h t5 t6 : Int32) : Int32 := if em_pl0 A I p q h t5 t6 = 0 then em_plD A I p h t5 else if em_pl0 A I p q h t5 t6 = 1 then em_plR A p h else em_plB A I p q h t5 t6
def em_pl2 (A : Nat → Nat → Int32) (I : Nat → Int32) (p q h t5 t6 : Int32) : Int32 := if em_pl0 A I p q h t5 t6 = 0 then t6 else if em_pl0 A I p q h t5 t6 = 1 then 0 else if em_plG A I q h t6 = 0 then em_plQ A q h else em_plD A I q h t6
def em_plA (A : Nat → Nat → Int32) (I : Nat → Int32) (i : Nat) (p q h t5 t6 : Int32) : Nat → Nat → Int32 := va_up (va_up (va_up A 18 (upd (A 18) i (em_pl0 A I p q h t5 t6))) 19 (upd (A 19) i (em_pl1 A I p q h t5 t6))) 20 (upd (A 20) i (em_pl2 A I p q h t5 t6))
def em_fgv (A : Nat → Nat → Int32) (lm st h sd j : Nat) : Int32 := if lm < h + st then 0 else A j (2 * (h + st) + 1 - sd)
def em_fg1 (A : Nat → Nat → Int32) (I : Nat → Int32) (p q : Int32) (lm st h sd : Nat) : Nat → Nat → Int32 := em_plA A I (2 * h + sd) (if sd = 0 then p else q) (if sd = 0 then q else p) (nI h) (em_fgv A lm st h sd 20) (em_fgv A lm st h sd 19)
def em_fgr (I : Nat → Int32) (p q : Int32) (lm st : Nat) : Nat → (Nat → Nat → Int32) → Nat → Nat → Int32
  | 0, A => A
  | k + 1, A => em_fgr I p q lm st k (em_fg1 (em_fg1 A I p q lm st (k + 1) 0) I p q lm st (k + 1) 1)
theorem em_fgr_S {I : Nat → Int32} {p q : Int32} {lm st k : Nat} {A : Nat → Nat → Int32} (h : 0 < k) : em_fgr I p q lm st k A = em_fgr I p q lm st (k - 1) (em_fg1 (em_fg1 A I p q lm st k 0) I p q lm st k 1) := by
  obtain ⟨j, rfl⟩ : ∃ j, k = j + 1 := ⟨k - 1, by omega⟩
  rfl
theorem em_j0 (k : Nat) : (2 * nI k + 0 : Int32) = nI (2 * k + 0) := by
  rw [show (2 * nI k : Int32) = nI (2 * k) from (Int32.ofNat_mul 2 k).symm]; exact nI_add (2 * k) 0
theorem em_j1 (k : Nat) : (2 * nI k + 1 : Int32) = nI (2 * k + 1) := by
  rw [show (2 * nI k : Int32) = nI (2 * k) from (Int32.ofNat_mul 2 k).symm]; exact nI_add (2 * k) 1
theorem em_jc0 {k : Nat} (h : k ≤ 15) : (2 * nI k + 0 : Int32).toNatClampNeg = 2 * k + 0 := by rw [em_j0, xb_cl (by omega)]
theorem em_jc1 {k : Nat} (h : k ≤ 15) : (2 * nI k + 1 : Int32).toNatClampNeg = 2 * k + 1 := by rw [em_j1, xb_cl (by omega)]
theorem em_i0 {k st : Nat} {x : Int32} (h : x = nI st) : (2 * (nI k + x) + 1 - 0 : Int32) = nI (2 * (k + st) + 1 - 0) := by
  rw [h, nI_add, em_j1]; exact Int32.sub_zero _
theorem em_i1 {k st : Nat} {x : Int32} (h : x = nI st) : (2 * (nI k + x) + 1 - 1 : Int32) = nI (2 * (k + st) + 1 - 1) := by
  rw [h, nI_add, em_j1, xb_dec1 (by omega)]
theorem em_ic0 {k st lm : Nat} {x : Int32} (h : x = nI st) (h2 : ¬ lm < k + st) (h3 : lm ≤ 15) : (2 * (nI k + x) + 1 - 0 : Int32).toNatClampNeg = 2 * (k + st) + 1 - 0 := by rw [em_i0 h, xb_cl (by omega)]
theorem em_ic1 {k st lm : Nat} {x : Int32} (h : x = nI st) (h2 : ¬ lm < k + st) (h3 : lm ≤ 15) : (2 * (nI k + x) + 1 - 1 : Int32).toNatClampNeg = 2 * (k + st) + 1 - 1 := by rw [em_i1 h, xb_cl (by omega)]
def em_gaV (I : Nat → Int32) (p q h l w : Int32) : Bool := if em_two I p q = true then (if em_isC h l = true then xw_in w 0 2 else false) else false
def em_gaA (A : Nat → Nat → Int32) (I : Nat → Int32) (p q h l w : Int32) (st : Nat) : Nat → Nat → Int32 := if em_gaV I p q h l w = true then em_fgr I p q l.toNatClampNeg st l.toNatClampNeg A else A
def em_gam (A : Nat → Nat → Int32) (I : Nat → Int32) (p q h l w : Int32) (st : Nat) : Int32 := if em_two I p q = true then (if em_isC h l = true then (if xw_in w 0 2 = true then (if w = 0 then em_fgr I p q l.toNatClampNeg st l.toNatClampNeg A 18 (2 * h.toNatClampNeg + 1) else 1000000 + (if w = 1 then em_fgr I p q l.toNatClampNeg st l.toNatClampNeg A 19 (2 * h.toNatClampNeg + 1) else em_fgr I p q l.toNatClampNeg st l.toNatClampNeg A 20 (2 * h.toNatClampNeg + 1))) else -2) else -2) else -1
