/-! DareBridge's own calls, as they reckon -/
def dj_perT (T : Nat → Nat → Int32) (p s f q w : Int32) : Nat → Nat → Int32 := if xw_in p 0 5 = true then (if xw_in s 0 9 = true then (if xw_in f 0 9 = true then (if xw_in q 0 9 = true then dt_come T p s f q (if w = 0 then 0 else 1) else T) else T) else T) else T
def dj_perR (T : Nat → Nat → Int32) (p s f q w : Int32) : Int32 := if xw_in p 0 5 = true then (if xw_in s 0 9 = true then (if xw_in f 0 9 = true then (if xw_in q 0 9 = true then xw_bc (dt_btu (dt_come T p s f q (if w = 0 then 0 else 1)) 6) else -2) else -2) else -2) else -1
def dj_leaT (T : Nat → Nat → Int32) (p : Int32) : Nat → Nat → Int32 := if dt_isT T p = true then dt_go T p else T
def dj_leaR (T : Nat → Nat → Int32) (p : Int32) : Int32 := if dt_isT T p = true then xw_bc (dt_btu (dt_go T p) 6) else -1
def dj_setT (T : Nat → Nat → Int32) (k v : Int32) : Nat → Nat → Int32 := if xw_in k 0 6 = true then (if xw_in v (xb_at 7 xg_f1 k) (xb_at 7 xg_f2 k) = true then va_up T 0 (xb_pt 7 (T 0) k v) else T) else T
def dj_setR (T : Nat → Nat → Int32) (k v : Int32) : Int32 := if xw_in k 0 6 = true then (if xw_in v (xb_at 7 xg_f1 k) (xb_at 7 xg_f2 k) = true then xb_at 7 (T 0) k else -2) else -2
def dj_sayN (n x : Int32) : Int32 := if xw_in x 33 126 = true then (if n < 60 then n + 1 else n) else n
def dj_sayF (n x : Int32) (g : Nat → Int32) : Nat → Int32 := if xw_in x 33 126 = true then (if n < 60 then xb_pt 60 g n x else g) else g
def dj_sayR (n x : Int32) : Int32 := if xw_in x 33 126 = true then (if n < 60 then n + 1 else -4) else -2
abbrev dk_S : Type := Int32 × Int32 × ds_D
def dk_ply (T : Nat → Nat → Int32) (g : Nat → Int32) (nn : Nat) (x : dk_S) : dk_S := if dp_flt g nn nn 0 0 = -6 then ds_sum T g nn else x
def dk_ret (T : Nat → Nat → Int32) (g : Nat → Int32) (nn : Nat) : Int32 := if dp_flt g nn nn 0 0 = -6 then (if (ds_sum T g nn).2.1 = 0 then 0 else -3) else -5
def dj_jsw (r : Int32) (x : dk_S) (w : Int32) : Int32 := if w = 0 then (if r = -3 then x.1 else -6) else if w = 1 then (if r = -3 then x.2.1 else -6) else if w = 2 then x.2.2.2.2.2.1 else if w = 3 then x.2.2.2.2.2.2.1 else x.2.2.2.2.2.2.2
def dj_jud (r : Int32) (x : dk_S) (w : Int32) : Int32 := if xw_in w 0 4 = true then (if r = -5 then r else if r = -3 then (if w < 2 then dj_jsw r x w else r) else dj_jsw r x w) else -2
def dj_stt (T : Nat → Nat → Int32) (p w : Int32) : Int32 := if dt_isT T p = true then (if xw_in w 0 2 = true then dt_sta T p w else -2) else -1
def dj_beh (T : Nat → Nat → Int32) (r : Int32) (x : dk_S) (p w : Int32) : Int32 := if dt_isT T p = true then (if xw_in w 0 2 = true then (if r = 0 then dt_sta x.2.2.1 p w else r) else -2) else -1
def dj_don (r : Int32) (x : dk_S) : Int32 := if r = 0 then x.1 else r
def dj_tie (r : Int32) (x : dk_S) (w : Int32) : Int32 := if xw_in w 0 1 = true then (if r = 0 then (if 0 ≤ (ds_clo x.2.2.2.1 36).1 then (if w = 0 then (ds_clo x.2.2.2.1 36).1 / 6 * 10 + xw_rem (ds_clo x.2.2.2.1 36).1 6 else xb_at 36 x.2.2.2.1 (ds_clo x.2.2.2.1 36).1) else -6) else r) else -2
def dj_unh (r : Int32) (x : dk_S) (w : Int32) : Int64 := if xw_in w 0 1 = true then (if r = 0 then (if x.2.2.2.2.1.1 ≤ 15 then dc_low x.2.2.2.2.1.2.1 x.2.2.2.2.1.2.2 w else -1000000000000000004) else -1000000000000000000 + r.toInt64) else -1000000000000000002
def dj_roh (T : Nat → Nat → Int32) (p h : Int32) : Int32 := if dt_isT T p = true then (if xw_in h 1 15 = true then 0 else -2) else -1
def dj_roc (T : Nat → Nat → Int32) (p q h l : Int32) : Int32 := if dt_isT T p = true then (if dt_isT T q = true then (if p = q then -1 else if xw_in l 1 15 = true then (if xw_in h 1 l = true then 0 else -2) else -2) else -1) else -1
def dj_tra (T : Nat → Nat → Int32) (p k : Int32) : Int32 := if dt_isT T p = true then (if k = 0 then xb_at 6 (T 2) p else if k = 1 then xb_at 6 (T 3) p else if k = 2 then xb_at 6 (T 4) p else if k = 3 then xb_at 6 (T 5) p else -2) else -2
def dj_aft (c : Prop) [Decidable c] (x old : dk_S) : dk_S := if c then x else old
theorem xs_12 : ¬ (1 : Int32) = 2 := by decide
theorem xs_10 : ¬ (1 : Int32) = 0 := by decide
theorem xs_20 : ¬ (2 : Int32) = 0 := by decide
theorem xs_21 : ¬ (2 : Int32) = 1 := by decide
theorem xs_30 : ¬ (3 : Int32) = 0 := by decide
theorem xs_31 : ¬ (3 : Int32) = 1 := by decide
theorem xs_32 : ¬ (3 : Int32) = 2 := by decide
def dj_donT (T : Nat → Nat → Int32) (r : Int32) (x : dk_S) : Nat → Nat → Int32 := if r = 0 then x.2.2.1 else T
def dj_donN (n r : Int32) : Int32 := if r = 0 then 0 else n
def dj_odd (T : Nat → Nat → Int32) (p h : Int32) : Int32 := if dj_roh T p h = 0 then dt_odd T p h else dj_roh T p h
def dj_wor (T : Nat → Nat → Int32) (p h w : Int32) : Int32 := if dj_roh T p h = 0 then (if xw_in w 0 1 = true then (if w = 0 then 1000000 + dt_wdn T p h (dt_prd T p) else 1000000 + dt_wrf h (dt_prd T p)) else -2) else dj_roh T p h
def dj_doe (T : Nat → Nat → Int32) (p h : Int32) : Int32 := if dj_roh T p h = 0 then (if dt_drs T p h (dt_prd T p) = true then 1 else 0) else dj_roh T p h
def dj_ner (T : Nat → Nat → Int32) (p w : Int32) : Int32 := if dt_isT T p = true then (if xw_in w 0 2 = true then (if w = 2 then dt_sur T p else if w = 1 then (if dt_lrf T p ≤ 15 then dt_lrf T p else -6) else dt_lrf T p - 1) else -2) else -1
def dj_clm (T : Nat → Nat → Int32) (p q h l : Int32) (st : Nat) : dc_R := dc_clm T p q h.toNatClampNeg l.toNatClampNeg st
def dj_cli (T : Nat → Nat → Int32) (p q h l w : Int32) (st : Nat) : Int32 := if dj_roc T p q h l = 0 then (if xw_in w 0 2 = true then (if w = 0 then (dj_clm T p q h l st).1 else if w = 1 then (dj_clm T p q h l st).2.1 else (dj_clm T p q h l st).2.2.1) else -2) else dj_roc T p q h l
def dj_saf (T : Nat → Nat → Int32) (p q h l w : Int32) (st : Nat) : Int64 := if dj_roc T p q h l = 0 then (if xw_in w 0 1 = true then dc_low (dj_clm T p q h l st).2.2.2.1 (dj_clm T p q h l st).2.2.2.2 w else -1000000000000000002) else -1000000000000000000 + (dj_roc T p q h l).toInt64
def dj_lwB (T : Nat → Nat → Int32) (p q : Int32) (hh l st : Nat) (a b : Int32) : Bool := !decide ((dc_clm T p q hh l st).2.2.2.1 * b.toInt64 < a.toInt64 * (dc_clm T p q hh l st).2.2.2.2)
/-- the greatest limit, hh + n - 1 at most and hh at least -/
def dj_lwk (T : Nat → Nat → Int32) (p q : Int32) (hh st : Nat) (a b : Int32) : Nat → Int32
  | 0 => -6
  | n + 1 => if dj_lwB T p q hh (hh + n) st a b = true then nI (hh + n) else dj_lwk T p q hh st a b n
def dj_law (T : Nat → Nat → Int32) (p q h a b : Int32) (st : Nat) : Int32 := if dj_roc T p q h 15 = 0 then (if xw_in b 1 100 = true then (if xw_in a 0 b = true then dj_lwk T p q h.toNatClampNeg st a b (16 - h.toNatClampNeg) else -2) else -2) else dj_roc T p q h 15
theorem dj_lwk_S {T : Nat → Nat → Int32} {p q : Int32} {hh st : Nat} {a b : Int32} {l : Nat} (h : hh ≤ l) : dj_lwk T p q hh st a b (l + 1 - hh) = if dj_lwB T p q hh l st a b = true then nI l else dj_lwk T p q hh st a b (l - hh) := by
  obtain ⟨n, rfl⟩ : ∃ n, l = hh + n := ⟨l - hh, by omega⟩
  rw [show hh + n + 1 - hh = n + 1 by omega, dj_lwk, show hh + n - hh = n by omega]
def dj_gmr (T : Nat → Nat → Int32) (p q h l : Int32) (st : Nat) : dg_R := dg_run T p q h l (nI st) 16 (0, 0, 0)
def dj_gam (T : Nat → Nat → Int32) (p q h l w : Int32) (st : Nat) : Int32 := if dj_roc T p q h l = 0 then (if xw_in w 0 2 = true then (if w = 0 then (dj_gmr T p q h l st).1 else if w = 1 then 1000000 + (dj_gmr T p q h l st).2.1 else 1000000 + (dj_gmr T p q h l st).2.2) else -2) else dj_roc T p q h l
def dj_eno (T : Nat → Nat → Int32) (p : Int32) : Int32 := if dt_isT T p = true then dt_joi T (1 <<< (p &&& 31)) else -1
def dj_hol (T : Nat → Nat → Int32) (p : Int32) : Int32 := if dt_isT T p = true then (if dt_mst T (dt_joi T (1 <<< (p &&& 31))) = true then 1 else 0) else -1
def dj_won (T : Nat → Nat → Int32) (w : Int32) : Int32 := if xw_in w 0 1 = true then (if dt_few T = 0 then -6 else if w = 0 then xw_bc (dt_few T) else dt_few T) else -2
def dj_rfd (T : Nat → Nat → Int32) (p h : Int32) (k : Nat) : Bool := if nI k = p then true else !(dt_wou T (nI k) h)
def dj_rfs (T : Nat → Nat → Int32) (p h : Int32) : Int32 := if dj_roh T p h = 0 then (if xw_first (dj_rfd T p h) 6 0 < 6 then nI (xw_first (dj_rfd T p h) 6 0) else -6) else dj_roh T p h
def dj_lkk (T : Nat → Nat → Int32) (p h : Int32) : Nat → Int32
  | 0 => 0
  | k + 1 => if dt_drs T p h (nI k) = true then dj_lkk T p h k + 1 else dj_lkk T p h k
def dj_lik (T : Nat → Nat → Int32) (p h : Int32) : Int32 := if dj_roh T p h = 0 then dj_lkk T p h 10 else dj_roh T p h
def dj_seeT (T : Nat → Nat → Int32) (p h d : Int32) : Nat → Nat → Int32 := if dj_roh T p h = 0 then (if xw_in d 0 1 = true then dt_see T p h d else T) else T
def dj_seeR (T : Nat → Nat → Int32) (p h d : Int32) : Int32 := if dj_roh T p h = 0 then (if xw_in d 0 1 = true then (if T 12 0 < 6 then dt_see T p h d 12 0 else -4) else -2) else dj_roh T p h
def dj_prk (T : Nat → Nat → Int32) (p : Int32) (ns : Nat) : Nat → Int32 × Int32 × Int32
  | 0 => (0, -6, -6)
  | k + 1 => if xw_all (dt_fit T p (nI k)) ns 0 = true then ((dj_prk T p ns k).1 + 1, if (dj_prk T p ns k).1 = 0 then nI k else (dj_prk T p ns k).2.1, nI k) else dj_prk T p ns k
def dj_pri (T : Nat → Nat → Int32) (p w : Int32) (ns : Nat) : Int32 := if dt_isT T p = true then (if xw_in w 0 2 = true then (if w = 0 then (dj_prk T p ns 10).1 else if w = 1 then (dj_prk T p ns 10).2.1 else (dj_prk T p ns 10).2.2) else -2) else -1
def dj_yea (T : Nat → Nat → Int32) (s n w : Int32) : Int32 := if xw_in s 0 (xb_at 7 xg_f2 6) = true then (if xw_in n 1 99 = true then (if xw_in w 0 2 = true then (if w = 0 then (dy_run T s n.toNatClampNeg).2.2.1 else if w = 1 then (dy_run T s n.toNatClampNeg).2.2.2.1 else (dy_run T s n.toNatClampNeg).2.2.2.2) else -2) else -2) else -2
def dj_imT (T U : Nat → Nat → Int32) (x j : Int32) : Nat → Nat → Int32 := if xw_in x 0 1 = true then (if (x = 0 ↔ j = 0) then T else U) else U
def dj_imF (x z : Int32) : Int32 := if xw_in x 0 1 = true then (if x = 0 then 1 else z) else z
def dj_imS (x z : Int32) : Int32 := if xw_in x 0 1 = true then (if x = 0 then z else 1) else z
def dj_rsT (T U V : Nat → Nat → Int32) (x fk sk : Int32) : Nat → Nat → Int32 := if xw_in x 0 1 = true then (if x = 0 then (if fk = 0 then T else U) else (if sk = 0 then T else V)) else T
def dj_rsR (x fk sk : Int32) : Int32 := if xw_in x 0 1 = true then (if x = 0 then (if fk = 0 then -3 else 1) else (if sk = 0 then -3 else 1)) else -2
def dj_tol (T : Nat → Nat → Int32) (n x : Int32) : Int32 := if x = 0 then n else if x = 1 then dt_btu T 6 else if xw_in x 2 8 = true then xb_at 7 (T 0) (x - 2) else if x = 9 then T 12 0 else if 10 ≤ x then dj_tra T (x / 10 - 1) (xw_rem x 10) else -2
/-- a number within bounds, as a count -/
theorem xw_inN {x : Int32} {a c : Nat} (h : xw_in x (nI a) (nI c) = true) (ha : a < 2 ^ 31) (hc : c < 2 ^ 31) : x = nI x.toNatClampNeg ∧ a ≤ x.toNatClampNeg ∧ x.toNatClampNeg ≤ c := by
  unfold xw_in at h
  rw [Bool.and_eq_true, Bool.not_eq_true', Bool.not_eq_true', decide_eq_false_iff_not, decide_eq_false_iff_not, Int32.lt_iff_toInt_lt, Int32.lt_iff_toInt_lt, nI_toInt ha, nI_toInt hc] at h
  obtain ⟨j, hj, rfl⟩ := nI_of (x := x) (by rw [Int32.lt_iff_toInt_lt]; have : (0 : Int32).toInt = 0 := rfl; omega)
  rw [nI_toInt hj] at h
  rw [nI_clamp hj]
  exact ⟨rfl, by omega, by omega⟩
theorem dj_roc_N {T : Nat → Nat → Int32} {p q h l : Int32} (hc : dj_roc T p q h l = 0) : h = nI h.toNatClampNeg ∧ l = nI l.toNatClampNeg ∧ 1 ≤ h.toNatClampNeg ∧ h.toNatClampNeg ≤ l.toNatClampNeg ∧ l.toNatClampNeg ≤ 15 ∧ dt_isT T p = true ∧ dt_isT T q = true ∧ p ≠ q := by
  unfold dj_roc at hc
  by_cases h1 : dt_isT T p = true
  · by_cases h2 : dt_isT T q = true
    · by_cases h3 : p = q
      · rw [if_pos h1, if_pos h2, if_pos h3] at hc; exact absurd hc (by decide)
      · by_cases h4 : xw_in l 1 15 = true
        · by_cases h5 : xw_in h 1 l = true
          · obtain ⟨a1, a2, a3⟩ := xw_inN (a := 1) (c := 15) h4 (by decide) (by decide)
            rw [a1] at h5
            obtain ⟨b1, b2, b3⟩ := xw_inN (a := 1) (c := l.toNatClampNeg) h5 (by decide) (by omega)
            exact ⟨b1, a1, b2, b3, a3, h1, h2, h3⟩
          · rw [if_pos h1, if_pos h2, if_neg h3, if_pos h4, if_neg h5] at hc; exact absurd hc (by decide)
        · rw [if_pos h1, if_pos h2, if_neg h3, if_neg h4] at hc; exact absurd hc (by decide)
    · rw [if_pos h1, if_neg h2] at hc; exact absurd hc (by decide)
  · rw [if_neg h1] at hc; exact absurd hc (by decide)
