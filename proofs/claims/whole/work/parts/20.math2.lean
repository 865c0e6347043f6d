/-! Chance, Climb, Game, Pad, as they reckon -/
def xw_gc : Nat → Int64 → Int64 → Int64
  | 0, s, _ => s
  | n + 1, s, r => if r = 0 then s else xw_gc n r (s - s / r * r)
def dc_low (u v : Int64) (x : Int32) : Int64 := if xw_gc 100 v u = 0 then (if x = 0 then u else v) else (if x = 0 then u else v) / xw_gc 100 v u
theorem xw_gc_S {k : Nat} {s r : Int64} (hk : k < 100) : xw_gc (100 - k) s r = if r = 0 then s else xw_gc (100 - (k + 1)) r (s - s / r * r) := by
  rw [show 100 - k = (100 - (k + 1)) + 1 by omega, xw_gc]
abbrev dc_R : Type := Int32 × Int32 × Int32 × Int64 × Int64
def dc_clk (T : Nat → Nat → Int32) (f s : Int32) (lm st : Nat) : Nat → Nat → Int32 → Int32 → Int32 → Int64 → Int64 → dc_R
  | 0, _, _, dn, la, u, v => (dn, la, -6, u, v)
  | n + 1, h, d, dn, la, u, v => if lm < h then (dn, la, -6, u, v) else if dt_drs T d (nI h) (dt_prd T d) = true then dc_clk T f s lm st n (h + st) (if d = s then f else s) (dn + 1) (nI h) (u * (10 - dt_odd T d (nI h)).toInt64) (v * 10) else (dn, nI h, d, u, v)
theorem dc_clk_S {T : Nat → Nat → Int32} {f s : Int32} {lm st k h : Nat} {d dn la : Int32} {u v : Int64} (hk : k < 16) : dc_clk T f s lm st (16 - k) h d dn la u v = if lm < h then (dn, la, -6, u, v) else if dt_drs T d (nI h) (dt_prd T d) = true then dc_clk T f s lm st (16 - (k + 1)) (h + st) (if d = s then f else s) (dn + 1) (nI h) (u * (10 - dt_odd T d (nI h)).toInt64) (v * 10) else (dn, nI h, d, u, v) := by
  rw [show 16 - k = (16 - (k + 1)) + 1 by omega, dc_clk]
def dc_clm (T : Nat → Nat → Int32) (f s : Int32) (hh lm st : Nat) : dc_R := dc_clk T f s lm st 16 hh s 0 (nI hh) 1 1
abbrev dg_R : Type := Int32 × Int32 × Int32
def dg_set (T : Nat → Nat → Int32) (a b h : Int32) (x : dg_R) : dg_R :=
  let q := dt_prd T b
  let dtd := dt_wdn T b h q + x.2.2
  let rtd := dt_wrf h q
  let mtd := dt_wdn T a h (dt_prd T a) + x.2.1
  let umt := (-10) * dt_prd T a * h
  let met : Int32 := if mtd < umt then 0 else 1
  let dbl := if met = 0 then 5 * q * h else dtd
  if dtd < rtd then (if rtd < dbl then (2, dbl, if met = 0 then umt else mtd) else (1, rtd, 0))
  else if dtd < dbl then (if rtd < dbl then (2, dbl, if met = 0 then umt else mtd) else (1, rtd, 0))
  else (0, dtd, x.2.1)
def dg_stp (T : Nat → Nat → Int32) (f s hh lm st : Int32) (k : Nat) (x : dg_R) : dg_R :=
  if lm < hh + (nI k - 1) * st then x else
  dg_set T (if (if xw_rem (nI k - 1) 2 = 0 then (1 : Int32) else 0) = 0 then s else f) (if (if xw_rem (nI k - 1) 2 = 0 then (1 : Int32) else 0) = 0 then f else s) (hh + (nI k - 1) * st) x
def dg_run (T : Nat → Nat → Int32) (f s hh lm st : Int32) : Nat → dg_R → dg_R
  | 0, x => x
  | k + 1, x => dg_run T f s hh lm st k (dg_stp T f s hh lm st (k + 1) x)
theorem dg_run_S {T : Nat → Nat → Int32} {f s hh lm st : Int32} {k : Nat} {x : dg_R} (h : 0 < k) : dg_run T f s hh lm st k x = dg_run T f s hh lm st (k - 1) (dg_stp T f s hh lm st k x) := by
  obtain ⟨j, rfl⟩ : ∃ j, k = j + 1 := ⟨k - 1, by omega⟩
  rfl
def dp_let (x : Int32) : Bool := xw_in x 65 70
def dp_can (x pl be : Int32) : Bool :=
  if pl = 0 then (if x = 46 then true else dp_let x)
  else if pl = 1 then dp_let x
  else if pl = 2 then (if x = 48 then true else decide (x = 49))
  else if pl = 3 then (if be = 48 then xw_in x 49 57 else xw_in x 48 53)
  else if x = 43 then true else if x = 45 then true else decide (x = 42)
def dp_nx (x pl : Int32) : Int32 := if x = 46 then 0 else if pl = 4 then 0 else pl + 1
def dp_flt (f : Nat → Int32) (n : Nat) : Nat → Nat → Int32 → Int32
  | 0, _, pl => if pl = 0 then -6 else nI n
  | m + 1, i, pl => if dp_can (xb_at 60 f (nI i)) pl (xb_at 60 f (nI i - 1)) = true then dp_flt f n m (i + 1) (dp_nx (xb_at 60 f (nI i)) pl) else nI i
theorem dp_flt_S {f : Nat → Int32} {n i : Nat} {pl : Int32} (hi : i < n) : dp_flt f n (n - i) i pl = if dp_can (xb_at 60 f (nI i)) pl (xb_at 60 f (nI i - 1)) = true then dp_flt f n (n - (i + 1)) (i + 1) (dp_nx (xb_at 60 f (nI i)) pl) else nI i := by
  rw [show n - i = (n - (i + 1)) + 1 by omega, dp_flt]
theorem xb_dec1 {k : Nat} (h : 0 < k) : nI k - 1 = nI (k - 1) := by
  obtain ⟨j, rfl⟩ : ∃ j, k = j + 1 := ⟨k - 1, by omega⟩
  exact nI_pred j
theorem xb_neg1 {k : Nat} (hk : k < 2 ^ 31) (h : nI k - 1 < 0) : k = 0 := by
  rcases Nat.eq_zero_or_pos k with q | q
  · exact q
  · rw [xb_dec1 q] at h
    exact absurd h (nI_pos (by omega))
theorem xb_nneg1 {k : Nat} (h : ¬ nI k - 1 < 0) : 0 < k := by
  rcases Nat.eq_zero_or_pos k with q | q
  · subst q; exact absurd (by decide) h
  · exact q
theorem xb_mx1 {n : Nat} (h : 1 ≤ n) (hn : n < 2 ^ 31) : (if (1 : Int32) < nI n then nI n else 1) = nI n := by
  by_cases h1 : n = 1
  · subst h1; rfl
  · exact if_pos (show (1 : Int32) < nI n from nI_lt (a := 1) (b := n) (by omega) hn)
theorem xb_m1 (x : Int32) : x + (-1) = x - 1 := (Int32.sub_eq_add_neg x 1).symm
