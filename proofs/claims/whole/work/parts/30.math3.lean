/-! Summer and Year, as they reckon -/
abbrev ds_L : Type := Int32 × Int64 × Int64
abbrev ds_C : Type := Int32 × Int32 × Int32
abbrev ds_D : Type := (Nat → Nat → Int32) × (Nat → Int32) × ds_L × ds_C
def ds_rek (T : Nat → Nat → Int32) (p h : Int32) (x : ds_L) : ds_L := (x.1 + 1, if 15 < x.1 + 1 then x.2.1 else x.2.1 * (10 - dt_odd T p h).toInt64, if 15 < x.1 + 1 then x.2.2 else x.2.2 * 10)
def ds_a (g : Nat → Int32) (x : Int32) : Int32 := xb_at 60 g x - 65
def ds_b (g : Nat → Int32) (x : Int32) : Int32 := xb_at 60 g (x + 1) - 65
def ds_h (g : Nat → Int32) (x : Int32) : Int32 := 10 * (xb_at 60 g (x + 2) - 48) + xb_at 60 g (x + 3) - 48
def ds_k (g : Nat → Int32) (x : Int32) : Int32 := xb_at 60 g (x + 4)
def ds_why (T : Nat → Nat → Int32) (g : Nat → Int32) (x : Int32) : Int32 := dt_why T (ds_a g x) (ds_b g x) (ds_h g x)
def ds_tie (f : Nat → Int32) (a b : Int32) : Nat → Int32 := xb_pt 36 f (a * 6 + b) (xb_at 36 f (a * 6 + b) + 1)
def ds_t2 (T : Nat → Nat → Int32) (a b h k : Int32) : Nat → Nat → Int32 := if k = 43 then dt_pfT T b h else if k = 45 then dt_ref T b h else if dt_pfB T a h = true then dt_pfT T a h else dt_pfT (dt_pfT T a h) b h
def ds_l2 (T : Nat → Nat → Int32) (a b h k : Int32) (x : ds_L) : ds_L := if k = 43 then ds_rek T b h x else if k = 45 then x else ds_rek T b h (ds_rek T a h x)
def ds_c2 (k : Int32) (x : ds_C) : ds_C := if k = 43 then (x.1 + 1, x.2.1, x.2.2) else if k = 45 then (x.1, x.2.1 + 1, x.2.2) else (x.1, x.2.1, x.2.2 + 1)
def ds_dar (g : Nat → Int32) (x : Int32) (d : ds_D) : ds_D := if ds_why d.1 g x = 0 then (ds_t2 d.1 (ds_a g x) (ds_b g x) (ds_h g x) (ds_k g x), ds_tie d.2.1 (ds_a g x) (ds_b g x), ds_l2 d.1 (ds_a g x) (ds_b g x) (ds_h g x) (ds_k g x) d.2.2.1, ds_c2 (ds_k g x) d.2.2.2) else d
def ds_ply (g : Nat → Int32) (n : Nat) : Nat → Nat → Int32 → ds_D → Int32 × Int32 × ds_D
  | 0, _, ev, d => (ev, 0, d)
  | m + 1, i, ev, d => if n ≤ i then (ev, 0, d) else if xb_at 60 g (nI i) = 46 then ds_ply g n m (i + 1) (ev + 1) (dt_nit d.1, d.2) else if ds_why d.1 g (nI i) = 0 then ds_ply g n m (i + 5) (ev + 1) (ds_dar g (nI i) d) else (ev, ds_why d.1 g (nI i), d)
theorem ds_ply_S {g : Nat → Int32} {n k i : Nat} {ev : Int32} {d : ds_D} (hk : k < 61) : ds_ply g n (61 - k) i ev d = if n ≤ i then (ev, 0, d) else if xb_at 60 g (nI i) = 46 then ds_ply g n (61 - (k + 1)) (i + 1) (ev + 1) (dt_nit d.1, d.2) else if ds_why d.1 g (nI i) = 0 then ds_ply g n (61 - (k + 1)) (i + 5) (ev + 1) (ds_dar g (nI i) d) else (ev, ds_why d.1 g (nI i), d) := by
  rw [show 61 - k = (61 - (k + 1)) + 1 by omega, ds_ply]
theorem xb_add5 (i : Nat) : nI i + 5 = nI (i + 5) := (nI_add i 5 : nI i + nI 5 = nI (i + 5))
theorem xs_45 : ¬ (45 : Int32) = 43 := by decide
def ds_z : Nat → Int32 := fun _ => 0
def ds_sum (U : Nat → Nat → Int32) (g : Nat → Int32) (n : Nat) : Int32 × Int32 × ds_D := ds_ply g n 61 0 0 (U, ds_z, (0, 1, 1), (0, 0, 0))
theorem ds_sum_0 {U : Nat → Nat → Int32} {g : Nat → Int32} {n : Nat} : ds_sum U g n = ds_ply g n (61 - 0) 0 0 (U, ds_z, (0, 1, 1), (0, 0, 0)) := by
  unfold ds_sum
  rw [Nat.sub_zero]
def ds_clo (f : Nat → Int32) : Nat → Int32 × Int32
  | 0 => (-1, 0)
  | k + 1 => if xb_at 36 f (nI k) ≤ (ds_clo f k).2 then ds_clo f k else (nI k, xb_at 36 f (nI k))
abbrev dy_D : Type := (Nat → Nat → Int32) × ds_C
def dy_h (T : Nat → Nat → Int32) (a : Int32) : Int32 := xw_mn 15 (xb_at 6 (T 6) a + xb_at 7 (T 0) 0)
def dy_dar (a b : Int32) (d : dy_D) : dy_D :=
  if dt_why d.1 a b (dy_h d.1 a) = 0 then
    if dt_drs d.1 b (dy_h d.1 a) (dt_prd d.1 b) = true then (dt_pfT d.1 b (dy_h d.1 a), d.2.1 + 1, d.2.2.1, if dt_pfB d.1 b (dy_h d.1 a) = true then d.2.2.2 + 1 else d.2.2.2)
    else (dt_ref d.1 b (dy_h d.1 a), d.2.1, d.2.2.1 + 1, d.2.2.2)
  else d
def dy_stp (k : Nat) (y : Int32) (d : dy_D) : dy_D := if xw_rem (nI (k + 1)) 3 = 0 then (dt_nit (dy_dar (xw_rem y 6) (xw_rem (y / 6) 6) d).1, (dy_dar (xw_rem y 6) (xw_rem (y / 6) 6) d).2) else dy_dar (xw_rem y 6) (xw_rem (y / 6) 6) d
def dy_run (T : Nat → Nat → Int32) (seed : Int32) : Nat → Int32 × dy_D
  | 0 => (seed, T, 0, 0, 0)
  | k + 1 => (xw_drw (dy_run T seed k).1, dy_stp k (xw_drw (dy_run T seed k).1) (dy_run T seed k).2)
theorem xw_cpz {g : Nat → Int32} {n k : Nat} (hk : k < n) (hn : n < 2 ^ 31) : xb_pt n (xw_cp ds_z g k) (nI k) 0 = xw_cp ds_z g (k + 1) := by
  have h := xw_cpS (f := ds_z) (g := g) hk hn
  rwa [xb_at_n hk hn] at h
