/-! what the class's own methods answer, as they reckon it -/
def xw_rem (x y : Int32) : Int32 := x - x / y * y
def xw_drw (x : Int32) : Int32 := xw_rem (75 * x + 74) 65537
def xw_bc (x : Int32) : Int32 :=
  let a := x - ((x.toUInt32 >>> ((1 : Int32).toUInt32 &&& Int32.toUInt32 31)).toInt32 &&& 1431655765)
  let b := (a &&& 858993459) + ((a.toUInt32 >>> ((2 : Int32).toUInt32 &&& Int32.toUInt32 31)).toInt32 &&& 858993459)
  let c := (b + (b.toUInt32 >>> ((4 : Int32).toUInt32 &&& Int32.toUInt32 31)).toInt32) &&& 252645135
  let d := c + (c.toUInt32 >>> ((8 : Int32).toUInt32 &&& Int32.toUInt32 31)).toInt32
  let e := d + (d.toUInt32 >>> ((16 : Int32).toUInt32 &&& Int32.toUInt32 31)).toInt32
  e &&& 63
/-- the first k' from k on, within n steps, of which d does not hold -/
def xw_first (d : Nat → Bool) : Nat → Nat → Nat
  | 0, k => k
  | n + 1, k => if d k = true then xw_first d n (k + 1) else k
/-- the greatest k', k at most and above 0, of which d holds; 0 if there is none -/
def xw_down (d : Nat → Bool) : Nat → Nat
  | 0 => 0
  | n + 1 => if d (n + 1) = true then n + 1 else xw_down d n
/-- of all n from k on -/
def xw_all (d : Nat → Bool) : Nat → Nat → Bool
  | 0, _ => true
  | n + 1, k => if d k = true then xw_all d n (k + 1) else false
def xw_cp (f g : Nat → Int32) (k : Nat) : Nat → Int32 := fun j => if j < k then f j else g j
theorem xw_cp0 {f g : Nat → Int32} : xw_cp f g 0 = g := funext fun j => if_neg (by omega)
theorem xw_cpS {f g : Nat → Int32} {n k : Nat} (hk : k < n) (hn : n < 2 ^ 31) : xb_pt n (xw_cp f g k) (nI k) (xb_at n f (nI k)) = xw_cp f g (k + 1) := by
  rw [xb_at_n hk hn, xb_pt_n hk hn]
  funext j
  unfold upd xw_cp
  by_cases h : j = k
  · subst h; rw [if_pos rfl, if_pos (by omega)]
  · rw [if_neg h]
    by_cases h2 : j < k
    · rw [if_pos h2, if_pos (by omega)]
    · rw [if_neg h2, if_neg (by omega)]
def dt_isT (T : Nat → Nat → Int32) (p : Int32) : Bool := decide (xb_at 6 (T 1) p = 1)
def dt_btu (T : Nat → Nat → Int32) : Nat → Int32
  | 0 => 0
  | k + 1 => dt_btu T k ||| (xb_at 6 (T 1) (nI k) <<< (nI k &&& 31))
def dt_come (T : Nat → Nat → Int32) (p a b c d : Int32) : Nat → Nat → Int32 := va_up (va_up (va_up (va_up (va_up (va_up (va_up (va_up T 1 (xb_pt 6 (T 1) p 1)) 2 (xb_pt 6 (T 2) p a)) 3 (xb_pt 6 (T 3) p b)) 4 (xb_pt 6 (T 4) p c)) 5 (xb_pt 6 (T 5) p d)) 6 (xb_pt 6 (T 6) p (xb_at 7 (T 0) 1))) 7 (xb_pt 6 (T 7) p 0)) 8 (xb_pt 6 (T 8) p 0)
def dt_go (T : Nat → Nat → Int32) (p : Int32) : Nat → Nat → Int32 := va_up T 1 (xb_pt 6 (T 1) p 0)
def dt_sta (T : Nat → Nat → Int32) (p w : Int32) : Int32 := if w = 0 then xb_at 6 (T 7) p + 1000 else if w = 1 then xb_at 6 (T 6) p else xb_at 6 (T 8) p
def dt_odd (T : Nat → Nat → Int32) (p h : Int32) : Int32 := xw_mx 0 (xw_mn 10 ((h + 5 * xb_at 7 (T 0) 5 - xb_at 6 (T 2) p) / 2))
def dt_wdn (T : Nat → Nat → Int32) (p h q : Int32) : Int32 := 10 * q * h - dt_odd T p h * (xb_at 7 (T 0) 2 + xb_at 6 (T 3) p * h)
def dt_wrf (h q : Int32) : Int32 := (-10) * q * (h / 2)
def dt_drs (T : Nat → Nat → Int32) (p h q : Int32) : Bool := !decide (dt_wdn T p h q < dt_wrf h q)
def dt_prd (T : Nat → Nat → Int32) (p : Int32) : Int32 := xb_at 6 (T 4) p
def dt_dfs (T : Nat → Nat → Int32) (p : Int32) (k : Nat) : Bool := dt_drs T p (nI k) (dt_prd T p)
def dt_lrf (T : Nat → Nat → Int32) (p : Int32) : Int32 := nI (xw_first (dt_dfs T p) 15 1)
def dt_sur (T : Nat → Nat → Int32) (p : Int32) : Int32 := nI (xw_down (fun k => decide (dt_odd T p (nI k) = 0)) 15)
def dt_why (T : Nat → Nat → Int32) (a b h : Int32) : Int32 := if dt_isT T a = true then (if dt_isT T b = true then (if a = b then 1 else if 0 < xb_at 6 (T 8) a then 2 else if xb_at 6 (T 8) b ≤ 0 then (if h ≤ xb_at 6 (T 6) a + xb_at 7 (T 0) 0 then (if xb_at 6 (T 6) b < h then 0 else 4) else 3) else 2) else 1) else 1
def dt_pf3 (T : Nat → Nat → Int32) (p h : Int32) : Nat → Nat → Int32 := va_up (va_up (va_up T 6 (xb_pt 6 (T 6) p (xw_mx (xb_at 6 (T 6) p) h))) 7 (xb_pt 6 (T 7) p (xb_at 6 (T 7) p + h))) 0 (xb_pt 7 (T 0) 6 (xw_drw (xb_at 7 (T 0) 6)))
def dt_pfB (T : Nat → Nat → Int32) (p h : Int32) : Bool := decide (xw_rem (xw_drw (xb_at 7 (T 0) 6)) 10 < dt_odd (dt_pf3 T p h) p h)
def dt_pfT (T : Nat → Nat → Int32) (p h : Int32) : Nat → Nat → Int32 := if dt_pfB T p h = true then va_up (dt_pf3 T p h) 8 (xb_pt 6 (T 8) p (xb_at 7 (dt_pf3 T p h 0) 4)) else dt_pf3 T p h
def dt_ref (T : Nat → Nat → Int32) (p h : Int32) : Nat → Nat → Int32 := va_up T 7 (xb_pt 6 (T 7) p (xb_at 6 (T 7) p - h / 2))
def dt_fad (was fade : Int32) : Int32 := if was ≤ 0 then xw_mn 0 (was + fade) else xw_mx 0 (was - fade)
def dt_ni1 (U : Nat → Nat → Int32) (fade : Int32) (k : Nat) : Nat → Nat → Int32 := va_up U 7 (xb_pt 6 (U 7) (nI k) (dt_fad (xb_at 6 (U 7) (nI k)) fade))
def dt_ni2 (U : Nat → Nat → Int32) (k : Nat) : Nat → Nat → Int32 := va_up U 8 (xb_pt 6 (U 8) (nI k) (xw_mx 0 (xb_at 6 (U 8) (nI k) - 1)))
def dt_nik (T : Nat → Nat → Int32) : Nat → Nat → Nat → Int32
  | 0 => T
  | k + 1 => dt_ni2 (dt_ni1 (dt_nik T k) (xb_at 7 (T 0) 3) k) k
def dt_nit (T : Nat → Nat → Int32) : Nat → Nat → Int32 := dt_nik T 6
def dt_wou (T : Nat → Nat → Int32) (p h : Int32) : Bool := if dt_isT T p = true then (if xb_at 6 (T 8) p = 0 then (if h ≤ xb_at 6 (T 6) p then false else !(dt_drs T p h (dt_prd T p))) else false) else false
def dt_jrk (T : Nat → Nat → Int32) (said : Int32) : Nat → Int32
  | 0 => said
  | k + 1 => if dt_isT T (nI k) = true then (if xb_at 6 (T 5) (nI k) = 0 then (if xw_bc said < xb_at 6 (T 4) (nI k) / 2 then dt_jrk T said k else dt_jrk T said k ||| (1 <<< (nI k &&& 31))) else dt_jrk T said k) else dt_jrk T said k
def dt_jnk (T : Nat → Nat → Int32) (b : Int32) : Nat → Int32
  | 0 => b
  | k + 1 => dt_jrk T (dt_jnk T b k) 6
def dt_joi (T : Nat → Nat → Int32) (b : Int32) : Int32 := dt_jnk T b 6
def dt_mst (T : Nat → Nat → Int32) (said : Int32) : Bool := !decide (2 * xw_bc said ≤ xw_bc (dt_btu T 6))
def dt_frk (T : Nat → Nat → Int32) : Nat → Int32
  | 0 => 0
  | k + 1 => if dt_isT T (nI k) = true then (if xb_at 6 (T 5) (nI k) = 0 then dt_frk T k ||| (1 <<< (nI k &&& 31)) else dt_frk T k) else dt_frk T k
def dt_fwB (T : Nat → Nat → Int32) (free best x : Int32) : Bool := if x &&& (free ^^^ (-1)) = 0 then (if best = 0 then dt_mst T (dt_joi T x) else if xw_bc best ≤ xw_bc x then false else dt_mst T (dt_joi T x)) else false
def dt_fwk (T : Nat → Nat → Int32) (free : Int32) : Nat → Int32
  | 0 => 0
  | k + 1 => if dt_fwB T free (dt_fwk T free k) (nI (k + 1)) = true then nI (k + 1) else dt_fwk T free k
def dt_few (T : Nat → Nat → Int32) : Int32 := dt_fwk T (dt_frk T 6) 63
def dt_see (T : Nat → Nat → Int32) (p h d : Int32) : Nat → Nat → Int32 := if T 12 0 < 6 then va_up (va_up (va_up (va_up T 9 (xb_pt 6 (T 9) (T 12 0) p)) 10 (xb_pt 6 (T 10) (T 12 0) h)) 11 (xb_pt 6 (T 11) (T 12 0) d)) 12 (fun _ => T 12 0 + 1) else T
def dt_fit (T : Nat → Nat → Int32) (p q : Int32) (k : Nat) : Bool := if xb_at 6 (T 9) (nI k) = p then decide (xb_i (dt_drs T p (xb_at 6 (T 10) (nI k)) q) = (if xb_at 6 (T 11) (nI k) = 1 then 1 else 0)) else true
theorem xw_down_no {d : Nat → Bool} {k : Nat} (h : 0 < k) (hd : ¬ d k = true) : xw_down d k = xw_down d (k - 1) := by
  obtain ⟨j, rfl⟩ : ∃ j, k = j + 1 := ⟨k - 1, by omega⟩
  rw [xw_down, if_neg hd]; rfl
theorem xw_down_yes {d : Nat → Bool} {k : Nat} (h : 0 < k) (hd : d k = true) : xw_down d k = k := by
  obtain ⟨j, rfl⟩ : ∃ j, k = j + 1 := ⟨k - 1, by omega⟩
  rw [xw_down, if_pos hd]
theorem xb_dec {k : Nat} (h : 0 < k) : nI k + (-1) = nI (k - 1) := by
  obtain ⟨j, rfl⟩ : ∃ j, k = j + 1 := ⟨k - 1, by omega⟩
  exact pk_m1 j
theorem xb_nlt {k n : Nat} (hk : k < 2 ^ 31) (hn : n < 2 ^ 31) (h : ¬ nI k < nI n) : n ≤ k := by
  rcases Nat.lt_or_ge k n with q | q
  · exact absurd (nI_lt q hn) h
  · exact q
theorem xw_all_S {d : Nat → Bool} {n k : Nat} (hk : k < n) : xw_all d (n - k) k = if d k = true then xw_all d (n - (k + 1)) (k + 1) else false := by
  rw [show n - k = (n - (k + 1)) + 1 by omega, xw_all]
