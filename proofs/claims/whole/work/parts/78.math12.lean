/-! what is told, kept and put back, and the year -/
def em_tlp (A : Nat → Nat → Int32) (I : Nat → Int32) (p k : Int32) : Int32 := if em_isT I p = true then (if k = 0 then A 0 p.toNatClampNeg else if k = 1 then A 1 p.toNatClampNeg else if k = 2 then A 2 p.toNatClampNeg else if k = 3 then A 3 p.toNatClampNeg else -2) else -2
def em_tll (A : Nat → Nat → Int32) (I : Nat → Int32) (x : Int32) : Int32 := if xw_in x 10 69 = true then em_tlp A I (x / 10 - 1) (xw_rem x 10) else if xw_in x 2 8 = true then em_tol I (x - 2) else if x = 0 then I 20 else if x = 1 then I 0 else if x = 9 then I 18 else -2
def em_pv (A : Nat → Nat → Int32) (I : Nat → Int32) (x : Int32) : Int32 := if I 45 = 0 then A 21 (I 44).toNatClampNeg else x
def em_pvA (A : Nat → Nat → Int32) (I : Nat → Int32) (x : Int32) : Nat → Nat → Int32 := va_up A 21 (upd (A 21) (I 44).toNatClampNeg (em_pv A I x))
def em_pvI (I : Nat → Int32) : Nat → Int32 := va_up I 44 (I 44 + 1)
def em_psI (A : Nat → Nat → Int32) (I : Nat → Int32) (j : Nat) : em_G := (em_pvA A I (I j), va_up (em_pvI I) j (em_pv A I (I j)))
def em_psA (A : Nat → Nat → Int32) (I : Nat → Int32) (j k : Nat) : em_G := (va_up (em_pvA A I (A j k)) j (upd (em_pvA A I (A j k) j) k (em_pv A I (A j k))), em_pvI I)
def em_pl : List Nat → em_G → em_G
  | [], g => g
  | j :: js, g => em_pl js (em_psI g.1 g.2 j)
def em_pr (k : Nat) : List Nat → em_G → em_G
  | [], g => g
  | j :: js, g => em_pr k js (em_psA g.1 g.2 j k)
def em_rows : List Nat := [0, 1, 2, 3, 4, 5, 6, 7, 8, 9]
def em_slots : List Nat := [0, 8, 9, 10, 11, 12, 13, 14, 18]
def em_pk : Nat → Nat → em_G → em_G
  | 0, _, g => g
  | n + 1, k, g => em_pk n (k + 1) (em_pr k em_rows g)
def em_pas (A : Nat → Nat → Int32) (I : Nat → Int32) : em_G := em_pk 6 0 (em_pl em_slots (A, I))
def em_imI (I : Nat → Int32) (x w : Int32) : Nat → Int32 := va_up (va_up I 44 (100 * x)) 45 w
def em_imG (A : Nat → Nat → Int32) (I : Nat → Int32) (x : Int32) : em_G := if xw_in x 0 1 = true then (va_up (em_pas A (em_imI I x 1)).1 22 (upd ((em_pas A (em_imI I x 1)).1 22) x.toNatClampNeg (vp_nar .boolean 1)), (em_pas A (em_imI I x 1)).2) else (A, I)
def em_rsG (A : Nat → Nat → Int32) (I : Nat → Int32) (x : Int32) : em_G := if xw_in x 0 1 = true then (if A 22 x.toNatClampNeg = 0 then (A, I) else em_pas A (em_imI I x 0)) else (A, I)
def em_rsR (A : Nat → Nat → Int32) (x : Int32) : Int32 := if xw_in x 0 1 = true then (if A 22 x.toNatClampNeg = 0 then -3 else 1) else -2
theorem em_100 {x : Int32} (h : xw_in x 0 1 = true) : ∃ q : Nat, q ≤ 100 ∧ 100 * x = nI q := by
  obtain ⟨h1, -, h3⟩ := xw_inN (a := 0) (c := 1) h (by decide) (by decide)
  refine ⟨100 * x.toNatClampNeg, by omega, ?_⟩
  generalize x.toNatClampNeg = y at *
  subst h1
  exact (Int32.ofNat_mul 100 y).symm
theorem em_in2 {x : Int32} (h : xw_in x 0 1 = true) : vp_in x 2 := by
  obtain ⟨h1, -, h3⟩ := xw_inN (a := 0) (c := 1) h (by decide) (by decide)
  rw [h1]; exact vp_in_nI (by omega) (by decide)
