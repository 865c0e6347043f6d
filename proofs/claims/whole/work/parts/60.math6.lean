/-! the reference, as it reckons -/
theorem xw_inL_lit (x lo hi : Int32) (lo' hi' : Int64) (h1 : lo.toInt64 = lo') (h2 : hi.toInt64 = hi') : xw_inL x.toInt64 lo' hi' = xw_in x lo hi := by
  subst h1 h2
  exact xw_inL_of x lo hi
def em_6 (x : Int32) : Prop := ∃ m : Nat, m < 64 ∧ x = nI m
def em_lft (x : Int32) : Nat → Int32
  | 0 => x
  | k + 1 => em_lft x k &&& (em_lft x k - 1)
def em_onk : Nat → Int32 → Nat → Nat
  | 0, _, n => n
  | f + 1, l, n => if l = 0 then n else em_onk f (l &&& (l - 1)) (n + 1)
def em_one (x : Int32) : Int32 := nI (em_onk 7 x 0)
theorem em_lft6 {x : Int32} (h : em_6 x) : em_lft x 6 = 0 := by
  obtain ⟨m, hm, rfl⟩ := h
  exact (show ∀ m, m < 64 → em_lft (nI m) 6 = 0 by decide +kernel) m hm
theorem em_one_bc {x : Int32} (h : em_6 x) : em_one x = xw_bc x := by
  obtain ⟨m, hm, rfl⟩ := h
  exact (show ∀ m, m < 64 → em_one (nI m) = xw_bc (nI m) by decide +kernel) m hm
theorem em_in6 {p : Int32} (h : xw_in p 0 5 = true) : vp_in p 6 := by
  obtain ⟨h1, -, h3⟩ := xw_inN (a := 0) (c := 5) h (by decide) (by decide)
  rw [h1]
  exact vp_in_nI (by omega) (by decide)
theorem em_in6N {p : Int32} (h : xw_in p 0 5 = true) : ∃ j : Nat, j < 6 ∧ p = nI j := by
  obtain ⟨h1, -, h3⟩ := xw_inN (a := 0) (c := 5) h (by decide) (by decide)
  exact ⟨_, by omega, h1⟩
theorem em_or6 {x p : Int32} (h : em_6 x) (hp : xw_in p 0 5 = true) : em_6 (x ||| (1 <<< (p &&& 31))) := by
  obtain ⟨m, hm, rfl⟩ := h
  obtain ⟨j, hj, rfl⟩ := em_in6N hp
  have := (show ∀ m, m < 64 → ∀ j, j < 6 → (nI m ||| ((1 : Int32) <<< (nI j &&& 31))) = nI ((nI m ||| ((1 : Int32) <<< (nI j &&& 31))).toNatClampNeg) ∧ (nI m ||| ((1 : Int32) <<< (nI j &&& 31))).toNatClampNeg < 64 by decide +kernel) m hm j hj
  exact ⟨_, this.2, this.1⟩
theorem em_an6 {x y : Int32} (h : em_6 x) : em_6 (x &&& y) := by
  obtain ⟨m, hm, rfl⟩ := h
  refine ⟨(nI m &&& y).toBitVec.toNat, ?_, ?_⟩
  · have h1 : (nI m &&& y).toBitVec.toNat ≤ (nI m).toBitVec.toNat := by
      rw [Int32.toBitVec_and, BitVec.toNat_and]
      exact Nat.and_le_left
    rw [pk_tn (by omega)] at h1
    omega
  · apply Int32.toBitVec_inj.mp
    apply BitVec.eq_of_toNat_eq
    rw [pk_tn]
    have h1 : (nI m &&& y).toBitVec.toNat ≤ (nI m).toBitVec.toNat := by
      rw [Int32.toBitVec_and, BitVec.toNat_and]
      exact Nat.and_le_left
    rw [pk_tn (by omega)] at h1
    omega
def em_mst (a b : Int32) : Int32 := if a ≤ b then b else a
def em_isT (I : Nat → Int32) (p : Int32) : Bool := if xw_in p 0 5 = true then decide ((I 0 >>> (p &&& 31)) &&& 1 = 1) else false
theorem em_isT_in {I : Nat → Int32} {p : Int32} (h : em_isT I p = true) : vp_in p 6 := by
  unfold em_isT at h
  by_cases h1 : xw_in p 0 5 = true
  · exact em_in6 h1
  · rw [if_neg h1] at h; exact absurd h (by decide)
theorem em_isT_no {I : Nat → Int32} {p : Int32} (h : em_isT I p = true) : xw_in p 0 5 = true := by
  unfold em_isT at h
  by_cases h1 : xw_in p 0 5 = true
  · exact h1
  · rw [if_neg h1] at h; exact absurd h (by decide)
def em_perA (A : Nat → Nat → Int32) (I : Nat → Int32) (p s f q w : Int32) : Nat → Nat → Int32 := va_up (va_up (va_up (va_up (va_up (va_up (va_up A 0 (upd (A 0) p.toNatClampNeg s)) 1 (upd (A 1) p.toNatClampNeg f)) 2 (upd (A 2) p.toNatClampNeg q)) 3 (upd (A 3) p.toNatClampNeg w)) 4 (upd (A 4) p.toNatClampNeg (I 9))) 5 (upd (A 5) p.toNatClampNeg 0)) 6 (upd (A 6) p.toNatClampNeg 0)
def em_perT (A : Nat → Nat → Int32) (I : Nat → Int32) (p s f q w : Int32) : Nat → Nat → Int32 := if xw_in p 0 5 = true then (if xw_in s 0 9 = true then (if xw_in f 0 9 = true then (if xw_in q 0 9 = true then em_perA A I p s f q (if w = 0 then 0 else 1) else A) else A) else A) else A
def em_perI (I : Nat → Int32) (p s f q : Int32) : Nat → Int32 := if xw_in p 0 5 = true then (if xw_in s 0 9 = true then (if xw_in f 0 9 = true then (if xw_in q 0 9 = true then va_up I 0 (I 0 ||| (1 <<< (p &&& 31))) else I) else I) else I) else I
def em_perR (I : Nat → Int32) (p s f q : Int32) : Int32 := if xw_in p 0 5 = true then (if xw_in s 0 9 = true then (if xw_in f 0 9 = true then (if xw_in q 0 9 = true then em_one (I 0 ||| (1 <<< (p &&& 31))) else -2) else -2) else -2) else -1
def em_leaI (I : Nat → Int32) (p : Int32) : Nat → Int32 := if em_isT I p = true then va_up I 0 (I 0 &&& ((1 <<< (p &&& 31)) ^^^ (-1))) else I
def em_leaR (I : Nat → Int32) (p : Int32) : Int32 := if em_isT I p = true then em_one (I 0 &&& ((1 <<< (p &&& 31)) ^^^ (-1))) else -1
def em_may (k v : Int32) : Bool := if k = 0 then xw_in v 1 9 else if k = 1 then xw_in v 0 9 else if k = 2 then xw_in v 0 99 else if k = 3 then xw_in v 0 9 else if k = 4 then xw_in v 1 42 else if k = 5 then xw_in v 0 1 else if k = 6 then xw_in v 0 9999 else false
def em_tol (I : Nat → Int32) (k : Int32) : Int32 := if k = 0 then I 8 else if k = 1 then I 9 else if k = 2 then I 10 else if k = 3 then I 11 else if k = 4 then I 12 else if k = 5 then I 13 else I 14
def em_st7 (I : Nat → Int32) (k v : Int32) : Nat → Int32 := va_up (va_up (va_up (va_up (va_up (va_up (va_up I 8 (if k = 0 then v else I 8)) 9 (if k = 1 then v else I 9)) 10 (if k = 2 then v else I 10)) 11 (if k = 3 then v else I 11)) 12 (if k = 4 then v else I 12)) 13 (if k = 5 then v else I 13)) 14 (if k = 6 then v else I 14)
def em_setI (I : Nat → Int32) (k v : Int32) : Nat → Int32 := if em_may k v = true then em_st7 I k v else I
def em_setR (I : Nat → Int32) (k v : Int32) : Int32 := if em_may k v = true then em_tol I k else -2
def em_sayA (A : Nat → Nat → Int32) (I : Nat → Int32) (x : Int32) : Nat → Nat → Int32 := if xw_in x 33 126 = true then (if I 20 = 60 then A else va_up A 10 (upd (A 10) (I 20).toNatClampNeg x)) else A
def em_sayI (I : Nat → Int32) (x : Int32) : Nat → Int32 := if xw_in x 33 126 = true then (if I 20 = 60 then I else va_up I 20 (I 20 + 1)) else I
def em_sayR (I : Nat → Int32) (x : Int32) : Int32 := if xw_in x 33 126 = true then (if I 20 = 60 then -4 else I 20 + 1) else -2
def em_odd (A : Nat → Nat → Int32) (I : Nat → Int32) (p h : Int32) : Int32 := if 0 ≤ (h + 5 * I 13 - A 0 p.toNatClampNeg) / 2 then (if (h + 5 * I 13 - A 0 p.toNatClampNeg) / 2 ≤ 10 then (h + 5 * I 13 - A 0 p.toNatClampNeg) / 2 else 10) else 0
def em_drw (x : Int32) : Int32 := ((75 * x.toInt64 + 74) - (75 * x.toInt64 + 74) / 65537 * 65537).toInt32
def em_do3 (A : Nat → Nat → Int32) (p h : Int32) : Nat → Nat → Int32 := va_up (va_up A 4 (upd (A 4) p.toNatClampNeg (em_mst (A 4 p.toNatClampNeg) h))) 5 (upd (A 5) p.toNatClampNeg (A 5 p.toNatClampNeg + h))
/-- whether it was hurt: 1, 0 -/
def em_doH (A : Nat → Nat → Int32) (I : Nat → Int32) (p h : Int32) : Int32 := if em_odd A I p h ≤ xw_rem (em_drw (I 14)) 10 then 0 else 1
def em_doT (A : Nat → Nat → Int32) (I : Nat → Int32) (p h : Int32) : Nat → Nat → Int32 := va_up (em_do3 A p h) 6 (upd (A 6) p.toNatClampNeg (if em_doH A I p h = 0 then A 6 p.toNatClampNeg else I 12))
def em_doI (I : Nat → Int32) : Nat → Int32 := va_up I 14 (em_drw (I 14))
def em_ab (x : Int32) : Int32 := if 0 ≤ x then x else -x
def em_fa2 (f l : Int32) : Int32 := if 0 ≤ f then l else -l
def em_ni1 (A : Nat → Nat → Int32) (fade : Int32) (k : Nat) : Nat → Nat → Int32 := va_up A 5 (upd (A 5) k (em_fa2 (A 5 k) (em_mst 0 (em_ab (A 5 k) - fade))))
def em_ni2 (A : Nat → Nat → Int32) (k : Nat) : Nat → Nat → Int32 := va_up A 6 (upd (A 6) k (em_mst 0 (A 6 k - 1)))
def em_nik (A : Nat → Nat → Int32) (fade : Int32) : Nat → Nat → Nat → Int32
  | 0 => A
  | k + 1 => em_ni2 (em_ni1 (em_nik A fade k) fade k) k
def em_why (A : Nat → Nat → Int32) (I : Nat → Int32) (a b h : Int32) : Int32 := if em_isT I a = true then (if em_isT I b = true then (if a = b then 1 else if 0 < A 6 a.toNatClampNeg then 2 else if A 6 b.toNatClampNeg ≤ 0 then (if h ≤ A 4 a.toNatClampNeg + I 8 then (if A 4 b.toNatClampNeg < h then 0 else 4) else 3) else 2) else 1) else 1
theorem em_odd_do {A : Nat → Nat → Int32} {I : Nat → Int32} {p h x : Int32} {f g : Nat → Int32} : em_odd (va_up (va_up A 4 f) 5 g) (va_up I 14 x) p h = em_odd A I p h := by
  unfold em_odd
  rw [show va_up I 14 x 13 = I 13 from va_up_ne _ _ (by decide), show (va_up (va_up A 4 f) 5 g) 0 = A 0 from by rw [va_up_ne _ _ (by decide), va_up_ne _ _ (by decide)]]
