/-! the reference's year -/
abbrev em_Y : Type := Int32 × (Nat → Nat → Int32) × (Nat → Int32) × Int32 × Int32 × Int32
theorem em_drw_N {j : Nat} (h : j ≤ 65536) : em_drw (nI j) = nI ((75 * j + 74) % 65537) := by
  unfold em_drw
  rw [nI_l (by omega), show (75 : Int64) * lN j + 74 = lN (75 * j + 74) from by rw [show (75 : Int64) * lN j = lN (75 * j) from lN_mul 75 j]; exact lN_add (75 * j) 74]
  rw [show lN (75 * j + 74) - lN (75 * j + 74) / 65537 * 65537 = lN ((75 * j + 74) % 65537) from pk_lRem (b := 65537) (by omega) (by decide) (by decide), lN_i]
theorem em_rem6 {j : Nat} (h : j < 2 ^ 31) : nI j - nI j / 6 * 6 = nI (j % 6) := pk_rem (d := 6) h (by decide) (by decide)
theorem em_div6 {j : Nat} (h : j < 2 ^ 31) : nI j / 6 = nI (j / 6) := pk_div (d := 6) h (by decide) (by decide)
theorem em_m6 {x : Int32} (h : ∃ j : Nat, j ≤ 65536 ∧ x = nI j) : vp_in (xw_rem x 6) 6 ∧ vp_in (xw_rem (x / 6) 6) 6 := by
  obtain ⟨j, hj, rfl⟩ := h
  unfold xw_rem
  rw [em_rem6 (j := j) (by omega), em_div6 (j := j) (by omega), em_rem6 (j := j / 6) (by omega)]
  exact ⟨vp_in_nI (by omega) (by decide), vp_in_nI (by omega) (by decide)⟩
theorem em_dr6 {x : Int32} (h : ∃ j : Nat, j ≤ 65536 ∧ x = nI j) : ∃ j : Nat, j ≤ 65536 ∧ em_drw x = nI j := by
  obtain ⟨j, hj, rfl⟩ := h
  exact ⟨(75 * j + 74) % 65537, by omega, em_drw_N hj⟩
def em_yh (A : Nat → Nat → Int32) (I : Nat → Int32) (a : Int32) : Int32 := if 15 ≤ A 4 a.toNatClampNeg + I 8 then 15 else A 4 a.toNatClampNeg + I 8
def em_yd (a b h : Int32) (s : em_Y) : em_Y := if em_why s.2.1 s.2.2.1 a b h = 0 then (if em_dit s.2.1 s.2.2.1 b h = true then (s.1, em_doT s.2.1 s.2.2.1 b h, em_doI s.2.2.1, s.2.2.2.1 + 1, s.2.2.2.2.1, s.2.2.2.2.2 + (if em_doH s.2.1 s.2.2.1 b h = 0 then 0 else 1))
  else (s.1, va_up s.2.1 5 (upd (s.2.1 5) b.toNatClampNeg (s.2.1 5 b.toNatClampNeg - h / 2)), s.2.2.1, s.2.2.2.1, s.2.2.2.2.1 + 1, s.2.2.2.2.2)) else s
def em_yn (k : Nat) (s : em_Y) : em_Y := if xw_rem (nI (k + 1)) 3 = 0 then (s.1, em_nik s.2.1 (s.2.2.1 11) 6, s.2.2) else s
def em_ys (k : Nat) (s : em_Y) : em_Y := em_yn k (em_yd (xw_rem (em_drw s.1) 6) (xw_rem (em_drw s.1 / 6) 6) (em_yh s.2.1 s.2.2.1 (xw_rem (em_drw s.1) 6)) (em_drw s.1, s.2))
theorem em_yd_0 {a b h x d r u : Int32} {A : Nat → Nat → Int32} {I : Nat → Int32} (c : ¬ em_why A I a b h = 0) : em_yd a b h (x, A, I, d, r, u) = (x, A, I, d, r, u) := if_neg c
theorem em_yd_1 {a b h x d r u : Int32} {A : Nat → Nat → Int32} {I : Nat → Int32} (c : em_why A I a b h = 0) (c1 : em_dit A I b h = true) : em_yd a b h (x, A, I, d, r, u) = (x, em_doT A I b h, em_doI I, d + 1, r, u + (if decide (em_doH A I b h = 0) = true then 0 else 1)) := by
  unfold em_yd
  rw [if_pos c, if_pos c1]
  simp only [decide_eq_true_eq]
theorem em_yd_2 {a b h x d r u : Int32} {A : Nat → Nat → Int32} {I : Nat → Int32} (c : em_why A I a b h = 0) (c1 : em_dit A I b h = false) : em_yd a b h (x, A, I, d, r, u) = (x, va_up A 5 (upd (A 5) b.toNatClampNeg (A 5 b.toNatClampNeg - h / 2)), I, d, r + 1, u) := by
  unfold em_yd
  rw [if_pos c, if_neg (by rw [c1]; decide)]
theorem em_yn_0 {k : Nat} {s : em_Y} (c : ¬ nI (k + 1) - nI (k + 1) / 3 * 3 = 0) : em_yn k s = s := if_neg c
theorem em_yn_1 {k : Nat} {x : Int32} {A : Nat → Nat → Int32} {I : Nat → Int32} {d : Int32 × Int32 × Int32} (c : nI (k + 1) - nI (k + 1) / 3 * 3 = 0) : em_yn k (x, A, I, d) = (x, em_nik A (I 11) 6, I, d) := if_pos c
theorem em_ys_b {k : Nat} {x d r u x' a b h : Int32} {A : Nat → Nat → Int32} {I : Nat → Int32} {s1 s2 : em_Y} (ex : em_drw x = x') (ea : xw_rem x' 6 = a) (eb : xw_rem (x' / 6) 6 = b) (eh : em_yh A I a = h) (hd : em_yd a b h (x', A, I, d, r, u) = s1) (hn : em_yn k s1 = s2) : em_ys k (x, A, I, d, r, u) = s2 := by
  subst ex ea eb eh hd hn
  rfl
def em_yk : Nat → Nat → em_Y → em_Y
  | 0, _, s => s
  | n + 1, k, s => em_yk n (k + 1) (em_ys k s)
theorem em_yk_S {n k : Nat} {s : em_Y} (h : k < n) : em_yk (n - k) k s = em_yk (n - (k + 1)) (k + 1) (em_ys k s) := by
  rw [show n - k = (n - (k + 1)) + 1 by omega, em_yk]
def em_yea (A : Nat → Nat → Int32) (I : Nat → Int32) (s9 : Int32) (n : Nat) : em_Y := em_yk n 0 (s9, em_kpk A 6, va_up I 34 (I 14), 0, 0, 0)
def em_yeV (s n w : Int32) : Bool := if xw_in s 0 9999 = true then (if xw_in n 1 99 = true then xw_in w 0 2 else false) else false
def em_yeG (A : Nat → Nat → Int32) (I : Nat → Int32) (s n w : Int32) : em_G := if em_yeV s n w = true then em_pb ((em_yea A I s n.toNatClampNeg).2.1, (em_yea A I s n.toNatClampNeg).2.2.1) else (A, I)
def em_yew (s : em_Y) (w : Int32) : Int32 := if w = 0 then s.2.2.2.1 else if w = 1 then s.2.2.2.2.1 else s.2.2.2.2.2
def em_yeR (A : Nat → Nat → Int32) (I : Nat → Int32) (s n w : Int32) : Int32 := if em_yeV s n w = true then em_yew (em_yea A I s n.toNatClampNeg) w else -2
