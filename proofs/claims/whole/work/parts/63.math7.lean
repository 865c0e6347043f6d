/-! the reference's summers, as it reckons -/
def em_rdA (A : Nat → Nat → Int32) (ev : Nat) (at_ c : Int32) : Nat → Nat → Int32 :=
  if 2 ≤ at_ then (if at_ = 2 then va_up A 14 (upd (A 14) ev (10 * (c - 48))) else if at_ = 3 then va_up A 14 (upd (A 14) ev (A 14 ev + (c - 48))) else va_up A 11 (upd (A 11) ev c))
  else va_up (va_up A 12 (upd (A 12) ev (if at_ = 0 then c - 65 else A 12 ev))) 13 (upd (A 13) ev (c - 65))
def em_rdB (A : Nat → Nat → Int32) (ev : Nat) (at_ c : Int32) : Bool :=
  if 2 ≤ at_ then (if at_ = 2 then xw_in c 48 49 else if at_ = 3 then (if xw_in c 48 57 = true then xw_in (A 14 ev + (c - 48)) 1 15 else false) else if c = 43 then true else if c = 45 then true else decide (c = 42))
  else xw_in c 65 70
abbrev em_F : Type := Int32 × (Nat → Nat → Int32) × (Nat → Int32)
def em_dot (at_ c : Int32) : Bool := if at_ = 0 then decide (c = 46) else false
def em_nat (at_ : Int32) : Int32 := if at_ = 4 then 0 else at_ + 1
def em_evi (I : Nat → Int32) (at_ : Int32) : Nat → Int32 := va_up I 25 (I 25 + (if em_nat at_ = 0 then 1 else 0))
def em_fl : Nat → Nat → (Nat → Nat → Int32) → (Nat → Int32) → Int32 → em_F
  | 0, _, A, I, at_ => (if at_ ≤ 0 then -6 else I 20, A, I)
  | m + 1, i, A, I, at_ => if em_dot at_ (A 10 i) = true then em_fl m (i + 1) (va_up A 11 (upd (A 11) (I 25).toNatClampNeg 0)) (va_up I 25 (I 25 + 1)) at_
      else if em_rdB A (I 25).toNatClampNeg at_ (A 10 i) = true then em_fl m (i + 1) (em_rdA A (I 25).toNatClampNeg at_ (A 10 i)) (em_evi I at_) (em_nat at_) else (nI i, em_rdA A (I 25).toNatClampNeg at_ (A 10 i), I)
theorem em_fl_S {n i : Nat} {A : Nat → Nat → Int32} {I : Nat → Int32} {at_ : Int32} (hi : i < n) : em_fl (n - i) i A I at_ = if em_dot at_ (A 10 i) = true then em_fl (n - (i + 1)) (i + 1) (va_up A 11 (upd (A 11) (I 25).toNatClampNeg 0)) (va_up I 25 (I 25 + 1)) at_
      else if em_rdB A (I 25).toNatClampNeg at_ (A 10 i) = true then em_fl (n - (i + 1)) (i + 1) (em_rdA A (I 25).toNatClampNeg at_ (A 10 i)) (em_evi I at_) (em_nat at_) else (nI i, em_rdA A (I 25).toNatClampNeg at_ (A 10 i), I) := by
  rw [show n - i = (n - (i + 1)) + 1 by omega, em_fl]
def em_flt (A : Nat → Nat → Int32) (I : Nat → Int32) (n : Nat) : em_F := em_fl n 0 A (va_up I 25 0) 0
theorem em_doT_ne {A : Nat → Nat → Int32} {I : Nat → Int32} {p h : Int32} {j : Nat} (h4 : j ≠ 4) (h5 : j ≠ 5) (h6 : j ≠ 6) : em_doT A I p h j = A j := by
  unfold em_doT em_do3
  rw [va_up_ne _ _ h6, va_up_ne _ _ h5, va_up_ne _ _ h4]
def em_hp2 (A : Nat → Nat → Int32) (I : Nat → Int32) (a b h s : Int32) : Nat → Nat → Int32 :=
  if s = 43 then em_doT A I b h else if s = 45 then va_up A 5 (upd (A 5) b.toNatClampNeg (A 5 b.toNatClampNeg - h / 2))
  else if em_doH A I a h = 0 then em_doT (em_doT A I a h) (em_doI I) b h else em_doT A I a h
def em_hi2 (A : Nat → Nat → Int32) (I : Nat → Int32) (a h s : Int32) : Nat → Int32 :=
  if s = 43 then va_up (em_doI I) 28 (I 28 + 1) else if s = 45 then va_up I 29 (I 29 + 1)
  else if em_doH A I a h = 0 then va_up (em_doI (em_doI I)) 30 (I 30 + 1) else va_up (em_doI I) 30 (I 30 + 1)
def em_hpA (A : Nat → Nat → Int32) (I : Nat → Int32) (k : Nat) : Nat → Nat → Int32 := em_hp2 A I (A 12 k) (A 13 k) (A 14 k) (A 11 k)
def em_hpI (A : Nat → Nat → Int32) (I : Nat → Int32) (k : Nat) : Nat → Int32 := em_hi2 A I (A 12 k) (A 14 k) (A 11 k)
theorem em_doI_ne {I : Nat → Int32} {j : Nat} (h : j ≠ 14) : em_doI I j = I j := va_up_ne _ _ h
theorem em_hpI_ne {A : Nat → Nat → Int32} {I : Nat → Int32} {k j : Nat} (h1 : j ≠ 14) (h2 : j ≠ 28) (h3 : j ≠ 29) (h4 : j ≠ 30) : em_hpI A I k j = I j := by
  unfold em_hpI em_hi2
  split
  · rw [va_up_ne _ _ h2, em_doI_ne h1]
  · split
    · rw [va_up_ne _ _ h3]
    · split
      · rw [va_up_ne _ _ h4, em_doI_ne h1, em_doI_ne h1]
      · rw [va_up_ne _ _ h4, em_doI_ne h1]
theorem xw_cpU {f g : Nat → Int32} {k : Nat} : upd (xw_cp f g k) k (f k) = xw_cp f g (k + 1) := by
  funext j
  unfold upd xw_cp
  by_cases h : j = k
  · subst h; rw [if_pos rfl, if_pos (by omega)]
  · rw [if_neg h]
    by_cases h2 : j < k
    · rw [if_pos h2, if_pos (by omega)]
    · rw [if_neg h2, if_neg (by omega)]
def em_kpk (A : Nat → Nat → Int32) (k : Nat) : Nat → Nat → Int32 := va_up (va_up (va_up A 15 (xw_cp (A 4) (A 15) k)) 16 (xw_cp (A 5) (A 16) k)) 17 (xw_cp (A 6) (A 17) k)
def em_pbk (A : Nat → Nat → Int32) (k : Nat) : Nat → Nat → Int32 := va_up (va_up (va_up A 4 (xw_cp (A 15) (A 4) k)) 5 (xw_cp (A 16) (A 5) k)) 6 (xw_cp (A 17) (A 6) k)
theorem em_up_self (A : Nat → Nat → Int32) (j : Nat) : va_up A j (A j) = A := by
  funext i
  unfold va_up
  by_cases h : i = j
  · rw [if_pos h, h]
  · rw [if_neg h]
theorem em_kp0 {A : Nat → Nat → Int32} : A = em_kpk A 0 := by
  unfold em_kpk
  rw [xw_cp0, xw_cp0, xw_cp0, em_up_self, em_up_self, em_up_self]
theorem em_pb0 {A : Nat → Nat → Int32} : A = em_pbk A 0 := by
  unfold em_pbk
  rw [xw_cp0, xw_cp0, xw_cp0, em_up_self, em_up_self, em_up_self]
theorem em_up_up (A : Nat → Nat → Int32) (j : Nat) (f g : Nat → Int32) : va_up (va_up A j f) j g = va_up A j g := by
  funext i
  unfold va_up
  by_cases h : i = j
  · rw [if_pos h, if_pos h]
  · rw [if_neg h, if_neg h, if_neg h]
theorem em_up_sw (A : Nat → Nat → Int32) {i j : Nat} (h : i ≠ j) (f g : Nat → Int32) : va_up (va_up A i f) j g = va_up (va_up A j g) i f := by
  funext k
  unfold va_up
  by_cases h1 : k = j
  · rw [if_pos h1, if_neg (by omega), if_pos h1]
  · by_cases h2 : k = i
    · rw [if_neg h1, if_pos h2, if_pos h2]
    · rw [if_neg h1, if_neg h2, if_neg h2, if_neg h1]
theorem em_why_le {A : Nat → Nat → Int32} {I : Nat → Int32} {a b h : Int32} (hw : em_why A I a b h ≤ 0) : vp_in a 6 ∧ vp_in b 6 := by
  unfold em_why at hw
  by_cases h1 : em_isT I a = true
  · by_cases h2 : em_isT I b = true
    · exact ⟨em_isT_in h1, em_isT_in h2⟩
    · rw [if_pos h1, if_neg h2] at hw; exact absurd hw (by decide)
  · rw [if_neg h1] at hw; exact absurd hw (by decide)
abbrev em_G : Type := (Nat → Nat → Int32) × (Nat → Int32)
def em_gs : Nat → Nat → (Nat → Nat → Int32) → (Nat → Int32) → em_G
  | 0, _, A, I => (A, I)
  | m + 1, k, A, I => if I 25 ≤ nI k then (A, I) else if 0 ≤ I 26 then (A, I) else if A 11 k = 0 then em_gs m (k + 1) (em_nik A (I 11) 6) I
      else if em_why A I (A 12 k) (A 13 k) (A 14 k) ≤ 0 then em_gs m (k + 1) (em_hpA A I k) (em_hpI A I k) else em_gs m (k + 1) A (va_up (va_up I 26 (nI k)) 27 (em_why A I (A 12 k) (A 13 k) (A 14 k)))
theorem em_gs_S {k : Nat} {A : Nat → Nat → Int32} {I : Nat → Int32} (hk : k < 61) : em_gs (61 - k) k A I = if I 25 ≤ nI k then (A, I) else if 0 ≤ I 26 then (A, I) else if A 11 k = 0 then em_gs (61 - (k + 1)) (k + 1) (em_nik A (I 11) 6) I
      else if em_why A I (A 12 k) (A 13 k) (A 14 k) ≤ 0 then em_gs (61 - (k + 1)) (k + 1) (em_hpA A I k) (em_hpI A I k) else em_gs (61 - (k + 1)) (k + 1) A (va_up (va_up I 26 (nI k)) 27 (em_why A I (A 12 k) (A 13 k) (A 14 k))) := by
  rw [show 61 - k = (61 - (k + 1)) + 1 by omega, em_gs]
def em_gI (I : Nat → Int32) : Nat → Int32 := va_up (va_up (va_up (va_up (va_up I 26 (-6)) 27 (-6)) 28 0) 29 0) 30 0
def em_gos (A : Nat → Nat → Int32) (I : Nat → Int32) : em_G := em_gs 61 0 A (em_gI I)
theorem em_gos_0 {A : Nat → Nat → Int32} {I : Nat → Int32} : em_gos A I = em_gs (61 - 0) 0 A (em_gI I) := by
  unfold em_gos
  rw [Nat.sub_zero]
theorem em_evi_e {I : Nat → Int32} {e : Nat} {at_ : Int32} (h : I 25 = nI e) : em_evi I at_ 25 = nI (if em_nat at_ = 0 then e + 1 else e) := by
  unfold em_evi
  rw [va_up_self, h]
  by_cases h1 : em_nat at_ = 0
  · rw [if_pos h1, if_pos h1]; exact nI_1 e
  · rw [if_neg h1, if_neg h1]; exact Int32.add_zero _
theorem em_kpS {A : Nat → Nat → Int32} {k : Nat} (hk : k < 2 ^ 31) : va_up (va_up (va_up (em_kpk A k) 15 (upd (em_kpk A k 15) (nI k).toNatClampNeg (em_kpk A k 4 (nI k).toNatClampNeg))) 16 (upd (va_up (em_kpk A k) 15 (upd (em_kpk A k 15) (nI k).toNatClampNeg (em_kpk A k 4 (nI k).toNatClampNeg)) 16) (nI k).toNatClampNeg (va_up (em_kpk A k) 15 (upd (em_kpk A k 15) (nI k).toNatClampNeg (em_kpk A k 4 (nI k).toNatClampNeg)) 5 (nI k).toNatClampNeg))) 17 (upd (va_up (va_up (em_kpk A k) 15 (upd (em_kpk A k 15) (nI k).toNatClampNeg (em_kpk A k 4 (nI k).toNatClampNeg))) 16 (upd (va_up (em_kpk A k) 15 (upd (em_kpk A k 15) (nI k).toNatClampNeg (em_kpk A k 4 (nI k).toNatClampNeg)) 16) (nI k).toNatClampNeg (va_up (em_kpk A k) 15 (upd (em_kpk A k 15) (nI k).toNatClampNeg (em_kpk A k 4 (nI k).toNatClampNeg)) 5 (nI k).toNatClampNeg)) 17) (nI k).toNatClampNeg (va_up (va_up (em_kpk A k) 15 (upd (em_kpk A k 15) (nI k).toNatClampNeg (em_kpk A k 4 (nI k).toNatClampNeg))) 16 (upd (va_up (em_kpk A k) 15 (upd (em_kpk A k 15) (nI k).toNatClampNeg (em_kpk A k 4 (nI k).toNatClampNeg)) 16) (nI k).toNatClampNeg (va_up (em_kpk A k) 15 (upd (em_kpk A k 15) (nI k).toNatClampNeg (em_kpk A k 4 (nI k).toNatClampNeg)) 5 (nI k).toNatClampNeg)) 6 (nI k).toNatClampNeg)) = em_kpk A (k + 1) := by
  rw [xb_cl hk]
  funext j
  by_cases h17 : j = 17
  · subst h17; simp [em_kpk, va_up_self, va_up_ne, xw_cpU]
  · by_cases h16 : j = 16
    · subst h16; simp [em_kpk, va_up_self, va_up_ne, xw_cpU]
    · by_cases h15 : j = 15
      · subst h15; simp [em_kpk, va_up_self, va_up_ne, xw_cpU]
      · unfold em_kpk; simp only [va_up_ne _ _ h17, va_up_ne _ _ h16, va_up_ne _ _ h15]
theorem em_pbS {A : Nat → Nat → Int32} {k : Nat} (hk : k < 2 ^ 31) : va_up (va_up (va_up (em_pbk A k) 4 (upd (em_pbk A k 4) (nI k).toNatClampNeg (em_pbk A k 15 (nI k).toNatClampNeg))) 5 (upd (va_up (em_pbk A k) 4 (upd (em_pbk A k 4) (nI k).toNatClampNeg (em_pbk A k 15 (nI k).toNatClampNeg)) 5) (nI k).toNatClampNeg (va_up (em_pbk A k) 4 (upd (em_pbk A k 4) (nI k).toNatClampNeg (em_pbk A k 15 (nI k).toNatClampNeg)) 16 (nI k).toNatClampNeg))) 6 (upd (va_up (va_up (em_pbk A k) 4 (upd (em_pbk A k 4) (nI k).toNatClampNeg (em_pbk A k 15 (nI k).toNatClampNeg))) 5 (upd (va_up (em_pbk A k) 4 (upd (em_pbk A k 4) (nI k).toNatClampNeg (em_pbk A k 15 (nI k).toNatClampNeg)) 5) (nI k).toNatClampNeg (va_up (em_pbk A k) 4 (upd (em_pbk A k 4) (nI k).toNatClampNeg (em_pbk A k 15 (nI k).toNatClampNeg)) 16 (nI k).toNatClampNeg)) 6) (nI k).toNatClampNeg (va_up (va_up (em_pbk A k) 4 (upd (em_pbk A k 4) (nI k).toNatClampNeg (em_pbk A k 15 (nI k).toNatClampNeg))) 5 (upd (va_up (em_pbk A k) 4 (upd (em_pbk A k 4) (nI k).toNatClampNeg (em_pbk A k 15 (nI k).toNatClampNeg)) 5) (nI k).toNatClampNeg (va_up (em_pbk A k) 4 (upd (em_pbk A k 4) (nI k).toNatClampNeg (em_pbk A k 15 (nI k).toNatClampNeg)) 16 (nI k).toNatClampNeg)) 17 (nI k).toNatClampNeg)) = em_pbk A (k + 1) := by
  rw [xb_cl hk]
  funext j
  by_cases h6 : j = 6
  · subst h6; simp [em_pbk, va_up_self, va_up_ne, xw_cpU]
  · by_cases h5 : j = 5
    · subst h5; simp [em_pbk, va_up_self, va_up_ne, xw_cpU]
    · by_cases h4 : j = 4
      · subst h4; simp [em_pbk, va_up_self, va_up_ne, xw_cpU]
      · unfold em_pbk; simp only [va_up_ne _ _ h6, va_up_ne _ _ h5, va_up_ne _ _ h4]
