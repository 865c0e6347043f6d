/-! the reference's worths, climbs, games, as it reckons -/
def em_dnb (A : Nat → Nat → Int32) (I : Nat → Int32) (p q h : Int32) : Int32 := 10 * q * h - em_odd A I p h * (I 10 + A 1 p.toNatClampNeg * h)
def em_dsb (A : Nat → Nat → Int32) (I : Nat → Int32) (p q h : Int32) : Bool := !decide (em_dnb A I p q h < dt_wrf h q)
def em_dit (A : Nat → Nat → Int32) (I : Nat → Int32) (p h : Int32) : Bool := em_dsb A I p (A 2 p.toNatClampNeg) h
def em_odr (A : Nat → Nat → Int32) (I : Nat → Int32) (p h : Int32) : Int32 := if em_isT I p = true then (if xw_in h 1 15 = true then em_odd A I p h else -2) else -1
def em_wor (A : Nat → Nat → Int32) (I : Nat → Int32) (p h w : Int32) : Int32 := if em_isT I p = true then (if xw_in h 1 15 = true then (if xw_in w 0 1 = true then (if w = 0 then 1000000 + em_dnb A I p (A 2 p.toNatClampNeg) h else 1000000 + dt_wrf h (A 2 p.toNatClampNeg)) else -2) else -2) else -1
def em_doe (A : Nat → Nat → Int32) (I : Nat → Int32) (p h : Int32) : Int32 := if em_isT I p = true then (if xw_in h 1 15 = true then (if em_dit A I p h = true then 1 else 0) else -2) else -1
def em_nrk (A : Nat → Nat → Int32) (I : Nat → Int32) (p : Int32) : Nat → Int32 → Int32 → Int32 × Int32
  | 0, f, s => (f, s)
  | k + 1, f, s => em_nrk A I p k (if em_dit A I p (nI (k + 1)) = true then f else nI (k + 1)) (if s = 0 then (if em_odd A I p (nI (k + 1)) = 0 then nI (k + 1) else s) else s)
theorem em_nrk_S {A : Nat → Nat → Int32} {I : Nat → Int32} {p f s : Int32} {k : Nat} (h : 0 < k) : em_nrk A I p k f s = em_nrk A I p (k - 1) (if em_dit A I p (nI k) = true then f else nI k) (if s = 0 then (if em_odd A I p (nI k) = 0 then nI k else s) else s) := by
  obtain ⟨j, rfl⟩ : ∃ j, k = j + 1 := ⟨k - 1, by omega⟩
  rfl
def em_ner (A : Nat → Nat → Int32) (I : Nat → Int32) (p w : Int32) : Int32 := if em_isT I p = true then (if xw_in w 0 2 = true then (if w = 0 then (if 0 ≤ (em_nrk A I p 15 (-6) 0).1 then (em_nrk A I p 15 (-6) 0).1 - 1 else 15) else if w = 1 then (em_nrk A I p 15 (-6) 0).1 else (em_nrk A I p 15 (-6) 0).2) else -2) else -1
def em_low (u l : Nat) (x : Int32) : Int64 := if x = 0 then lN (u / Nat.gcd l u) else lN (l / Nat.gcd l u)
def em_tns : Nat → Int64
  | 0 => 1
  | k + 1 => em_tns k * 10
def em_sto (A : Nat → Nat → Int32) (p w : Int32) : Int32 := if w = 0 then A 5 p.toNatClampNeg + 1000 else if w = 1 then A 4 p.toNatClampNeg else A 6 p.toNatClampNeg
def em_stt (A : Nat → Nat → Int32) (I : Nat → Int32) (p w : Int32) : Int32 := if em_isT I p = true then (if xw_in w 0 2 = true then em_sto A p w else -2) else -1
def em_two (I : Nat → Int32) (a b : Int32) : Bool := if em_isT I a = true then (if em_isT I b = true then !decide (a = b) else false) else false
def em_isC (h l : Int32) : Bool := if xw_in l 1 15 = true then xw_in h 1 l else false
abbrev em_C : Type := Int32 × Int32 × Int32 × Int64
def em_cuk (A : Nat → Nat → Int32) (I : Nat → Int32) (f s : Int32) (lm st : Nat) : Nat → Nat → Int32 → Int32 → Int32 → Int32 → Int64 → em_C
  | 0, _, _, dn, la, re, u => (dn, la, re, u)
  | n + 1, h, d, dn, la, re, u => if lm < h then (dn, la, re, u) else if 0 ≤ re then (dn, la, re, u) else
      if em_dit A I d (nI h) = true then em_cuk A I f s lm st n (h + st) (if d = s then f else s) (dn + 1) (nI h) re (u * (10 - em_odd A I d (nI h)).toInt64) else em_cuk A I f s lm st n (h + st) d dn (nI h) d u
def em_clu (A : Nat → Nat → Int32) (I : Nat → Int32) (f s : Int32) (hh lm st : Nat) : em_C := em_cuk A I f s lm st 16 hh s 0 (nI hh) (-6) 1
def em_cI (I : Nat → Int32) (x : em_C) : Nat → Int32 := va_up (va_up (va_up I 35 x.1) 36 x.2.1) 37 x.2.2.1
theorem em_cuk_S {A : Nat → Nat → Int32} {I : Nat → Int32} {f s : Int32} {lm st k h : Nat} {d dn la re : Int32} {u : Int64} (hk : k < 16) : em_cuk A I f s lm st (16 - k) h d dn la re u = if lm < h then (dn, la, re, u) else if 0 ≤ re then (dn, la, re, u) else
      if em_dit A I d (nI h) = true then em_cuk A I f s lm st (16 - (k + 1)) (h + st) (if d = s then f else s) (dn + 1) (nI h) re (u * (10 - em_odd A I d (nI h)).toInt64) else em_cuk A I f s lm st (16 - (k + 1)) (h + st) d dn (nI h) d u := by
  rw [show 16 - k = (16 - (k + 1)) + 1 by omega, em_cuk]
theorem em_odd_ne {A : Nat → Nat → Int32} {I : Nat → Int32} {p h v : Int32} {j : Nat} (hj : j ≠ 13) : em_odd A (va_up I j v) p h = em_odd A I p h := by
  unfold em_odd
  rw [va_up_ne _ _ (Ne.symm hj)]
theorem em_dit_ne {A : Nat → Nat → Int32} {I : Nat → Int32} {p h v : Int32} {j : Nat} (hj : j ≠ 13) (hj2 : j ≠ 10) : em_dit A (va_up I j v) p h = em_dit A I p h := by
  unfold em_dit em_dsb em_dnb
  rw [em_odd_ne hj, va_up_ne _ _ (Ne.symm hj2)]
theorem em_cI_a {I : Nat → Int32} {dn la re h : Int32} {u u2 : Int64} : va_up (va_up (em_cI I (dn, la, re, u)) 36 h) 35 (va_up (em_cI I (dn, la, re, u)) 36 h 35 + 1) = em_cI I (dn + 1, h, re, u2) := by
  have e : va_up (em_cI I (dn, la, re, u)) 36 h 35 = dn := rfl
  rw [e]
  funext k
  unfold em_cI va_up
  by_cases h1 : k = 35
  · subst h1; rfl
  · by_cases h2 : k = 36
    · subst h2; rfl
    · by_cases h3 : k = 37
      · subst h3; rfl
      · simp only [h1, h2, h3, if_false]
theorem em_cI_b {I : Nat → Int32} {dn la re h d : Int32} {u u2 : Int64} : va_up (va_up (em_cI I (dn, la, re, u)) 36 h) 37 d = em_cI I (dn, h, d, u2) := by
  funext k
  unfold em_cI va_up
  by_cases h1 : k = 35
  · subst h1; rfl
  · by_cases h2 : k = 36
    · subst h2; rfl
    · by_cases h3 : k = 37
      · subst h3; rfl
      · simp only [h1, h2, h3, if_false]
