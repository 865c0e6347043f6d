/-! the reference's judging, as it reckons -/
theorem em_fl_ev : ∀ (m i e : Nat) (A : Nat → Nat → Int32) (I : Nat → Int32) (at_ : Int32), I 25 = nI e → ∃ e2 : Nat, e2 ≤ e + m ∧ (em_fl m i A I at_).2.2 25 = nI e2 := by
  intro m
  induction m with
  | zero => intro i e A I at_ h; exact ⟨e, by omega, h⟩
  | succ m ih =>
    intro i e A I at_ h
    rw [em_fl]
    by_cases h1 : em_dot at_ (A 10 i) = true
    · rw [if_pos h1]
      obtain ⟨e2, h2, h3⟩ := ih (i + 1) (e + 1) (va_up A 11 (upd (A 11) (I 25).toNatClampNeg 0)) (va_up I 25 (I 25 + 1)) at_ (by rw [va_up_self, h]; exact nI_1 e)
      exact ⟨e2, by omega, h3⟩
    · rw [if_neg h1]
      by_cases h2 : em_rdB A (I 25).toNatClampNeg at_ (A 10 i) = true
      · rw [if_pos h2]
        obtain ⟨e2, h3, h4⟩ := ih (i + 1) (if em_nat at_ = 0 then e + 1 else e) (em_rdA A (I 25).toNatClampNeg at_ (A 10 i)) (em_evi I at_) (em_nat at_) (em_evi_e h)
        exact ⟨e2, by revert h3; split <;> omega, h4⟩
      · rw [if_neg h2]; exact ⟨e, by omega, h⟩
theorem em_flt_ev (A : Nat → Nat → Int32) (I : Nat → Int32) (n : Nat) : ∃ e : Nat, e ≤ n ∧ (em_flt A I n).2.2 25 = nI e := by
  obtain ⟨e, h1, h2⟩ := em_fl_ev n 0 0 A (va_up I 25 0) 0 rfl
  exact ⟨e, by omega, h2⟩
theorem em_gs_25 : ∀ (m k : Nat) (A : Nat → Nat → Int32) (I : Nat → Int32), (em_gs m k A I).2 25 = I 25 := by
  intro m
  induction m with
  | zero => intros; rfl
  | succ m ih =>
    intro k A I
    rw [em_gs]
    split
    · rfl
    · split
      · rfl
      · split
        · rw [ih]
        · split
          · rw [ih, em_hpI_ne (by decide) (by decide) (by decide) (by decide)]
          · rw [ih, va_up_ne _ _ (by decide), va_up_ne _ _ (by decide)]
theorem em_gos_25 (A : Nat → Nat → Int32) (I : Nat → Int32) : (em_gos A I).2 25 = I 25 := by
  unfold em_gos
  rw [em_gs_25]
  rfl
def em_sumr (A : Nat → Nat → Int32) (I : Nat → Int32) (n : Nat) : em_G := em_gos (em_kpk (em_flt A I n).2.1 6) (va_up (em_flt A I n).2.2 34 ((em_flt A I n).2.2 14))
def em_pb (g : em_G) : em_G := (em_pbk g.1 6, va_up g.2 14 (g.2 34))
theorem em_pb_25 (g : em_G) : (em_pb g).2 25 = g.2 25 := by
  show va_up g.2 14 (g.2 34) 25 = g.2 25
  exact va_up_ne _ _ (by decide)
theorem em_sumr_25 (A : Nat → Nat → Int32) (I : Nat → Int32) (n : Nat) : (em_sumr A I n).2 25 = (em_flt A I n).2.2 25 := by
  unfold em_sumr
  rw [em_gos_25, va_up_ne _ _ (by decide)]
def em_rfG (A : Nat → Nat → Int32) (I : Nat → Int32) (n : Nat) : em_G := if (em_flt A I n).1 < 0 then em_pb (em_sumr A I n) else (em_flt A I n).2
def em_rfR (A : Nat → Nat → Int32) (I : Nat → Int32) (n : Nat) : Int32 := if (em_flt A I n).1 < 0 then (if (em_sumr A I n).2 26 < 0 then -6 else -3) else -5
theorem em_rfG_25 (A : Nat → Nat → Int32) (I : Nat → Int32) (n : Nat) : ∃ e : Nat, e ≤ n ∧ (em_rfG A I n).2 25 = nI e := by
  obtain ⟨e, h1, h2⟩ := em_flt_ev A I n
  refine ⟨e, h1, ?_⟩
  unfold em_rfG
  by_cases h : (em_flt A I n).1 < 0
  · rw [if_pos h]
    rw [em_pb_25, em_sumr_25, h2]
  · rw [if_neg h, h2]
def em_juG (A : Nat → Nat → Int32) (I : Nat → Int32) (n : Nat) (w : Int32) : em_G := if xw_in w 0 4 = true then em_rfG A I n else (A, I)
def em_jsw (J : Nat → Int32) (w : Int32) : Int32 := if w = 0 then J 26 else if w = 1 then J 27 else if w = 2 then J 28 else if w = 3 then J 29 else J 30
def em_jud (A : Nat → Nat → Int32) (I : Nat → Int32) (n : Nat) (w : Int32) : Int32 := if xw_in w 0 4 = true then (if (em_flt A I n).1 < 0 then (if w ≤ 1 then em_jsw (em_sumr A I n).2 w else if (em_sumr A I n).2 26 < 0 then em_jsw (em_sumr A I n).2 w else -3) else -5) else -2
def em_beG (A : Nat → Nat → Int32) (I : Nat → Int32) (n : Nat) (p w : Int32) : em_G := if em_isT I p = true then (if xw_in w 0 2 = true then em_rfG A I n else (A, I)) else (A, I)
def em_beh (A : Nat → Nat → Int32) (I : Nat → Int32) (n : Nat) (p w : Int32) : Int32 := if em_isT I p = true then (if xw_in w 0 2 = true then (if (em_flt A I n).1 < 0 then (if (em_sumr A I n).2 26 < 0 then em_sto (em_sumr A I n).1 p w else -3) else -5) else -2) else -1
def em_dnG (A : Nat → Nat → Int32) (I : Nat → Int32) (n : Nat) : em_G := if (em_flt A I n).1 < 0 then (if (em_sumr A I n).2 26 < 0 then ((em_sumr A I n).1, va_up (em_sumr A I n).2 20 0) else em_pb (em_sumr A I n)) else (em_flt A I n).2
def em_don (A : Nat → Nat → Int32) (I : Nat → Int32) (n : Nat) : Int32 := if (em_flt A I n).1 < 0 then (if (em_sumr A I n).2 26 < 0 then (em_sumr A I n).2 25 else -3) else -5
def em_dao (A : Nat → Nat → Int32) (a b : Int32) : Nat → Int32
  | 0 => 0
  | k + 1 => em_dao A a b k + (if A 11 k ≤ 0 then 0 else if A 12 k = a then (if A 13 k = b then 1 else 0) else 0)
def em_tid (A : Nat → Nat → Int32) (e k : Nat) : Int32 := em_dao A (nI k / 6) (nI k - nI k / 6 * 6) e
def em_tik (A : Nat → Nat → Int32) (e : Nat) : Nat → Int32 × Int32
  | 0 => (-6, 0)
  | k + 1 => (if em_tid A e k ≤ (em_tik A e k).2 then (em_tik A e k).1 else 10 * (nI k / 6) + (nI k - nI k / 6 * 6), em_mst (em_tik A e k).2 (em_tid A e k))
def em_tiG (A : Nat → Nat → Int32) (I : Nat → Int32) (n : Nat) (w : Int32) : em_G := if xw_in w 0 1 = true then em_rfG A I n else (A, I)
def em_tiw (x : Int32 × Int32) (w : Int32) : Int32 := if x.1 < 0 then x.1 else if w = 0 then x.1 else x.2
def em_tie (A : Nat → Nat → Int32) (I : Nat → Int32) (n e : Nat) (w : Int32) : Int32 := if xw_in w 0 1 = true then (if em_rfR A I n = -6 then em_tiw (em_tik (em_rfG A I n).1 e 36) w else em_rfR A I n) else -2
