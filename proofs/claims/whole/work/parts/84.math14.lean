/-! whether nobody is hurt, as the reference reckons -/
def em_uh1 (A : Nat → Nat → Int32) (I : Nat → Int32) (k : Nat) : Int64 := if A 11 k = 42 then (10 - em_odd A I (A 12 k) (A 14 k)).toInt64 else 1
def em_uh2 (A : Nat → Nat → Int32) (I : Nat → Int32) (k : Nat) : Int64 := if A 11 k = 42 then (10 - em_odd A I (A 13 k) (A 14 k)).toInt64 else if A 11 k = 43 then (10 - em_odd A I (A 13 k) (A 14 k)).toInt64 else 1
def em_uh3 (A : Nat → Nat → Int32) (k : Nat) : Int32 := if A 11 k = 42 then 2 else if A 11 k = 43 then 1 else 0
def em_uhk (A : Nat → Nat → Int32) (I : Nat → Int32) : Nat → Int32 × Int64
  | 0 => (0, 1)
  | k + 1 => if 15 < (em_uhk A I k).1 then em_uhk A I k else ((em_uhk A I k).1 + em_uh3 A k, (em_uhk A I k).2 * em_uh1 A I k * em_uh2 A I k)
theorem em_uhk_st {A : Nat → Nat → Int32} {I : Nat → Int32} {k e : Nat} (hk : k ≤ e) (h : 15 < (em_uhk A I k).1) : em_uhk A I k = em_uhk A I e := by
  induction e with
  | zero => rw [show k = 0 by omega]
  | succ e ih =>
    rcases Nat.lt_or_ge k (e + 1) with q | q
    · have ih' := ih (by omega)
      rw [em_uhk, ← ih', if_pos h]
    · rw [show k = e + 1 by omega]
theorem em_uh1_N (A : Nat → Nat → Int32) (I : Nat → Int32) (k : Nat) : ∃ v : Nat, v ≤ 10 ∧ em_uh1 A I k = lN v ∧ (¬ A 11 k = 42 → v ≤ 1) := by
  unfold em_uh1
  split
  · rename_i h
    obtain ⟨j, hj, e⟩ := em_odd_N A I (A 12 k) (A 14 k)
    exact ⟨10 - j, by omega, by rw [e, em_ten_l j hj], fun h2 => absurd h h2⟩
  · exact ⟨1, by omega, rfl, fun _ => Nat.le_refl 1⟩
theorem em_uh2_N (A : Nat → Nat → Int32) (I : Nat → Int32) (k : Nat) : ∃ v : Nat, v ≤ 10 ∧ em_uh2 A I k = lN v ∧ (¬ A 11 k = 42 → ¬ A 11 k = 43 → v ≤ 1) := by
  unfold em_uh2
  obtain ⟨j, hj, e⟩ := em_odd_N A I (A 13 k) (A 14 k)
  split
  · rename_i h
    exact ⟨10 - j, by omega, by rw [e, em_ten_l j hj], fun h2 => absurd h h2⟩
  · split
    · rename_i h
      exact ⟨10 - j, by omega, by rw [e, em_ten_l j hj], fun _ h2 => absurd h h2⟩
    · exact ⟨1, by omega, rfl, fun _ _ => Nat.le_refl 1⟩
theorem em_uhk_N (A : Nat → Nat → Int32) (I : Nat → Int32) (k : Nat) : ∃ m v : Nat, m ≤ 17 ∧ (em_uhk A I k).1 = nI m ∧ (em_uhk A I k).2 = lN v ∧ v ≤ 10 ^ m := by
  induction k with
  | zero => exact ⟨0, 1, by omega, rfl, rfl, by decide⟩
  | succ k ih =>
    obtain ⟨m, v, h1, h2, h3, h4⟩ := ih
    rw [em_uhk]
    by_cases h : 15 < (em_uhk A I k).1
    · rw [if_pos h]; exact ⟨m, v, h1, h2, h3, h4⟩
    · rw [if_neg h]
      have hm : m ≤ 15 := by
        rw [h2] at h
        rcases Nat.lt_or_ge 15 m with q | q
        · exact absurd (nI_lt (a := 15) (b := m) q (by omega)) h
        · exact q
      obtain ⟨a, ha, ea, fa⟩ := em_uh1_N A I k
      obtain ⟨b, hb, eb, fb⟩ := em_uh2_N A I k
      have hv : (em_uhk A I k).2 * em_uh1 A I k * em_uh2 A I k = lN (v * a * b) := by rw [h3, ea, eb, lN_mul, lN_mul]
      have hp : 10 ^ (m + 1) = 10 ^ m * 10 := Nat.pow_succ ..
      have hp2 : 10 ^ (m + 2) = 10 ^ m * 10 * 10 := by rw [Nat.pow_succ, Nat.pow_succ]
      refine ⟨m + (if A 11 k = 42 then 2 else if A 11 k = 43 then 1 else 0), v * a * b, by split <;> (try split) <;> omega, ?_, hv, ?_⟩
      · rw [h2]; unfold em_uh3
        split
        · exact nI_add m 2
        · split
          · exact nI_add m 1
          · exact nI_add m 0
      · split
        · rw [hp2]; exact Nat.mul_le_mul (Nat.mul_le_mul h4 ha) hb
        · rename_i h42
          split
          · rw [hp, show v * a * b = (v * a) * b from rfl]
            have := Nat.mul_le_mul (Nat.mul_le_mul h4 (fa h42)) hb
            rwa [Nat.mul_one] at this
          · rename_i h43
            have := Nat.mul_le_mul (Nat.mul_le_mul h4 (fa h42)) (fb h42 h43)
            rwa [Nat.mul_one, Nat.mul_one] at this
theorem em_cl17 {m v : Nat} (hm : m ≤ 17) (hv : v ≤ 10 ^ m) : v < 2 ^ 60 ∧ 10 ^ m < 2 ^ 60 ∧ 0 < 10 ^ m := by
  have h1 : 10 ^ m ≤ 10 ^ 17 := Nat.pow_le_pow_right (by decide) hm
  have h2 : (10 : Nat) ^ 17 < 2 ^ 60 := by decide
  exact ⟨by omega, by omega, Nat.pow_pos (by decide)⟩
theorem em_v42 {P : Prop} [Decidable P] (h : ¬ (if P then (1 : Int32) else 0) = 0) : P := Decidable.byContradiction fun h9 => h (if_neg h9)
def em_unh (A : Nat → Nat → Int32) (I : Nat → Int32) (n e : Nat) (w : Int32) : Int64 := if xw_in w 0 1 = true then (if em_rfR A I n = -6 then (if (em_uhk (em_rfG A I n).1 (em_rfG A I n).2 e).1 ≤ 15 then em_low (em_uhk (em_rfG A I n).1 (em_rfG A I n).2 e).2.toNatClampNeg (10 ^ (em_uhk (em_rfG A I n).1 (em_rfG A I n).2 e).1.toNatClampNeg) w else -1000000000000000004) else -1000000000000000000 + (em_rfR A I n).toInt64) else -1000000000000000002
