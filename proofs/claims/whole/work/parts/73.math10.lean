/-! the reference's sayings and sights, as it reckons -/
theorem em_sh6 {p : Int32} (hp : xw_in p 0 5 = true) : em_6 (1 <<< (p &&& 31)) := by
  obtain ⟨j, hj, rfl⟩ := em_in6N hp
  have := (show ∀ j, j < 6 → ((1 : Int32) <<< (nI j &&& 31)) = nI (((1 : Int32) <<< (nI j &&& 31))).toNatClampNeg ∧ ((1 : Int32) <<< (nI j &&& 31)).toNatClampNeg < 64 by decide +kernel) j hj
  exact ⟨_, this.2, this.1⟩
def em_sbj (A : Nat → Nat → Int32) (I : Nat → Int32) (said : Int32) (k : Nat) : Int32 := if em_isT I (nI k) = true then (if A 3 k = 0 then (if em_one said < A 2 k / 2 then 0 else 1) else 0) else 0
def em_sbk (A : Nat → Nat → Int32) (I : Nat → Int32) (said : Int32) : Nat → Int32
  | 0 => said
  | k + 1 => em_sbk A I said k ||| ((if em_sbj A I said k = 0 then 0 else 1 <<< (nI k &&& 31)) : Int32)
def em_sbr (A : Nat → Nat → Int32) (I : Nat → Int32) : Nat → Int32 → Int32
  | 0, x => x
  | n + 1, x => if em_sbk A I x 6 = x then x else em_sbr A I n (em_sbk A I x 6)
theorem em_or6N : ∀ m, m < 64 → ∀ k, k < 6 → (nI m ||| ((1 : Int32) <<< (nI k &&& 31))) = nI (nI m ||| ((1 : Int32) <<< (nI k &&& 31))).toNatClampNeg ∧ (nI m ||| ((1 : Int32) <<< (nI k &&& 31))).toNatClampNeg < 64 ∧ m ≤ (nI m ||| ((1 : Int32) <<< (nI k &&& 31))).toNatClampNeg := by decide +kernel
theorem em_sbk_N {A : Nat → Nat → Int32} {I : Nat → Int32} {x : Int32} {m : Nat} (hx : x = nI m) (hm : m < 64) : ∀ k : Nat, k ≤ 6 → ∃ m2, m2 < 64 ∧ em_sbk A I x k = nI m2 ∧ m ≤ m2 := by
  intro k
  induction k with
  | zero => intro _; exact ⟨m, hm, hx, Nat.le_refl m⟩
  | succ k ih =>
    intro hk
    obtain ⟨m2, h1, h2, h3⟩ := ih (by omega)
    rw [em_sbk, h2]
    by_cases hj : em_sbj A I x k = 0
    · rw [if_pos hj]; exact ⟨m2, h1, Int32.or_zero, h3⟩
    · rw [if_neg hj]
      obtain ⟨a1, a2, a3⟩ := em_or6N m2 h1 k (by omega)
      exact ⟨_, a2, a1, by omega⟩
theorem em_sbr_6 {A : Nat → Nat → Int32} {I : Nat → Int32} : ∀ (n : Nat) (x : Int32), em_6 x → em_6 (em_sbr A I n x) := by
  intro n
  induction n with
  | zero => intro x h; exact h
  | succ n ih =>
    intro x h
    rw [em_sbr]
    by_cases h1 : em_sbk A I x 6 = x
    · rw [if_pos h1]; exact h
    · rw [if_neg h1]
      obtain ⟨m, hm, hx⟩ := h
      obtain ⟨m2, a1, a2, -⟩ := em_sbk_N (A := A) (I := I) hx hm 6 (by omega)
      exact ih _ ⟨m2, a1, a2⟩
def em_hld (I : Nat → Int32) (x : Int32) : Bool := !decide (2 * em_one x ≤ em_one (I 0))
def em_eno (A : Nat → Nat → Int32) (I : Nat → Int32) (p : Int32) : Int32 := if em_isT I p = true then em_sbr A I 65 (1 <<< (p &&& 31)) else -1
def em_hol (A : Nat → Nat → Int32) (I : Nat → Int32) (p : Int32) : Int32 := if em_isT I p = true then (if em_hld I (em_sbr A I 65 (1 <<< (p &&& 31))) = true then 1 else 0) else -1
def em_wik (A : Nat → Nat → Int32) (I : Nat → Int32) : Nat → Int32
  | 0 => 0
  | k + 1 => em_wik A I k ||| ((if em_isT I (nI k) = true then (if A 3 k = 0 then 1 <<< (nI k &&& 31) else 0) else 0) : Int32)
def em_wob (free best : Int32) (k : Nat) : Int32 := if nI k &&& (free ^^^ (-1)) = 0 then (if best < 0 then 1 else if em_one best ≤ em_one (nI k) then 0 else 1) else 0
def em_wok (A : Nat → Nat → Int32) (I : Nat → Int32) (free : Int32) : Nat → Int32
  | 0 => -6
  | k + 1 => if em_wob free (em_wok A I free k) (k + 1) = 0 then em_wok A I free k else if em_hld I (em_sbr A I 65 (nI (k + 1))) = true then nI (k + 1) else em_wok A I free k
theorem em_wok_6 {A : Nat → Nat → Int32} {I : Nat → Int32} {free : Int32} : ∀ k : Nat, k ≤ 63 → em_wok A I free k = -6 ∨ em_6 (em_wok A I free k) := by
  intro k
  induction k with
  | zero => intro _; exact .inl rfl
  | succ k ih =>
    intro hk
    rw [em_wok]
    split
    · exact ih (by omega)
    · split
      · exact .inr ⟨k + 1, by omega, rfl⟩
      · exact ih (by omega)
theorem em_wok_n {A : Nat → Nat → Int32} {I : Nat → Int32} {free : Int32} {k : Nat} (hk : k ≤ 63) (h : ¬ em_wok A I free k < 0) : em_6 (em_wok A I free k) := by
  rcases em_wok_6 (A := A) (I := I) (free := free) k hk with q | q
  · rw [q] at h; exact absurd (by decide) h
  · exact q
def em_won (A : Nat → Nat → Int32) (I : Nat → Int32) (w : Int32) : Int32 := if xw_in w 0 1 = true then (if em_wok A I (em_wik A I 6) 63 < 0 then em_wok A I (em_wik A I 6) 63 else if w = 1 then em_wok A I (em_wik A I 6) 63 else em_one (em_wok A I (em_wik A I 6) 63)) else -2
def em_rfd (A : Nat → Nat → Int32) (I : Nat → Int32) (p y : Int32) (k : Nat) : Bool := if em_isT I (nI k) = true then (if nI k = p then true else if A 6 k = 0 then (if y ≤ A 4 k then true else em_dit A I (nI k) y) else true) else true
def em_rfs (A : Nat → Nat → Int32) (I : Nat → Int32) (p y : Int32) : Int32 := if em_isT I p = true then (if xw_in y 1 15 = true then (if xw_first (em_rfd A I p y) 6 0 < 6 then nI (xw_first (em_rfd A I p y) 6 0) else -6) else -2) else -1
def em_lkk (A : Nat → Nat → Int32) (I : Nat → Int32) (p y : Int32) : Nat → Int32
  | 0 => 0
  | k + 1 => em_lkk A I p y k + (if em_dsb A I p (nI k) y = true then 1 else 0)
def em_lik (A : Nat → Nat → Int32) (I : Nat → Int32) (p y : Int32) : Int32 := if em_isT I p = true then (if xw_in y 1 15 = true then em_lkk A I p y 10 else -2) else -1
def em_seV (I : Nat → Int32) (p y d : Int32) : Bool := if em_isT I p = true then (if xw_in y 1 15 = true then (if xw_in d 0 1 = true then !decide (I 18 = 6) else false) else false) else false
def em_seR (I : Nat → Int32) (p y d : Int32) : Int32 := if em_isT I p = true then (if xw_in y 1 15 = true then (if xw_in d 0 1 = true then (if I 18 = 6 then -4 else I 18 + 1) else -2) else -2) else -1
def em_seA (A : Nat → Nat → Int32) (I : Nat → Int32) (p y d : Int32) : Nat → Nat → Int32 := if em_seV I p y d = true then va_up (va_up (va_up A 7 (upd (A 7) (I 18).toNatClampNeg p)) 8 (upd (A 8) (I 18).toNatClampNeg y)) 9 (upd (A 9) (I 18).toNatClampNeg d) else A
def em_seI (I : Nat → Int32) (p y d : Int32) : Nat → Int32 := if em_seV I p y d = true then va_up I 18 (I 18 + 1) else I
def em_hak (A : Nat → Nat → Int32) (I : Nat → Int32) (p q : Int32) : Nat → Int32
  | 0 => 1
  | k + 1 => if em_hak A I p q k = 0 then 0 else if A 7 k = p then (if (if em_dsb A I p q (A 8 k) = true then 1 else 0) = A 9 k then 1 else 0) else 1
theorem em_hak_01 {A : Nat → Nat → Int32} {I : Nat → Int32} {p q : Int32} (n : Nat) : em_hak A I p q n = 0 ∨ em_hak A I p q n = 1 := by
  cases n with
  | zero => exact .inr rfl
  | succ k =>
    rw [em_hak]
    by_cases h1 : em_hak A I p q k = 0
    · rw [if_pos h1]; exact .inl rfl
    · rw [if_neg h1]
      by_cases h2 : A 7 k = p
      · rw [if_pos h2]
        by_cases h3 : (if em_dsb A I p q (A 8 k) = true then (1 : Int32) else 0) = A 9 k
        · rw [if_pos h3]; exact .inr rfl
        · rw [if_neg h3]; exact .inl rfl
      · rw [if_neg h2]; exact .inr rfl
def em_hal (A : Nat → Nat → Int32) (I : Nat → Int32) (p q : Int32) (n : Nat) : Bool := decide (em_hak A I p q n = 1)
theorem em_hal_i {A : Nat → Nat → Int32} {I : Nat → Int32} {p q : Int32} {n : Nat} : em_hak A I p q n = xb_i (em_hal A I p q n) := by
  unfold em_hal
  rcases em_hak_01 (A := A) (I := I) (p := p) (q := q) n with h | h <;> rw [h] <;> rfl
def em_prk (A : Nat → Nat → Int32) (I : Nat → Int32) (p : Int32) (ns : Nat) : Nat → Int32 × Int32 × Int32
  | 0 => (0, -6, -6)
  | k + 1 => if em_hal A I p (nI k) ns = true then ((em_prk A I p ns k).1 + 1, if (em_prk A I p ns k).1 = 0 then nI k else (em_prk A I p ns k).2.1, nI k) else em_prk A I p ns k
def em_pri (A : Nat → Nat → Int32) (I : Nat → Int32) (p w : Int32) (ns : Nat) : Int32 := if em_isT I p = true then (if xw_in w 0 2 = true then (if w = 0 then (em_prk A I p ns 10).1 else if w = 1 then (em_prk A I p ns 10).2.1 else (em_prk A I p ns 10).2.2) else -2) else -1
