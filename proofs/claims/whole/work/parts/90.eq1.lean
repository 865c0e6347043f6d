/-! the class and the reference, side by side: the people, the rules, the sights -/
def eq_P (T A : Nat → Nat → Int32) (I : Nat → Int32) : Prop :=
  em_6 (I 0) ∧ (∀ k, k < 6 → T 1 k = (I 0 >>> (nI k &&& 31)) &&& 1) ∧ (∀ k, k < 7 → T 0 k = I (8 + k)) ∧ (∀ j k, j < 10 → k < 6 → T (2 + j) k = A j k) ∧ T 12 0 = I 18
theorem eq_vin {p : Int32} : xw_in p 0 5 = true ↔ vp_in p 6 := by
  refine ⟨em_in6, fun h => ?_⟩
  have h1 : ¬ p < 0 := fun q => h (.inl q)
  have h2 : ¬ 6 ≤ p.toNatClampNeg := fun q => h (.inr q)
  obtain ⟨j, hj, rfl⟩ := nI_of h1
  rw [nI_clamp hj] at h2
  unfold xw_in
  have h3 : ¬ (5 : Int32) < nI j := fun q => h2 (by have := (nI_ltI (a := 5) (b := j) (by decide) hj).mp q; omega)
  simp [h1, h3]
theorem eq_vinN {p : Int32} (h : vp_in p 6) : p.toNatClampNeg < 6 := Nat.not_le.mp (fun q => h (.inr q))
theorem eq_at {T A : Nat → Nat → Int32} {I : Nat → Int32} (h : eq_P T A I) (j : Nat) (hj : j < 10) {p : Int32} (hp : vp_in p 6) : xb_at 6 (T (2 + j)) p = A j p.toNatClampNeg := by
  rw [xb_at_in hp]
  exact h.2.2.2.1 j _ hj (eq_vinN hp)
theorem eq_a2 {T A : Nat → Nat → Int32} {I : Nat → Int32} (h : eq_P T A I) {p : Int32} (hp : vp_in p 6) : xb_at 6 (T 2) p = A 0 p.toNatClampNeg := eq_at h 0 (by decide) hp
theorem eq_a3 {T A : Nat → Nat → Int32} {I : Nat → Int32} (h : eq_P T A I) {p : Int32} (hp : vp_in p 6) : xb_at 6 (T 3) p = A 1 p.toNatClampNeg := eq_at h 1 (by decide) hp
theorem eq_a4 {T A : Nat → Nat → Int32} {I : Nat → Int32} (h : eq_P T A I) {p : Int32} (hp : vp_in p 6) : xb_at 6 (T 4) p = A 2 p.toNatClampNeg := eq_at h 2 (by decide) hp
theorem eq_a5 {T A : Nat → Nat → Int32} {I : Nat → Int32} (h : eq_P T A I) {p : Int32} (hp : vp_in p 6) : xb_at 6 (T 5) p = A 3 p.toNatClampNeg := eq_at h 3 (by decide) hp
theorem eq_a6 {T A : Nat → Nat → Int32} {I : Nat → Int32} (h : eq_P T A I) {p : Int32} (hp : vp_in p 6) : xb_at 6 (T 6) p = A 4 p.toNatClampNeg := eq_at h 4 (by decide) hp
theorem eq_a7 {T A : Nat → Nat → Int32} {I : Nat → Int32} (h : eq_P T A I) {p : Int32} (hp : vp_in p 6) : xb_at 6 (T 7) p = A 5 p.toNatClampNeg := eq_at h 5 (by decide) hp
theorem eq_a8 {T A : Nat → Nat → Int32} {I : Nat → Int32} (h : eq_P T A I) {p : Int32} (hp : vp_in p 6) : xb_at 6 (T 8) p = A 6 p.toNatClampNeg := eq_at h 6 (by decide) hp
theorem eq_rule {T A : Nat → Nat → Int32} {I : Nat → Int32} (h : eq_P T A I) (k : Nat) (hk : k < 7) : xb_at 7 (T 0) (nI k) = I (8 + k) := by
  rw [xb_at_n hk (by decide)]
  exact h.2.2.1 k hk
theorem eq_r0 {T A : Nat → Nat → Int32} {I : Nat → Int32} (h : eq_P T A I) : xb_at 7 (T 0) 0 = I 8 := eq_rule h 0 (by decide)
theorem eq_r1 {T A : Nat → Nat → Int32} {I : Nat → Int32} (h : eq_P T A I) : xb_at 7 (T 0) 1 = I 9 := eq_rule h 1 (by decide)
theorem eq_r2 {T A : Nat → Nat → Int32} {I : Nat → Int32} (h : eq_P T A I) : xb_at 7 (T 0) 2 = I 10 := eq_rule h 2 (by decide)
theorem eq_r3 {T A : Nat → Nat → Int32} {I : Nat → Int32} (h : eq_P T A I) : xb_at 7 (T 0) 3 = I 11 := eq_rule h 3 (by decide)
theorem eq_r4 {T A : Nat → Nat → Int32} {I : Nat → Int32} (h : eq_P T A I) : xb_at 7 (T 0) 4 = I 12 := eq_rule h 4 (by decide)
theorem eq_r5 {T A : Nat → Nat → Int32} {I : Nat → Int32} (h : eq_P T A I) : xb_at 7 (T 0) 5 = I 13 := eq_rule h 5 (by decide)
theorem eq_r6 {T A : Nat → Nat → Int32} {I : Nat → Int32} (h : eq_P T A I) : xb_at 7 (T 0) 6 = I 14 := eq_rule h 6 (by decide)
theorem eq_isT {T A : Nat → Nat → Int32} {I : Nat → Int32} (h : eq_P T A I) (p : Int32) : dt_isT T p = em_isT I p := by
  unfold dt_isT em_isT
  by_cases hp : xw_in p 0 5 = true
  · rw [if_pos hp]
    have hv := eq_vin.mp hp
    obtain ⟨j, hj, rfl⟩ := em_in6N hp
    rw [xb_at_in hv, nI_clamp (by omega), h.2.1 j hj]
  · rw [if_neg hp]
    have hv : ¬ vp_in p 6 := fun q => hp (eq_vin.mpr q)
    unfold xb_at
    rw [if_pos (Decidable.byContradiction hv)]
    rfl
theorem eq_clamp (v : Int32) : xw_mx 0 (xw_mn 10 v) = if 0 ≤ v then (if v ≤ 10 then v else 10) else 0 := by
  have e0 : (0 : Int32).toInt = 0 := rfl
  have e1 : (10 : Int32).toInt = 10 := rfl
  unfold xw_mx xw_mn
  by_cases h1 : v < 10 <;> by_cases h2 : 0 < v <;> by_cases h3 : 0 ≤ v <;> by_cases h4 : v ≤ 10 <;> simp only [h1, h2, h3, h4, if_true, if_false, show (0 : Int32) < 10 by decide]
  all_goals simp only [Int32.lt_iff_toInt_lt, Int32.le_iff_toInt_le] at h1 h2 h3 h4
  all_goals first | rfl | (exfalso; omega) | (apply Int32.toInt_inj.mp; omega) | skip
  all_goals first | rfl | (apply Int32.toInt_inj.mp; omega)
theorem eq_odd {T A : Nat → Nat → Int32} {I : Nat → Int32} (h : eq_P T A I) {p : Int32} (hp : vp_in p 6) (x : Int32) : dt_odd T p x = em_odd A I p x := by
  unfold dt_odd em_odd
  rw [eq_clamp, eq_r5 h, eq_a2 h hp]
theorem eq_wdn {T A : Nat → Nat → Int32} {I : Nat → Int32} (h : eq_P T A I) {p : Int32} (hp : vp_in p 6) (x q : Int32) : dt_wdn T p x q = em_dnb A I p q x := by
  unfold dt_wdn em_dnb
  rw [eq_odd h hp, eq_r2 h, eq_a3 h hp]
theorem eq_drs {T A : Nat → Nat → Int32} {I : Nat → Int32} (h : eq_P T A I) {p : Int32} (hp : vp_in p 6) (x q : Int32) : dt_drs T p x q = em_dsb A I p q x := by
  unfold dt_drs em_dsb
  rw [eq_wdn h hp]
theorem eq_prd {T A : Nat → Nat → Int32} {I : Nat → Int32} (h : eq_P T A I) {p : Int32} (hp : vp_in p 6) : dt_prd T p = A 2 p.toNatClampNeg := eq_a4 h hp
theorem eq_dit {T A : Nat → Nat → Int32} {I : Nat → Int32} (h : eq_P T A I) {p : Int32} (hp : vp_in p 6) (x : Int32) : dt_drs T p x (dt_prd T p) = em_dit A I p x := by
  rw [eq_prd h hp, eq_drs h hp]; rfl
theorem eq_sta {T A : Nat → Nat → Int32} {I : Nat → Int32} (h : eq_P T A I) {p : Int32} (hp : vp_in p 6) (w : Int32) : dt_sta T p w = em_sto A p w := by
  unfold dt_sta em_sto
  rw [eq_a7 h hp, eq_a6 h hp, eq_a8 h hp]
theorem eq_why {T A : Nat → Nat → Int32} {I : Nat → Int32} (h : eq_P T A I) (a b x : Int32) : dt_why T a b x = em_why A I a b x := by
  unfold dt_why em_why
  rw [eq_isT h, eq_isT h]
  by_cases ha : em_isT I a = true
  · by_cases hb : em_isT I b = true
    · rw [eq_a8 h (em_isT_in ha), eq_a8 h (em_isT_in hb), eq_a6 h (em_isT_in ha), eq_a6 h (em_isT_in hb), eq_r0 h]
    · simp only [ha, hb, if_true, if_false, Bool.false_eq_true]
  · simp only [ha, if_false, Bool.false_eq_true]
/-! the bits -/
theorem eq_bits : ∀ m, m < 64 → ((((((0 ||| (((nI m >>> (nI 0 &&& 31)) &&& 1) <<< (nI 0 &&& 31))) ||| (((nI m >>> (nI 1 &&& 31)) &&& 1) <<< (nI 1 &&& 31))) ||| (((nI m >>> (nI 2 &&& 31)) &&& 1) <<< (nI 2 &&& 31))) ||| (((nI m >>> (nI 3 &&& 31)) &&& 1) <<< (nI 3 &&& 31))) ||| (((nI m >>> (nI 4 &&& 31)) &&& 1) <<< (nI 4 &&& 31))) ||| (((nI m >>> (nI 5 &&& 31)) &&& 1) <<< (nI 5 &&& 31))) = nI m := by decide +kernel
theorem eq_btu {T A : Nat → Nat → Int32} {I : Nat → Int32} (h : eq_P T A I) : dt_btu T 6 = I 0 := by
  obtain ⟨m, hm, e⟩ := h.1
  have hk : ∀ k, k < 6 → xb_at 6 (T 1) (nI k) = (nI m >>> (nI k &&& 31)) &&& 1 := fun k hk => by rw [xb_at_n hk (by decide), h.2.1 k hk, e]
  simp only [dt_btu]
  rw [hk 0 (by decide), hk 1 (by decide), hk 2 (by decide), hk 3 (by decide), hk 4 (by decide), hk 5 (by decide), e]
  exact eq_bits m hm
/-! simple answers -/
theorem eq_stt {T A : Nat → Nat → Int32} {I : Nat → Int32} (h : eq_P T A I) (p w : Int32) : dj_stt T p w = em_stt A I p w := by
  unfold dj_stt em_stt
  rw [eq_isT h]
  by_cases hp : em_isT I p = true
  · rw [eq_sta h (em_isT_in hp)]
  · simp only [hp, if_false, Bool.false_eq_true]
theorem eq_roh {T A : Nat → Nat → Int32} {I : Nat → Int32} (h : eq_P T A I) (p x : Int32) : dj_roh T p x = if em_isT I p = true then (if xw_in x 1 15 = true then 0 else -2) else -1 := by
  unfold dj_roh
  rw [eq_isT h]
theorem eq_odds {T A : Nat → Nat → Int32} {I : Nat → Int32} (h : eq_P T A I) (p x : Int32) : dj_odd T p x = em_odr A I p x := by
  unfold dj_odd em_odr
  rw [eq_roh h]
  by_cases hp : em_isT I p = true
  · by_cases hx : xw_in x 1 15 = true
    · rw [if_pos hp, if_pos hx, if_pos hp, if_pos hx, if_pos rfl, eq_odd h (em_isT_in hp)]
    · rw [if_pos hp, if_neg hx, if_pos hp, if_neg hx, if_neg (by decide)]
  · rw [if_neg hp, if_neg hp, if_neg (by decide)]
theorem eq_wor {T A : Nat → Nat → Int32} {I : Nat → Int32} (h : eq_P T A I) (p x w : Int32) : dj_wor T p x w = em_wor A I p x w := by
  unfold dj_wor em_wor
  rw [eq_roh h]
  by_cases hp : em_isT I p = true
  · by_cases hx : xw_in x 1 15 = true
    · rw [if_pos hp, if_pos hx, if_pos hp, if_pos hx, if_pos rfl, eq_wdn h (em_isT_in hp), eq_prd h (em_isT_in hp)]
    · rw [if_pos hp, if_neg hx, if_pos hp, if_neg hx, if_neg (by decide)]
  · rw [if_neg hp, if_neg hp, if_neg (by decide)]
theorem eq_doe {T A : Nat → Nat → Int32} {I : Nat → Int32} (h : eq_P T A I) (p x : Int32) : dj_doe T p x = em_doe A I p x := by
  unfold dj_doe em_doe
  rw [eq_roh h]
  by_cases hp : em_isT I p = true
  · by_cases hx : xw_in x 1 15 = true
    · rw [if_pos hp, if_pos hx, if_pos hp, if_pos hx, if_pos rfl, eq_dit h (em_isT_in hp)]
    · rw [if_pos hp, if_neg hx, if_pos hp, if_neg hx, if_neg (by decide)]
  · rw [if_neg hp, if_neg hp, if_neg (by decide)]
/-! nerve -/
theorem eq_firstS (d : Nat → Bool) : ∀ (n k : Nat), xw_first d (n + 1) k = if xw_first d n k < k + n then xw_first d n k else if d (k + n) = true then k + n + 1 else k + n := by
  intro n
  induction n with
  | zero =>
    intro k
    simp only [xw_first, Nat.add_zero, Nat.lt_irrefl, if_false]
  | succ n ih =>
    intro k
    rw [xw_first]
    by_cases hd : d k = true
    · rw [if_pos hd, ih (k + 1), xw_first, if_pos hd, show k + 1 + n = k + (n + 1) by omega]
    · rw [if_neg hd, xw_first, if_neg hd, if_pos (by omega)]
theorem eq_first_le (d : Nat → Bool) : ∀ (n k : Nat), xw_first d n k ≤ k + n := by
  intro n
  induction n with
  | zero => intro k; exact Nat.le_refl _
  | succ n ih =>
    intro k
    rw [xw_first]
    split
    · have := ih (k + 1); omega
    · omega
theorem eq_first_ge (d : Nat → Bool) : ∀ (n k : Nat), k ≤ xw_first d n k := by
  intro n
  induction n with
  | zero => intro k; exact Nat.le_refl _
  | succ n ih =>
    intro k
    rw [xw_first]
    split
    · have := ih (k + 1); omega
    · omega
theorem eq_nrk {A : Nat → Nat → Int32} {I : Nat → Int32} {p : Int32} : ∀ (n : Nat) (f s : Int32), n ≤ 15 → em_nrk A I p n f s = (if xw_first (fun k => em_dit A I p (nI k)) n 1 < 1 + n then nI (xw_first (fun k => em_dit A I p (nI k)) n 1) else f, if s = 0 then nI (xw_down (fun k => decide (em_odd A I p (nI k) = 0)) n) else s) := by
  intro n
  induction n with
  | zero =>
    intro f s _
    rw [em_nrk, if_neg (by rw [xw_first]; omega)]
    by_cases hs : s = 0
    · rw [if_pos hs, hs]; rfl
    · rw [if_neg hs]
  | succ n ih =>
    intro f s hn
    rw [em_nrk, ih _ _ (by omega), eq_firstS, xw_down]
    refine Prod.ext ?_ ?_
    · show (if xw_first (fun k => em_dit A I p (nI k)) n 1 < 1 + n then _ else _) = _
      have hle := eq_first_le (fun k => em_dit A I p (nI k)) n 1
      by_cases h1 : xw_first (fun k => em_dit A I p (nI k)) n 1 < 1 + n
      · simp only [h1, if_true]
        rw [if_pos (by omega)]
      · simp only [h1, if_false]
        by_cases h2 : em_dit A I p (nI (n + 1)) = true
        · rw [if_pos h2, show 1 + n = n + 1 by omega, if_pos h2, if_neg (by omega)]
        · rw [if_neg h2, show 1 + n = n + 1 by omega, if_neg h2, if_pos (by omega)]
    · show (if (if s = 0 then _ else _) = 0 then _ else _) = _
      by_cases hs : s = 0
      · rw [if_pos hs]
        by_cases ho : em_odd A I p (nI (n + 1)) = 0
        · have h1 : ¬ nI (n + 1) = 0 := nI_ne0 (by omega) (by omega)
          simp only [ho, hs, if_true, decide_true]
          rw [if_neg h1]
        · simp only [ho, hs, if_true, if_false, decide_false, Bool.false_eq_true]
      · simp only [hs, if_false]
theorem eq_firstC {d d' : Nat → Bool} : ∀ (n k : Nat), (∀ j, k ≤ j → j < k + n → d j = d' j) → xw_first d n k = xw_first d' n k := by
  intro n
  induction n with
  | zero => intro k _; rfl
  | succ n ih =>
    intro k h
    rw [xw_first, xw_first, h k (Nat.le_refl k) (by omega), ih (k + 1) (fun j h1 h2 => h j (by omega) (by omega))]
theorem eq_downC {d d' : Nat → Bool} : ∀ n : Nat, (∀ j, 1 ≤ j → j ≤ n → d j = d' j) → xw_down d n = xw_down d' n := by
  intro n
  induction n with
  | zero => intro _; rfl
  | succ n ih =>
    intro h
    rw [xw_down, xw_down, h (n + 1) (by omega) (Nat.le_refl _), ih (fun j h1 h2 => h j h1 (by omega))]
theorem eq_ner {T A : Nat → Nat → Int32} {I : Nat → Int32} (h : eq_P T A I) (p w : Int32) : dj_ner T p w = em_ner A I p w := by
  unfold dj_ner em_ner
  rw [eq_isT h]
  by_cases hp : em_isT I p = true
  · rw [if_pos hp, if_pos hp]
    by_cases hw : xw_in w 0 2 = true
    · rw [if_pos hw, if_pos hw]
      have hv := em_isT_in hp
      have e1 : dt_lrf T p = nI (xw_first (fun k => em_dit A I p (nI k)) 15 1) := by
        unfold dt_lrf
        rw [eq_firstC 15 1 (fun j _ _ => by unfold dt_dfs; exact eq_dit h hv (nI j))]
      have e2 : dt_sur T p = nI (xw_down (fun k => decide (em_odd A I p (nI k) = 0)) 15) := by
        unfold dt_sur
        rw [eq_downC 15 (fun j _ _ => by rw [eq_odd h hv])]
      rw [e1, e2, eq_nrk 15 (-6) 0 (by omega)]
      obtain ⟨j, hj, hj2, ej⟩ : ∃ j, j ≤ 16 ∧ 1 ≤ j ∧ xw_first (fun k => em_dit A I p (nI k)) 15 1 = j := ⟨_, eq_first_le _ 15 1, eq_first_ge _ 15 1, rfl⟩
      rw [ej]
      obtain ⟨-, -, hw3⟩ := xw_inN (a := 0) (c := 2) hw (by decide) (by decide)
      obtain ⟨ew, -, -⟩ := xw_inN (a := 0) (c := 2) hw (by decide) (by decide)
      have e15 : (nI j ≤ 15) ↔ j < 1 + 15 := ⟨fun q => by have := (nI_leI (a := j) (b := 15) (by omega) (by decide)).mp q; omega, fun q => (nI_leI (a := j) (b := 15) (by omega) (by decide)).mpr (by omega)⟩
      by_cases h16 : j < 1 + 15
      · have h0 : (0 : Int32) ≤ nI j := nI_pos' (by omega)
        have h15 : nI j ≤ 15 := e15.mpr h16
        by_cases w0 : w = 0
        · subst w0; simp [h16, h0, h15]
        · by_cases w1 : w = 1
          · subst w1; simp [h16, h0, h15]
          · have w2 : w = 2 := by
              rw [ew]
              have : w.toNatClampNeg = 2 := by
                rcases (show w.toNatClampNeg = 0 ∨ w.toNatClampNeg = 1 ∨ w.toNatClampNeg = 2 by omega) with q | q | q
                · exact absurd (by rw [ew, q]; rfl) w0
                · exact absurd (by rw [ew, q]; rfl) w1
                · exact q
              rw [this]; rfl
            subst w2; simp
      · have h15 : ¬ nI j ≤ 15 := fun q => h16 (e15.mp q)
        have hj16 : j = 16 := by omega
        subst hj16
        by_cases w0 : w = 0
        · subst w0; simp only [show ¬ (16 : Nat) < 1 + 15 by decide, show ¬ nI 16 ≤ 15 by decide, show ¬ (0 : Int32) = 2 by decide, show ¬ (0 : Int32) = 1 by decide, show ¬ (1 : Int32) = 2 by decide, show ¬ (1 : Int32) = 0 by decide, show ¬ (0 : Int32) ≤ -6 by decide, show nI 16 - 1 = 15 by decide, if_true, if_false]
        · by_cases w1 : w = 1
          · subst w1; simp only [show ¬ (16 : Nat) < 1 + 15 by decide, show ¬ nI 16 ≤ 15 by decide, show ¬ (0 : Int32) = 2 by decide, show ¬ (0 : Int32) = 1 by decide, show ¬ (1 : Int32) = 2 by decide, show ¬ (1 : Int32) = 0 by decide, show ¬ (0 : Int32) ≤ -6 by decide, show nI 16 - 1 = 15 by decide, if_true, if_false]
          · have w2 : w = 2 := by
              rw [ew]
              have : w.toNatClampNeg = 2 := by
                rcases (show w.toNatClampNeg = 0 ∨ w.toNatClampNeg = 1 ∨ w.toNatClampNeg = 2 by omega) with q | q | q
                · exact absurd (by rw [ew, q]; rfl) w0
                · exact absurd (by rw [ew, q]; rfl) w1
                · exact q
              rw [this]; rfl
            subst w2; simp
    · rw [if_neg hw, if_neg hw]
  · rw [if_neg hp, if_neg hp]
