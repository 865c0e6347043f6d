/-! kept and put back -/
theorem eq_psI_v {A : Nat → Nat → Int32} {I : Nat → Int32} {s q : Nat} (hq : I 44 = nI q) (hs : s ≠ 44) (hs5 : s ≠ 45) (hq2 : q < 2 ^ 31) :
    (em_psI A I s).2 44 = nI (q + 1) ∧ (em_psI A I s).2 45 = I 45 ∧ (∀ j, j ≠ 21 → (em_psI A I s).1 j = A j) ∧ (∀ t, t ≠ s → t ≠ 44 → (em_psI A I s).2 t = I t) ∧
    (em_psI A I s).2 s = (if I 45 = 0 then A 21 q else I s) ∧ (em_psI A I s).1 21 = upd (A 21) q (if I 45 = 0 then A 21 q else I s) := by
  unfold em_psI em_pvA em_pvI em_pv
  dsimp only
  rw [hq, nI_clamp (by omega)]
  refine ⟨?_, ?_, fun j hj => va_up_ne _ _ hj, fun t h1 h2 => ?_, va_up_self .., va_up_self ..⟩
  · rw [va_up_ne _ _ (fun e => hs e.symm), va_up_self]; exact nI_1 q
  · rw [va_up_ne _ _ (fun e => hs5 e.symm), va_up_ne _ _ (by decide)]
  · rw [va_up_ne _ _ h1, va_up_ne _ _ h2]
theorem eq_psA_v {A : Nat → Nat → Int32} {I : Nat → Int32} {j k q : Nat} (hq : I 44 = nI q) (hj : j ≠ 21) (hq2 : q < 2 ^ 31) :
    (em_psA A I j k).2 44 = nI (q + 1) ∧ (∀ t, t ≠ 44 → (em_psA A I j k).2 t = I t) ∧ (∀ i, i ≠ 21 → i ≠ j → (em_psA A I j k).1 i = A i) ∧
    (em_psA A I j k).1 j = upd (A j) k (if I 45 = 0 then A 21 q else A j k) ∧ (em_psA A I j k).1 21 = upd (A 21) q (if I 45 = 0 then A 21 q else A j k) := by
  unfold em_psA em_pvA em_pvI em_pv
  dsimp only
  rw [hq, nI_clamp (by omega)]
  refine ⟨?_, fun t h => va_up_ne _ _ h, fun i h1 h2 => ?_, ?_, ?_⟩
  · rw [va_up_self]; exact nI_1 q
  · rw [va_up_ne _ _ h2, va_up_ne _ _ h1]
  · rw [va_up_self, va_up_ne _ _ hj]
  · rw [va_up_ne _ _ (fun e => hj e.symm), va_up_self]
theorem eq_pl : ∀ (js : List Nat) (A : Nat → Nat → Int32) (I : Nat → Int32) (q : Nat), js.Nodup → (∀ s ∈ js, s ≠ 44 ∧ s ≠ 45) → I 44 = nI q → q + js.length ≤ 1000 →
    (∀ j, j ≠ 21 → (em_pl js (A, I)).1 j = A j) ∧ (em_pl js (A, I)).2 44 = nI (q + js.length) ∧ (em_pl js (A, I)).2 45 = I 45 ∧ (∀ s, s ∉ js → s ≠ 44 → (em_pl js (A, I)).2 s = I s) ∧
    (∀ i s, js[i]? = some s → (em_pl js (A, I)).2 s = (if I 45 = 0 then A 21 (q + i) else I s) ∧ (em_pl js (A, I)).1 21 (q + i) = (if I 45 = 0 then A 21 (q + i) else I s)) ∧
    (∀ i, (i < q ∨ q + js.length ≤ i) → (em_pl js (A, I)).1 21 i = A 21 i) := by
  intro js
  induction js with
  | nil =>
    intro A I q _ _ hq _
    exact ⟨fun _ _ => rfl, hq, rfl, fun _ _ _ => rfl, fun i s h => by simp at h, fun _ _ => rfl⟩
  | cons s0 js ih =>
    intro A I q hnd hs hq hl
    obtain ⟨hn1, hn2⟩ := List.nodup_cons.mp hnd
    obtain ⟨a44, a45⟩ := hs s0 List.mem_cons_self
    rw [List.length_cons] at hl
    obtain ⟨v1, v2, v3, v4, v5, v6⟩ := eq_psI_v (A := A) (I := I) hq a44 a45 (by omega)
    obtain ⟨i1, i2, i3, i4, i5, i6⟩ := ih (em_psI A I s0).1 (em_psI A I s0).2 (q + 1) hn2 (fun s h => hs s (List.mem_cons_of_mem _ h)) v1 (by omega)
    rw [show em_pl (s0 :: js) (A, I) = em_pl js ((em_psI A I s0).1, (em_psI A I s0).2) from rfl, List.length_cons]
    refine ⟨fun j hj => (i1 j hj).trans (v3 j hj), by rw [i2, show q + 1 + js.length = q + (js.length + 1) by omega], i3.trans v2, fun s h1 h2 => ?_, fun i s h => ?_, fun i h => ?_⟩
    · rw [i4 s (fun m => h1 (List.mem_cons_of_mem _ m)) h2]
      exact v4 s (fun e => h1 (by rw [e]; exact List.mem_cons_self)) h2
    · cases i with
      | zero =>
        have e : s0 = s := by simpa using h
        subst e
        rw [i4 s0 hn1 a44, v5, i6 (q + 0) (.inl (by omega)), v6]
        exact ⟨rfl, if_pos rfl⟩
      | succ i =>
        have h' : js[i]? = some s := by simpa using h
        have hm : s ∈ js := List.mem_of_getElem? h'
        have hne : s ≠ s0 := fun e => hn1 (by rw [← e]; exact hm)
        obtain ⟨b44, -⟩ := hs s (List.mem_cons_of_mem _ hm)
        have e21 : (em_psI A I s0).1 21 (q + (i + 1)) = A 21 (q + (i + 1)) := by
          rw [v6]; exact if_neg (by omega)
        have := i5 i s h'
        rw [v2, v4 s hne b44, show q + 1 + i = q + (i + 1) by omega, e21] at this
        exact this
    · rw [i6 i (by omega), v6]
      exact if_neg (by omega)
theorem eq_pr (k : Nat) : ∀ (js : List Nat) (A : Nat → Nat → Int32) (I : Nat → Int32) (q : Nat), js.Nodup → (∀ j ∈ js, j ≠ 21) → I 44 = nI q → q + js.length ≤ 1000 →
    (∀ j k', j ≠ 21 → (j ∉ js ∨ k' ≠ k) → (em_pr k js (A, I)).1 j k' = A j k') ∧ (em_pr k js (A, I)).2 44 = nI (q + js.length) ∧ (∀ s, s ≠ 44 → (em_pr k js (A, I)).2 s = I s) ∧
    (∀ i j, js[i]? = some j → (em_pr k js (A, I)).1 j k = (if I 45 = 0 then A 21 (q + i) else A j k) ∧ (em_pr k js (A, I)).1 21 (q + i) = (if I 45 = 0 then A 21 (q + i) else A j k)) ∧
    (∀ i, (i < q ∨ q + js.length ≤ i) → (em_pr k js (A, I)).1 21 i = A 21 i) := by
  intro js
  induction js with
  | nil =>
    intro A I q _ _ hq _
    exact ⟨fun _ _ _ _ => rfl, hq, fun _ _ => rfl, fun i s h => by simp at h, fun _ _ => rfl⟩
  | cons j0 js ih =>
    intro A I q hnd hs hq hl
    obtain ⟨hn1, hn2⟩ := List.nodup_cons.mp hnd
    have a21 := hs j0 List.mem_cons_self
    rw [List.length_cons] at hl
    obtain ⟨v1, v2, v3, v4, v5⟩ := eq_psA_v (A := A) (I := I) (k := k) hq a21 (by omega)
    obtain ⟨i1, i2, i3, i4, i5⟩ := ih (em_psA A I j0 k).1 (em_psA A I j0 k).2 (q + 1) hn2 (fun s h => hs s (List.mem_cons_of_mem _ h)) v1 (by omega)
    rw [show em_pr k (j0 :: js) (A, I) = em_pr k js ((em_psA A I j0 k).1, (em_psA A I j0 k).2) from rfl, List.length_cons]
    refine ⟨fun j k' h1 h2 => ?_, by rw [i2, show q + 1 + js.length = q + (js.length + 1) by omega], fun s h => (i3 s h).trans (v2 s h), fun i j h => ?_, fun i h => ?_⟩
    · rw [i1 j k' h1 (h2.imp (fun m q => m (List.mem_cons_of_mem _ q)) id)]
      by_cases e : j = j0
      · subst e
        rw [v4]
        refine if_neg (fun e2 => ?_)
        rcases h2 with h2 | h2
        · exact h2 List.mem_cons_self
        · exact h2 e2
      · rw [v3 j h1 e]
    · cases i with
      | zero =>
        have e : j0 = j := by simpa using h
        subst e
        rw [i1 j0 k a21 (.inl hn1), v4, i5 (q + 0) (.inl (by omega)), v5]
        exact ⟨if_pos rfl, if_pos rfl⟩
      | succ i =>
        have h' : js[i]? = some j := by simpa using h
        have hm : j ∈ js := List.mem_of_getElem? h'
        have hne : j ≠ j0 := fun e => hn1 (by rw [← e]; exact hm)
        have e21 : (em_psA A I j0 k).1 21 (q + (i + 1)) = A 21 (q + (i + 1)) := by
          rw [v5]; exact if_neg (by omega)
        have := i4 i j h'
        rw [v2 45 (by decide), v3 j (hs j (List.mem_cons_of_mem _ hm)) hne, show q + 1 + i = q + (i + 1) by omega, e21] at this
        exact this
    · rw [i5 i (by omega), v5]
      exact if_neg (by omega)
theorem eq_rows_at {j : Nat} (h : j < 10) : em_rows[j]? = some j := by
  rcases (show j = 0 ∨ j = 1 ∨ j = 2 ∨ j = 3 ∨ j = 4 ∨ j = 5 ∨ j = 6 ∨ j = 7 ∨ j = 8 ∨ j = 9 by omega) with q | q | q | q | q | q | q | q | q | q <;> subst q <;> rfl
theorem eq_rows_in {j : Nat} (h : j ∈ em_rows) : j < 10 := by
  simp only [em_rows, List.mem_cons, List.not_mem_nil, or_false] at h
  omega
theorem eq_pk : ∀ (n k0 : Nat) (A : Nat → Nat → Int32) (I : Nat → Int32) (q : Nat), I 44 = nI q → q + 10 * n ≤ 1000 →
    (∀ j k, j ≠ 21 → (10 ≤ j ∨ k < k0 ∨ k0 + n ≤ k) → (em_pk n k0 (A, I)).1 j k = A j k) ∧ (∀ s, s ≠ 44 → (em_pk n k0 (A, I)).2 s = I s) ∧
    (∀ i j, i < n → j < 10 → (em_pk n k0 (A, I)).1 j (k0 + i) = (if I 45 = 0 then A 21 (q + 10 * i + j) else A j (k0 + i)) ∧ (em_pk n k0 (A, I)).1 21 (q + 10 * i + j) = (if I 45 = 0 then A 21 (q + 10 * i + j) else A j (k0 + i))) ∧
    (∀ i, (i < q ∨ q + 10 * n ≤ i) → (em_pk n k0 (A, I)).1 21 i = A 21 i) := by
  intro n
  induction n with
  | zero =>
    intro k0 A I q hq _
    exact ⟨fun _ _ _ _ => rfl, fun _ _ => rfl, fun i j h => absurd h (by omega), fun _ _ => rfl⟩
  | succ n ih =>
    intro k0 A I q hq hl
    have hnd : em_rows.Nodup := by decide
    have h21 : ∀ j ∈ em_rows, j ≠ 21 := by decide
    have hlen : em_rows.length = 10 := rfl
    obtain ⟨v1, v2, v3, v4, v5⟩ := eq_pr k0 em_rows A I q hnd h21 hq (by omega)
    rw [hlen] at v2 v5
    obtain ⟨i1, i2, i3, i4⟩ := ih (k0 + 1) (em_pr k0 em_rows (A, I)).1 (em_pr k0 em_rows (A, I)).2 (q + 10) v2 (by omega)
    rw [show em_pk (n + 1) k0 (A, I) = em_pk n (k0 + 1) ((em_pr k0 em_rows (A, I)).1, (em_pr k0 em_rows (A, I)).2) from rfl]
    refine ⟨fun j k h1 h2 => ?_, fun s h => (i2 s h).trans (v3 s h), fun i j hi hj => ?_, fun i h => ?_⟩
    · rw [i1 j k h1 (by omega)]
      refine v1 j k h1 ?_
      by_cases h10 : 10 ≤ j
      · exact .inl (fun m => absurd (eq_rows_in m) (by omega))
      · exact .inr (by omega)
    · cases i with
      | zero =>
        obtain ⟨w1, w2⟩ := v4 j j (eq_rows_at hj)
        rw [i1 j (k0 + 0) (by omega) (.inr (.inl (by omega))), i4 (q + 10 * 0 + j) (.inl (by omega))]
        rw [show q + 10 * 0 + j = q + j by omega, show k0 + 0 = k0 by omega]
        exact ⟨w1, w2⟩
      | succ i =>
        have := i3 i j (by omega) hj
        rw [v3 45 (by decide), show k0 + 1 + i = k0 + (i + 1) by omega, show q + 10 + 10 * i + j = q + 10 * (i + 1) + j by omega, v5 (q + 10 * (i + 1) + j) (.inr (by omega)), v1 j (k0 + (i + 1)) (by omega) (.inr (by omega))] at this
        exact this
    · rw [i4 i (by omega), v5 i (by omega)]
theorem eq_pas {A : Nat → Nat → Int32} {I : Nat → Int32} {q : Nat} (hq : I 44 = nI q) (hq1 : q ≤ 100) :
    (∀ i s, em_slots[i]? = some s → (em_pas A I).2 s = (if I 45 = 0 then A 21 (q + i) else I s) ∧ (em_pas A I).1 21 (q + i) = (if I 45 = 0 then A 21 (q + i) else I s)) ∧
    (∀ j k, j < 10 → k < 6 → (em_pas A I).1 j k = (if I 45 = 0 then A 21 (q + 9 + 10 * k + j) else A j k) ∧ (em_pas A I).1 21 (q + 9 + 10 * k + j) = (if I 45 = 0 then A 21 (q + 9 + 10 * k + j) else A j k)) ∧
    (∀ i, (i < q ∨ q + 69 ≤ i) → (em_pas A I).1 21 i = A 21 i) ∧ (∀ j, 10 ≤ j → j ≠ 21 → (em_pas A I).1 j = A j) ∧ (∀ s, s ∉ em_slots → s ≠ 44 → (em_pas A I).2 s = I s) := by
  have hnd : em_slots.Nodup := by decide
  have h44 : ∀ s ∈ em_slots, s ≠ 44 ∧ s ≠ 45 := by decide
  have hlen : em_slots.length = 9 := rfl
  obtain ⟨v1, v2, v3, v4, v5, v6⟩ := eq_pl em_slots A I q hnd h44 hq (by omega)
  rw [hlen] at v2 v6
  obtain ⟨i1, i2, i3, i4⟩ := eq_pk 6 0 (em_pl em_slots (A, I)).1 (em_pl em_slots (A, I)).2 (q + 9) v2 (by omega)
  have e0 : em_pas A I = em_pk 6 0 ((em_pl em_slots (A, I)).1, (em_pl em_slots (A, I)).2) := rfl
  rw [e0]
  refine ⟨fun i s h => ?_, fun j k hj hk => ?_, fun i h => ?_, fun j h1 h2 => ?_, fun s h1 h2 => ?_⟩
  · obtain ⟨w1, w2⟩ := v5 i s h
    have hi : i < 9 := by
      have := (List.getElem?_eq_some_iff.mp h).1
      rw [hlen] at this; exact this
    have hs := h44 s (List.mem_of_getElem? h)
    rw [i2 s hs.1, i4 (q + i) (.inl (by omega))]
    exact ⟨w1, w2⟩
  · have := i3 k j hk hj
    rw [v3, show 0 + k = k by omega, v6 (q + 9 + 10 * k + j) (.inr (by omega)), v1 j (by omega)] at this
    exact this
  · rw [i4 i (by omega), v6 i (by omega)]
  · funext k
    rw [i1 j k h2 (.inl h1), v1 j h2]
  · rw [i2 s h2, v4 s h1 h2]
/-- a kept town: what stands in the row from q on -/
def eq_K (B : Nat) (U : Nat → Nat → Int32) (K : Nat → Int32) (q : Nat) : Prop := ∃ (A : Nat → Nat → Int32) (I : Nat → Int32), eq_P U A I ∧ eq_R B A I ∧ (∀ i s, em_slots[i]? = some s → K (q + i) = I s) ∧ (∀ j k, j < 10 → k < 6 → K (q + 9 + 10 * k + j) = A j k)
theorem eq_K.mono {B C : Nat} {U : Nat → Nat → Int32} {K : Nat → Int32} {q : Nat} (h : eq_K B U K q) (hC : B ≤ C) : eq_K C U K q := by
  obtain ⟨A, I, h1, h2, h3, h4⟩ := h
  exact ⟨A, I, h1, h2.mono hC, h3, h4⟩
theorem eq_K.kept {B : Nat} {U : Nat → Nat → Int32} {K K' : Nat → Int32} {q : Nat} (h : eq_K B U K q) (hk : ∀ i, q ≤ i → i < q + 69 → K' i = K i) : eq_K B U K' q := by
  obtain ⟨A, I, h1, h2, h3, h4⟩ := h
  refine ⟨A, I, h1, h2, fun i s hs => ?_, fun j k hj hk6 => ?_⟩
  · have hi : i < 9 := by
      have := (List.getElem?_eq_some_iff.mp hs).1
      rw [show em_slots.length = 9 from rfl] at this; exact this
    rw [hk (q + i) (by omega) (by omega)]; exact h3 i s hs
  · rw [hk _ (by omega) (by omega)]; exact h4 j k hj hk6
/-- all that is alike between two calls -/
def eq_All (B nn : Nat) (T TF TS : Nat → Nat → Int32) (g : Nat → Int32) (fk sk : Int32) (A : Nat → Nat → Int32) (I : Nat → Int32) : Prop :=
  eq_P T A I ∧ eq_R B A I ∧ nn ≤ 60 ∧ I 20 = nI nn ∧ (∀ k, k < 60 → g k = A 10 k) ∧ fk = A 22 0 ∧ sk = A 22 1 ∧ (¬ A 22 0 = 0 → eq_K B TF (A 21) 0) ∧ (¬ A 22 1 = 0 → eq_K B TS (A 21) 100)
theorem eq_All.mono {B C nn : Nat} {T TF TS : Nat → Nat → Int32} {g : Nat → Int32} {fk sk : Int32} {A : Nat → Nat → Int32} {I : Nat → Int32} (h : eq_All B nn T TF TS g fk sk A I) (hC : B ≤ C) : eq_All C nn T TF TS g fk sk A I :=
  ⟨h.1, h.2.1.mono hC, h.2.2.1, h.2.2.2.1, h.2.2.2.2.1, h.2.2.2.2.2.1, h.2.2.2.2.2.2.1, fun q => (h.2.2.2.2.2.2.2.1 q).mono hC, fun q => (h.2.2.2.2.2.2.2.2 q).mono hC⟩
theorem eq_All.O {B nn : Nat} {T TF TS : Nat → Nat → Int32} {g : Nat → Int32} {fk sk : Int32} {A A' : Nat → Nat → Int32} {I I' : Nat → Int32} (h : eq_All B nn T TF TS g fk sk A I) (hO : eq_O A' I' A I) : eq_All B nn T TF TS g fk sk A' I' := by
  obtain ⟨h1, h2, h3, h4, h5, h6, h7, h8, h9⟩ := h
  obtain ⟨o1, o2, o3, o4, o5, o6⟩ := hO
  exact ⟨h1.congr o1 o5, h2.congr o1 o5, h3, by rw [o6]; exact h4, by rw [o2]; exact h5, by rw [o4]; exact h6, by rw [o4]; exact h7, by rw [o4, o3]; exact h8, by rw [o4, o3]; exact h9⟩
theorem eq_slot0 : ∀ s : Nat, s = 0 ∨ (∃ k, k < 7 ∧ s = 8 + k) ∨ s = 18 → ∃ i : Nat, em_slots[i]? = some s := by
  intro s h
  rcases h with q | ⟨k, hk, q⟩ | q
  · exact ⟨0, by rw [q]; rfl⟩
  · refine ⟨1 + k, ?_⟩
    rcases (show k = 0 ∨ k = 1 ∨ k = 2 ∨ k = 3 ∨ k = 4 ∨ k = 5 ∨ k = 6 by omega) with e | e | e | e | e | e | e <;> subst e <;> subst q <;> rfl
  · exact ⟨8, by rw [q]; rfl⟩
theorem eq_img {B nn : Nat} {T TF TS : Nat → Nat → Int32} {g : Nat → Int32} {fk sk : Int32} {A : Nat → Nat → Int32} {I : Nat → Int32} (h : eq_All B nn T TF TS g fk sk A I) (x : Int32) : eq_All B nn T (dj_imT T TF x 0) (dj_imT T TS x 1) g (dj_imF x fk) (dj_imS x sk) (em_imG A I x).1 (em_imG A I x).2 := by
  unfold dj_imT dj_imF dj_imS em_imG
  by_cases c : xw_in x 0 1 = true
  · obtain ⟨h1, h2, h3, h4, h5, h6, h7, h8, h9⟩ := h
    have key : ∀ (y : Nat), y ≤ 1 → ∀ J, J = em_imI I (nI y) 1 → eq_P T (em_pas A J).1 (em_pas A J).2 ∧ eq_R B (em_pas A J).1 (em_pas A J).2 ∧ (em_pas A J).2 20 = I 20 ∧ (em_pas A J).1 10 = A 10 ∧ (em_pas A J).1 22 = A 22 ∧ eq_K B T ((em_pas A J).1 21) (100 * y) ∧ (∀ i, (i < 100 * y ∨ 100 * y + 69 ≤ i) → (em_pas A J).1 21 i = A 21 i) := by
      intro y hy J hJ
      have j44 : J 44 = nI (100 * y) := by
        rw [hJ]; unfold em_imI
        rw [va_up_ne _ _ (by decide), va_up_self]; exact (Int32.ofNat_mul 100 y).symm
      have j45 : ¬ J 45 = 0 := by
        rw [hJ]; unfold em_imI
        rw [va_up_self]; decide
      have js : ∀ s, s ≠ 44 → s ≠ 45 → J s = I s := fun s q1 q2 => by
        rw [hJ]; unfold em_imI
        rw [va_up_ne _ _ q2, va_up_ne _ _ q1]
      obtain ⟨p1, p2, p3, p4, p5⟩ := eq_pas (A := A) (I := J) j44 (by omega)
      have hrow : ∀ j k, j < 10 → k < 6 → (em_pas A J).1 j k = A j k := fun j k hj hk => by rw [(p2 j k hj hk).1, if_neg j45]
      have hslot : ∀ s, (s = 0 ∨ (∃ k, k < 7 ∧ s = 8 + k) ∨ s = 18) → (em_pas A J).2 s = I s := fun s hs => by
        obtain ⟨i, hi⟩ := eq_slot0 s hs
        rw [(p1 i s hi).1, if_neg j45]
        exact js s (by rcases hs with q | ⟨k, hk, q⟩ | q <;> omega) (by rcases hs with q | ⟨k, hk, q⟩ | q <;> omega)
      have hsame : eq_Isame (em_pas A J).2 I := ⟨hslot 0 (.inl rfl), fun k hk => hslot (8 + k) (.inr (.inl ⟨k, hk, rfl⟩)), hslot 18 (.inr (.inr rfl))⟩
      refine ⟨h1.congr hrow hsame, h2.congr hrow hsame, ?_, p4 10 (by decide) (by decide), p4 22 (by decide) (by decide), ⟨A, J, ?_, ?_, fun i s hs => ?_, fun j k hj hk => ?_⟩, p3⟩
      · rw [p5 20 (by decide) (by decide)]; exact js 20 (by decide) (by decide)
      · exact h1.congr (fun _ _ _ _ => rfl) ⟨js 0 (by decide) (by decide), fun k hk => js (8 + k) (by omega) (by omega), js 18 (by decide) (by decide)⟩
      · exact h2.congr (fun _ _ _ _ => rfl) ⟨js 0 (by decide) (by decide), fun k hk => js (8 + k) (by omega) (by omega), js 18 (by decide) (by decide)⟩
      · rw [(p1 i s hs).2, if_neg j45]
      · rw [(p2 j k hj hk).2, if_neg j45]
    rcases eq_w01 c with q | q
    · subst q
      obtain ⟨a1, a2, a3, a4, a5, a6, a7⟩ := key 0 (by decide) _ rfl
      rw [show nI 0 = 0 from rfl] at a1 a2 a3 a4 a5 a6 a7
      rw [if_pos c, if_pos c, if_pos c, if_pos c, if_pos c]
      simp only [if_true, show ¬ ((0 : Int32) = 0 ↔ (1 : Int32) = 0) by decide, if_false]
      generalize em_pas A (em_imI I 0 1) = Z at *
      have e22 : ∀ j, j ≠ 22 → (va_up Z.1 22 (upd (Z.1 22) (0 : Int32).toNatClampNeg (vp_nar .boolean 1))) j = Z.1 j := fun j hj => va_up_ne _ _ hj
      have f0 : (va_up Z.1 22 (upd (Z.1 22) (0 : Int32).toNatClampNeg (vp_nar .boolean 1))) 22 0 = 1 := by rw [va_up_self]; rfl
      have f1 : (va_up Z.1 22 (upd (Z.1 22) (0 : Int32).toNatClampNeg (vp_nar .boolean 1))) 22 1 = A 22 1 := by rw [va_up_self, a5]; rfl
      refine ⟨a1.congr (fun j k hj _ => by rw [e22 j (by omega)]) ⟨rfl, fun _ _ => rfl, rfl⟩, a2.congr (fun j k hj _ => by rw [e22 j (by omega)]) ⟨rfl, fun _ _ => rfl, rfl⟩, h3, a3.trans h4, by rw [e22 10 (by decide), a4]; exact h5, f0.symm, by rw [f1]; exact h7, fun _ => by rw [e22 21 (by decide)]; exact a6, fun q => ?_⟩
      rw [e22 21 (by decide)]
      rw [f1] at q
      exact (h9 q).kept (fun i i1 i2 => a7 i (.inr (by omega)))
    · subst q
      obtain ⟨a1, a2, a3, a4, a5, a6, a7⟩ := key 1 (by decide) _ rfl
      rw [show nI 1 = 1 from rfl] at a1 a2 a3 a4 a5 a6 a7
      rw [if_pos c, if_pos c, if_pos c, if_pos c, if_pos c]
      simp only [if_true, show ¬ ((1 : Int32) = 0 ↔ (0 : Int32) = 0) by decide, show ¬ (1 : Int32) = 0 by decide, if_false]
      generalize em_pas A (em_imI I 1 1) = Z at *
      have e22 : ∀ j, j ≠ 22 → (va_up Z.1 22 (upd (Z.1 22) (1 : Int32).toNatClampNeg (vp_nar .boolean 1))) j = Z.1 j := fun j hj => va_up_ne _ _ hj
      have f0 : (va_up Z.1 22 (upd (Z.1 22) (1 : Int32).toNatClampNeg (vp_nar .boolean 1))) 22 0 = A 22 0 := by rw [va_up_self, a5]; rfl
      have f1 : (va_up Z.1 22 (upd (Z.1 22) (1 : Int32).toNatClampNeg (vp_nar .boolean 1))) 22 1 = 1 := by rw [va_up_self]; rfl
      refine ⟨a1.congr (fun j k hj _ => by rw [e22 j (by omega)]) ⟨rfl, fun _ _ => rfl, rfl⟩, a2.congr (fun j k hj _ => by rw [e22 j (by omega)]) ⟨rfl, fun _ _ => rfl, rfl⟩, h3, a3.trans h4, by rw [e22 10 (by decide), a4]; exact h5, by rw [f0]; exact h6, f1.symm, fun q => ?_, fun _ => by rw [e22 21 (by decide)]; exact a6⟩
      rw [e22 21 (by decide)]
      rw [f0] at q
      exact (h8 q).kept (fun i i1 i2 => a7 i (.inl (by omega)))
  · rw [if_neg c, if_neg c, if_neg c, if_neg c, if_neg c]; exact h
theorem eq_rstK {B : Nat} {U : Nat → Nat → Int32} {A : Nat → Nat → Int32} {I : Nat → Int32} {q : Nat} (hK : eq_K B U (A 21) q) (hq1 : q ≤ 100) {J : Nat → Int32} (j44 : J 44 = nI q) (j45 : J 45 = 0) (js : ∀ s, s ≠ 44 → s ≠ 45 → J s = I s) :
    eq_P U (em_pas A J).1 (em_pas A J).2 ∧ eq_R B (em_pas A J).1 (em_pas A J).2 ∧ (em_pas A J).2 20 = I 20 ∧ (∀ j, 10 ≤ j → (em_pas A J).1 j = A j) := by
  obtain ⟨p1, p2, p3, p4, p5⟩ := eq_pas (A := A) (I := J) j44 hq1
  obtain ⟨A0, I0, k1, k2, k3, k4⟩ := hK
  have hrow : ∀ j k, j < 10 → k < 6 → (em_pas A J).1 j k = A0 j k := fun j k hj hk => by rw [(p2 j k hj hk).1, if_pos j45]; exact k4 j k hj hk
  have hslot : ∀ s, (s = 0 ∨ (∃ k, k < 7 ∧ s = 8 + k) ∨ s = 18) → (em_pas A J).2 s = I0 s := fun s hs => by
    obtain ⟨i, hi⟩ := eq_slot0 s hs
    rw [(p1 i s hi).1, if_pos j45]
    exact k3 i s hi
  have hsame : eq_Isame (em_pas A J).2 I0 := ⟨hslot 0 (.inl rfl), fun k hk => hslot (8 + k) (.inr (.inl ⟨k, hk, rfl⟩)), hslot 18 (.inr (.inr rfl))⟩
  refine ⟨k1.congr hrow hsame, k2.congr hrow hsame, by rw [p5 20 (by decide) (by decide)]; exact js 20 (by decide) (by decide), fun j hj => ?_⟩
  by_cases e : j = 21
  · subst e
    funext i
    by_cases h1 : i < q ∨ q + 69 ≤ i
    · exact p3 i h1
    · by_cases h2 : i < q + 9
      · obtain ⟨s, hs⟩ : ∃ s, em_slots[i - q]? = some s := ⟨_, List.getElem?_eq_getElem (by rw [show em_slots.length = 9 from rfl]; omega)⟩
        have := (p1 (i - q) s hs).2
        rw [if_pos j45, show q + (i - q) = i by omega] at this
        exact this
      · have := (p2 ((i - q - 9) % 10) ((i - q - 9) / 10) (by omega) (by omega)).2
        rw [if_pos j45, show q + 9 + 10 * ((i - q - 9) / 10) + (i - q - 9) % 10 = i by omega] at this
        exact this
  · exact p4 j hj e
theorem eq_rst {B nn : Nat} {T TF TS : Nat → Nat → Int32} {g : Nat → Int32} {fk sk : Int32} {A : Nat → Nat → Int32} {I : Nat → Int32} (h : eq_All B nn T TF TS g fk sk A I) (x : Int32) : eq_All B nn (dj_rsT T TF TS x fk sk) TF TS g fk sk (em_rsG A I x).1 (em_rsG A I x).2 ∧ dj_rsR x fk sk = em_rsR A x := by
  have h0 := h
  obtain ⟨h1, h2, h3, h4, h5, h6, h7, h8, h9⟩ := h
  unfold dj_rsT dj_rsR em_rsG em_rsR
  by_cases c : xw_in x 0 1 = true
  · have j45 : ∀ w : Int32, em_imI I w 0 45 = 0 := fun w => by unfold em_imI; rw [va_up_self]
    have js : ∀ (w : Int32) s, s ≠ 44 → s ≠ 45 → em_imI I w 0 s = I s := fun w s q1 q2 => by
      unfold em_imI
      rw [va_up_ne _ _ q2, va_up_ne _ _ q1]
    rw [if_pos c, if_pos c, if_pos c, if_pos c]
    rcases eq_w01 c with q | q
    · subst q
      rw [if_pos rfl, if_pos rfl, show (0 : Int32).toNatClampNeg = 0 from rfl, h6]
      by_cases k : A 22 0 = 0
      · rw [if_pos k, if_pos k, if_pos k]
        rw [← h6]; exact ⟨h0, rfl⟩
      · rw [if_neg k, if_neg k, if_neg k]
        obtain ⟨a1, a2, a3, a4⟩ := eq_rstK (I := I) (h8 k) (by decide) (J := em_imI I 0 0) (by unfold em_imI; rw [va_up_ne _ _ (by decide), va_up_self]; rfl) (j45 0) (js 0)
        exact ⟨⟨a1, a2, h3, a3.trans h4, by rw [a4 10 (by decide)]; exact h5, by rw [a4 22 (by decide)], by rw [a4 22 (by decide)]; exact h7, by rw [a4 22 (by decide), a4 21 (by decide)]; exact h8, by rw [a4 22 (by decide), a4 21 (by decide)]; exact h9⟩, rfl⟩
    · subst q
      rw [if_neg (show ¬ (1 : Int32) = 0 by decide), if_neg (show ¬ (1 : Int32) = 0 by decide), show (1 : Int32).toNatClampNeg = 1 from rfl, h7]
      by_cases k : A 22 1 = 0
      · rw [if_pos k, if_pos k, if_pos k]
        rw [← h7]; exact ⟨h0, rfl⟩
      · rw [if_neg k, if_neg k, if_neg k]
        obtain ⟨a1, a2, a3, a4⟩ := eq_rstK (I := I) (h9 k) (by decide) (J := em_imI I 1 0) (by unfold em_imI; rw [va_up_ne _ _ (by decide), va_up_self]; rfl) (j45 1) (js 1)
        exact ⟨⟨a1, a2, h3, a3.trans h4, by rw [a4 10 (by decide)]; exact h5, by rw [a4 22 (by decide)]; exact h6, by rw [a4 22 (by decide)], by rw [a4 22 (by decide), a4 21 (by decide)]; exact h8, by rw [a4 22 (by decide), a4 21 (by decide)]; exact h9⟩, rfl⟩
  · rw [if_neg c, if_neg c, if_neg c, if_neg c]; exact ⟨h0, rfl⟩
