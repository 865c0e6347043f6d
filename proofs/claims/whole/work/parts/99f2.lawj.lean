/-! a new class and a new reference, cell by cell -/
def li_T : Nat → Nat → Int32 := fun j => if j = 0 then xg_f0 else xi_z
def li_A : Nat → Nat → Int32 := fun _ => xi_z
def li_I : Nat → Int32 := fun k => if k = 8 then 2 else if k = 9 then 3 else if k = 10 then 20 else if k = 11 then 1 else if k = 12 then 6 else if k = 14 then 1 else 0
def li_ad (q q1 : Nat → Nat) : Nat → Nat := fun k => if k < 75 then q k else q1 (k - 75)
theorem li_new : eq_All 0 0 li_T li_T li_T xi_z 0 0 li_A li_I := la_new
theorem lq_12 {P : Nat → Prop} (h0 : P 0) (h1 : P 1) (h2 : P 2) (h3 : P 3) (h4 : P 4) (h5 : P 5) (h6 : P 6) (h7 : P 7) (h8 : P 8) (h9 : P 9) (h10 : P 10) (h11 : P 11) : ∀ j : Nat, j < 12 → P j := by
  intro j hj
  rcases (show j = 0 ∨ j = 1 ∨ j = 2 ∨ j = 3 ∨ j = 4 ∨ j = 5 ∨ j = 6 ∨ j = 7 ∨ j = 8 ∨ j = 9 ∨ j = 10 ∨ j = 11 by omega) with q | q | q | q | q | q | q | q | q | q | q | q <;> subst q <;> assumption
theorem lq_22 {P : Nat → Prop} (h0 : P 0) (h1 : P 1) (h2 : P 2) (h3 : P 3) (h4 : P 4) (h5 : P 5) (h6 : P 6) (h7 : P 7) (h8 : P 8) (h9 : P 9) (h10 : P 10) (h11 : P 11) (h12 : P 12) (h13 : P 13) (h14 : P 14) (h15 : P 15) (h16 : P 16) (h17 : P 17) (h18 : P 18) (h19 : P 19) (h20 : P 20) (h21 : P 21) : ∀ j : Nat, j < 22 → P j := by
  intro j hj
  by_cases c : j < 12
  · exact lq_12 h0 h1 h2 h3 h4 h5 h6 h7 h8 h9 h10 h11 j c
  · rcases (show j = 12 ∨ j = 13 ∨ j = 14 ∨ j = 15 ∨ j = 16 ∨ j = 17 ∨ j = 18 ∨ j = 19 ∨ j = 20 ∨ j = 21 by omega) with q | q | q | q | q | q | q | q | q | q <;> subst q <;> assumption
theorem li_v1 (cI cZ : ClassId) (q q1 : Nat → Nat) : xv_T cI (li_ad q q1) (xi_7 cI q ++ xi_8 cI cZ q1) (0 + 1) li_T := ⟨rfl, lq_12 rfl rfl rfl rfl rfl rfl rfl rfl rfl rfl rfl rfl⟩
theorem li_v14 (cI cZ : ClassId) (q q1 : Nat → Nat) : xv_T cI (li_ad q q1) (xi_7 cI q ++ xi_8 cI cZ q1) (0 + 14) li_T := ⟨rfl, lq_12 rfl rfl rfl rfl rfl rfl rfl rfl rfl rfl rfl rfl⟩
theorem li_v27 (cI cZ : ClassId) (q q1 : Nat → Nat) : xv_T cI (li_ad q q1) (xi_7 cI q ++ xi_8 cI cZ q1) (0 + 27) li_T := ⟨rfl, lq_12 rfl rfl rfl rfl rfl rfl rfl rfl rfl rfl rfl rfl⟩
theorem li_v43 (cI cZ : ClassId) (q q1 : Nat → Nat) : xv_T cI (li_ad q q1) (xi_7 cI q ++ xi_8 cI cZ q1) (0 + 43) li_T := ⟨rfl, lq_12 rfl rfl rfl rfl rfl rfl rfl rfl rfl rfl rfl rfl⟩
theorem li_v62 (cI cZ : ClassId) (q q1 : Nat → Nat) : xv_T cI (li_ad q q1) (xi_7 cI q ++ xi_8 cI cZ q1) (0 + 62) li_T := ⟨rfl, lq_12 rfl rfl rfl rfl rfl rfl rfl rfl rfl rfl rfl rfl⟩
theorem li_vM (cI cZ : ClassId) (q q1 : Nat → Nat) : xv_M cI cZ (li_ad q q1) (xi_7 cI q ++ xi_8 cI cZ q1) (0 + 75) li_A li_I 0 := ⟨rfl, lq_22 rfl rfl rfl rfl rfl rfl rfl rfl rfl rfl rfl rfl rfl rfl rfl rfl rfl rfl rfl rfl rfl rfl, rfl⟩
theorem li_J (cI cZ : ClassId) (q q1 : Nat → Nat) : lj cI cZ (li_ad q q1) 0 0 (xi_7 cI q ++ xi_8 cI cZ q1) :=
  ⟨0, 0, 0, li_T, li_T, li_T, xi_z, li_A, li_I, 0, ⟨rfl, li_v1 cI cZ q q1, li_v14 cI cZ q q1, li_v27 cI cZ q q1, rfl, rfl, ⟨0, 0, 0, 0, 0, 0, li_T, xi_z, 1, 1, rfl, li_v43 cI cZ q q1, rfl, rfl⟩, ⟨0, 0, 0, 1, 1, rfl, rfl⟩, ⟨0, 0, 0, rfl⟩, ⟨0, 0, 0, li_T, rfl, li_v62 cI cZ q q1⟩, li_vM cI cZ q q1⟩, li_new⟩
