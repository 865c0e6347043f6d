set_option maxHeartbeats 4000000 in
set_option maxRecDepth 100000 in
theorem mX5_fewestToHold (l : Launch) (D : va_G) (cI cZ : ClassId) (bs : Nat) (ad : Nat → Nat) (ws : va_W) (b : Nat) (T : Nat → Nat → Int32) (hT : xv_T cI ad ws b T) : Met l yX5_fewestToHold wsX5_fewestToHold ({ frames := 4, cells := 0, slots := 0, locals := 89 } : Room) (va_Pc [.ref (ad b)] (fun U => xg_W D cI cZ bs ws U)) (xg_Ri (fun r : Int32 => r = dt_few T)) 0 0 xg_F := by
  refine xg_met cX5_fewestToHold 5 (some .int) RX5 (by decide) rfl rfl (Nat.le_of_ble_eq_true rfl) ?_
  intro pg en s m below meth c ls S hr hlk hnm hB hl
  have hK := hB.1
  have hG := xg_start hB
  obtain ⟨hx, hb, hml, hown, hts⟩ := id S
  have hl : lv_has ls 5 [(0, .ref (ad b))] := hl
  obtain ⟨Q, hQ⟩ : ∃ Q, Q = MQ below (xg_Ri (fun r : Int32 => r = dt_few T)) ([.ref (ad b)] : List Value).toArray s 0 0 xg_F := ⟨_, rfl⟩
  rw [← hQ]
  have k0 := hts (.fieldLink RX5 27 "DareBridge$Town" "wish" "[I") (List.mem_of_getElem? (i := 1) rfl)
  have k1 := hts (.initialized RX7) (List.mem_of_getElem? (i := 9) rfl)
  have k2 := hts (.static yX7_at) (List.mem_of_getElem? (i := 8) rfl)
  refine lv_iconst (v := 0) hx hb dX5_fewestToHold_0 (by decide) ?_
  refine lv_istore_n (lv' := [(1, .int 0), (0, .ref (ad b))]) hx hb dX5_fewestToHold_1 rfl hl (by decide) rfl (fun ls hl => ?_)
  refine lv_iconst (v := 0) hx hb dX5_fewestToHold_2 (by decide) ?_
  refine lv_istore_n (lv' := [(2, .int 0), (1, .int 0), (0, .ref (ad b))]) hx hb dX5_fewestToHold_3 rfl hl (by decide) rfl (fun ls hl => ?_)
  -- the loop at 4
  have lp4 : ∀ (fu : Nat) (k : Nat), (k ≤ 6) → (7 ≤ k + fu) → ∀ y4_1 : Int32, y4_1 = dt_frk T k → ∀ y4_2 : Int32, y4_2 = nI k → ∀ (ls : Array Slot), lv_has ls 5 [(0, .ref (ad b)), (1, .int y4_1), (2, .int y4_2)] → W pg l en ({ frames := 4, cells := 0, slots := 0, locals := 89 } : Room) s m ([.ref (ad b)] : List Value).toArray below meth c s.heap [] 0 0 Q (F0 m 4 ls []) := by
    intro fu
    induction fu with
    | zero =>
      intro k hk hf
      exact absurd hf (by omega)
    | succ fu ih =>
      intro k hk hf y4_1 ey4_1 y4_2 ey4_2
      intro ls hl
      replace ey4_1 := ey4_1.symm; subst ey4_1
      replace ey4_2 := ey4_2.symm; subst ey4_2
      refine lv_iload_n hx hb dX5_fewestToHold_4 rfl (lv_at hl 2 rfl) ?_
      refine lv_bipush (v := 6) hx hb dX5_fewestToHold_5 (by decide) ?_
      refine lv_icmp_ge (tgt := 41) hx hb dX5_fewestToHold_7 (by decide) (fun c7 => ?_) (fun c7 => ?_)
      · skip
        have hk9 : k = 6 := by have := xb_le (k := k) (n := 6) (by omega) (by decide) c7; omega
        refine lv_iconst (v := 0) hx hb dX5_fewestToHold_41 (by decide) ?_
        refine lv_istore_n (lv' := [(2, .int 0), (0, .ref (ad b)), (1, .int (dt_frk T k))]) hx hb dX5_fewestToHold_42 rfl hl (by decide) rfl (fun ls hl => ?_)
        refine lv_iconst (v := 1) hx hb dX5_fewestToHold_43 (by decide) ?_
        refine lv_istore_n (lv' := [(3, .int 1), (2, .int 0), (0, .ref (ad b)), (1, .int (dt_frk T k))]) hx hb dX5_fewestToHold_44 rfl hl (by decide) rfl (fun ls hl => ?_)
        -- the loop at 45
        have lp45 : ∀ (fu : Nat) (k : Nat), (k ≤ 63) → (64 ≤ k + fu) → ∀ y45_1 : Int32, y45_1 = dt_frk T 6 → ∀ y45_2 : Int32, y45_2 = dt_fwk T (dt_frk T 6) k → ∀ y45_3 : Int32, y45_3 = nI (k + 1) → ∀ (ls : Array Slot), lv_has ls 5 [(0, .ref (ad b)), (1, .int y45_1), (2, .int y45_2), (3, .int y45_3)] → W pg l en ({ frames := 4, cells := 0, slots := 0, locals := 89 } : Room) s m ([.ref (ad b)] : List Value).toArray below meth c s.heap [] 0 0 Q (F0 m 45 ls []) := by
          intro fu
          induction fu with
          | zero =>
            intro k hk hf
            exact absurd hf (by omega)
          | succ fu ih =>
            intro k hk hf y45_1 ey45_1 y45_2 ey45_2 y45_3 ey45_3
            intro ls hl
            replace ey45_1 := ey45_1.symm; subst ey45_1
            replace ey45_2 := ey45_2.symm; subst ey45_2
            replace ey45_3 := ey45_3.symm; subst ey45_3
            refine lv_iload_n hx hb dX5_fewestToHold_45 rfl (lv_at hl 3 rfl) ?_
            refine lv_bipush (v := 64) hx hb dX5_fewestToHold_46 (by decide) ?_
            refine lv_icmp_ge (tgt := 106) hx hb dX5_fewestToHold_48 (by decide) (fun c48 => ?_) (fun c48 => ?_)
            · skip
              have hk9 : k = 63 := by have := xb_le (k := k + 1) (n := 64) (by omega) (by decide) c48; omega
              refine lv_iload_n hx hb dX5_fewestToHold_106 rfl (lv_at hl 2 rfl) ?_
              rw [hQ]
              exact xg_eri S hr hlk (by skip; rw [hk9]; rfl) dX5_fewestToHold_107
            · skip
              have hk9 : k + 1 < 64 := xb_lt (by omega) (by decide) c48
              refine lv_iload_n hx hb dX5_fewestToHold_51 rfl (lv_at hl 2 rfl) ?_
              refine lv_if_eq (tgt := 66) hx hb dX5_fewestToHold_52 (by decide) (fun c52 => ?_) (fun c52 => ?_)
              · skip
                refine lv_iconst (v := 1) hx hb dX5_fewestToHold_66 (by decide) ?_
                refine lv_goto (tgt := 71) hx hb dX5_fewestToHold_67 (by decide) ?_
                refine lv_istore (lv' := [(4, .int 1), (0, .ref (ad b)), (1, .int (dt_frk T 6)), (2, .int (dt_fwk T (dt_frk T 6) k)), (3, .int (nI (k + 1)))]) hx hb dX5_fewestToHold_71 hl (by decide) rfl (fun ls hl => ?_)
                refine lv_iload_n hx hb dX5_fewestToHold_73 rfl (lv_at hl 4 rfl) ?_
                refine lv_iload_n hx hb dX5_fewestToHold_74 rfl (lv_at hl 2 rfl) ?_
                refine lv_iconst (v := (-1)) hx hb dX5_fewestToHold_75 (by decide) ?_
                refine lv_ixor hx hb dX5_fewestToHold_76 ?_
                refine lv_iand hx hb dX5_fewestToHold_77 ?_
                refine lv_if_ne (tgt := 100) hx hb dX5_fewestToHold_78 (by decide) (fun c78 => ?_) (fun c78 => ?_)
                · skip
                  obtain ⟨x1, ex1⟩ : ∃ zz : Int32, (nI (k + 1)) + 1 = zz := ⟨_, rfl⟩
                  refine lv_iinc (v := x1) (lv' := [(3, .int x1), (4, .int 1), (0, .ref (ad b)), (1, .int (dt_frk T 6)), (2, .int (dt_fwk T (dt_frk T 6) k))]) hx hb dX5_fewestToHold_100 hl (k := 4) rfl (by rw [← ex1]; rfl) (by decide) rfl (fun ls hl => ?_)
                  refine lv_goto (tgt := 45) hx hb dX5_fewestToHold_103 (by decide) ?_
                  exact ih (k + 1) (by omega) (by omega) (dt_frk T 6) rfl (dt_fwk T (dt_frk T 6) k) (by subst ex1; first | exact absurd c83 (by decide) | exact absurd rfl c83 | simp only [dt_fwk, dt_fwB, c7, c48, c52, c78, if_true, if_false, Bool.false_eq_true]) x1 (by subst ex1; exact nI_1 (k + 1)) ls (lv_sub hl [2, 3, 4, 0] rfl)
                · skip
                  refine lv_iload hx hb dX5_fewestToHold_81 (lv_at hl 0 rfl) ?_
                  refine lv_if_eq (tgt := 100) hx hb dX5_fewestToHold_83 (by decide) (fun c83 => ?_) (fun c83 => ?_)
                  · skip
                    obtain ⟨x2, ex2⟩ : ∃ zz : Int32, (nI (k + 1)) + 1 = zz := ⟨_, rfl⟩
                    refine lv_iinc (v := x2) (lv' := [(3, .int x2), (4, .int 1), (0, .ref (ad b)), (1, .int (dt_frk T 6)), (2, .int (dt_fwk T (dt_frk T 6) k))]) hx hb dX5_fewestToHold_100 hl (k := 4) rfl (by rw [← ex2]; rfl) (by decide) rfl (fun ls hl => ?_)
                    refine lv_goto (tgt := 45) hx hb dX5_fewestToHold_103 (by decide) ?_
                    exact ih (k + 1) (by omega) (by omega) (dt_frk T 6) rfl (dt_fwk T (dt_frk T 6) k) (by subst ex2; first | exact absurd c83 (by decide) | exact absurd rfl c83 | simp only [dt_fwk, dt_fwB, c7, c48, c52, c78, c83, if_true, if_false, Bool.false_eq_true]) x2 (by subst ex2; exact nI_1 (k + 1)) ls (lv_sub hl [2, 3, 4, 0] rfl)
                  · skip
                    refine lv_aload_n hx hb dX5_fewestToHold_86 rfl (lv_at hl 1 rfl) ?_
                    refine lv_aload_n hx hb dX5_fewestToHold_87 rfl (lv_at hl 1 rfl) ?_
                    refine lv_iload_n hx hb dX5_fewestToHold_88 rfl (lv_at hl 4 rfl) ?_
                    refine xg_ri (va_runV (As := [.int (nI (k + 1))]) (rest := [.ref (ad b)]) S (mX5_joined l D cI cZ bs ad ws b T hT (nI (k + 1))) (cwV 1 hts gX5_fewestToHold_X5_joined rfl rfl rfl (by decide +kernel) ⟨Nat.le_of_ble_eq_true rfl, Nat.le_of_ble_eq_true rfl⟩) (xg_preV hK hG b hT.1 rfl rfl) rfl rfl hl.1 rfl (lv_room (Nat.le_of_ble_eq_true rfl)) dX5_fewestToHold_89 ⟨Nat.zero_le _, Nat.zero_le _⟩) (fun r3 hr3 => ?_)
                    replace hr3 := hr3.symm; subst hr3
                    refine xg_ri (va_runV (As := [.int (dt_joi T (nI (k + 1)))]) (rest := []) S (mX5_isMost l D cI cZ bs ad ws b T hT (dt_joi T (nI (k + 1)))) (cwV 1 hts gX5_fewestToHold_X5_isMost rfl rfl rfl (by decide +kernel) ⟨Nat.le_of_ble_eq_true rfl, Nat.le_of_ble_eq_true rfl⟩) (xg_preV hK hG b hT.1 rfl rfl) rfl rfl hl.1 rfl (lv_room (Nat.le_of_ble_eq_true rfl)) dX5_fewestToHold_92 ⟨Nat.zero_le _, Nat.zero_le _⟩) (fun r4 hr4 => ?_)
                    replace hr4 := hr4.symm; subst hr4
                    refine xb_ifeq (tgt := 100) S dX5_fewestToHold_95 (by decide) (fun c95 => ?_) (fun c95 => ?_)
                    · skip
                      obtain ⟨x5, ex5⟩ : ∃ zz : Int32, (nI (k + 1)) + 1 = zz := ⟨_, rfl⟩
                      refine lv_iinc (v := x5) (lv' := [(3, .int x5), (4, .int 1), (0, .ref (ad b)), (1, .int (dt_frk T 6)), (2, .int (dt_fwk T (dt_frk T 6) k))]) hx hb dX5_fewestToHold_100 hl (k := 4) rfl (by rw [← ex5]; rfl) (by decide) rfl (fun ls hl => ?_)
                      refine lv_goto (tgt := 45) hx hb dX5_fewestToHold_103 (by decide) ?_
                      exact ih (k + 1) (by omega) (by omega) (dt_frk T 6) rfl (dt_fwk T (dt_frk T 6) k) (by subst ex5; first | exact absurd c83 (by decide) | exact absurd rfl c83 | simp only [dt_fwk, dt_fwB, c7, c48, c52, c78, c83, c95, if_true, if_false, Bool.false_eq_true]) x5 (by subst ex5; exact nI_1 (k + 1)) ls (lv_sub hl [2, 3, 4, 0] rfl)
                    · skip
                      refine lv_iload_n hx hb dX5_fewestToHold_98 rfl (lv_at hl 4 rfl) ?_
                      refine lv_istore_n (lv' := [(2, .int (nI (k + 1))), (4, .int 1), (0, .ref (ad b)), (1, .int (dt_frk T 6)), (3, .int (nI (k + 1)))]) hx hb dX5_fewestToHold_99 rfl hl (by decide) rfl (fun ls hl => ?_)
                      obtain ⟨x6, ex6⟩ : ∃ zz : Int32, (nI (k + 1)) + 1 = zz := ⟨_, rfl⟩
                      refine lv_iinc (v := x6) (lv' := [(3, .int x6), (2, .int (nI (k + 1))), (4, .int 1), (0, .ref (ad b)), (1, .int (dt_frk T 6))]) hx hb dX5_fewestToHold_100 hl (k := 4) rfl (by rw [← ex6]; rfl) (by decide) rfl (fun ls hl => ?_)
                      refine lv_goto (tgt := 45) hx hb dX5_fewestToHold_103 (by decide) ?_
                      exact ih (k + 1) (by omega) (by omega) (dt_frk T 6) rfl (nI (k + 1)) (by subst ex6; first | exact absurd c83 (by decide) | exact absurd rfl c83 | simp only [dt_fwk, dt_fwB, c7, c48, c52, c78, c83, c95, if_true, if_false, Bool.false_eq_true]) x6 (by subst ex6; exact nI_1 (k + 1)) ls (lv_sub hl [3, 4, 1, 0] rfl)
              · skip
                refine lv_iload_n hx hb dX5_fewestToHold_55 rfl (lv_at hl 3 rfl) ?_
                refine xg_ri (va_runS (As := [.int (nI (k + 1))]) (rest := []) S (mJ6_bitCount_0f7a4 l D cI cZ bs ad ws (nI (k + 1))) (va_cwS 1 hts gX5_fewestToHold_J6_bitCount_0f7a4 rfl rfl rfl (by decide +kernel) ⟨Nat.le_of_ble_eq_true rfl, Nat.le_of_ble_eq_true rfl⟩) (xg_preS hK hG) rfl rfl hl.1 rfl (lv_room (Nat.le_of_ble_eq_true rfl)) dX5_fewestToHold_56 ⟨Nat.zero_le _, Nat.zero_le _⟩) (fun r7 hr7 => ?_)
                replace hr7 := hr7.symm; subst hr7
                refine lv_iload_n hx hb dX5_fewestToHold_59 rfl (lv_at hl 2 rfl) ?_
                refine xg_ri (va_runS (As := [.int (dt_fwk T (dt_frk T 6) k)]) (rest := [.int (xw_bc (nI (k + 1)))]) S (mJ6_bitCount_0f7a4 l D cI cZ bs ad ws (dt_fwk T (dt_frk T 6) k)) (va_cwS 1 hts gX5_fewestToHold_J6_bitCount_0f7a4 rfl rfl rfl (by decide +kernel) ⟨Nat.le_of_ble_eq_true rfl, Nat.le_of_ble_eq_true rfl⟩) (xg_preS hK hG) rfl rfl hl.1 rfl (lv_room (Nat.le_of_ble_eq_true rfl)) dX5_fewestToHold_60 ⟨Nat.zero_le _, Nat.zero_le _⟩) (fun r8 hr8 => ?_)
                replace hr8 := hr8.symm; subst hr8
                refine lv_icmp_ge (tgt := 70) hx hb dX5_fewestToHold_63 (by decide) (fun c63 => ?_) (fun c63 => ?_)
                · skip
                  refine lv_iconst (v := 0) hx hb dX5_fewestToHold_70 (by decide) ?_
                  refine lv_istore (lv' := [(4, .int 0), (0, .ref (ad b)), (1, .int (dt_frk T 6)), (2, .int (dt_fwk T (dt_frk T 6) k)), (3, .int (nI (k + 1)))]) hx hb dX5_fewestToHold_71 hl (by decide) rfl (fun ls hl => ?_)
                  refine lv_iload_n hx hb dX5_fewestToHold_73 rfl (lv_at hl 4 rfl) ?_
                  refine lv_iload_n hx hb dX5_fewestToHold_74 rfl (lv_at hl 2 rfl) ?_
                  refine lv_iconst (v := (-1)) hx hb dX5_fewestToHold_75 (by decide) ?_
                  refine lv_ixor hx hb dX5_fewestToHold_76 ?_
                  refine lv_iand hx hb dX5_fewestToHold_77 ?_
                  refine lv_if_ne (tgt := 100) hx hb dX5_fewestToHold_78 (by decide) (fun c78 => ?_) (fun c78 => ?_)
                  · skip
                    obtain ⟨x9, ex9⟩ : ∃ zz : Int32, (nI (k + 1)) + 1 = zz := ⟨_, rfl⟩
                    refine lv_iinc (v := x9) (lv' := [(3, .int x9), (4, .int 0), (0, .ref (ad b)), (1, .int (dt_frk T 6)), (2, .int (dt_fwk T (dt_frk T 6) k))]) hx hb dX5_fewestToHold_100 hl (k := 4) rfl (by rw [← ex9]; rfl) (by decide) rfl (fun ls hl => ?_)
                    refine lv_goto (tgt := 45) hx hb dX5_fewestToHold_103 (by decide) ?_
                    exact ih (k + 1) (by omega) (by omega) (dt_frk T 6) rfl (dt_fwk T (dt_frk T 6) k) (by subst ex9; first | exact absurd c83 (by decide) | exact absurd rfl c83 | simp only [dt_fwk, dt_fwB, c7, c48, c52, c63, c78, if_true, if_false, Bool.false_eq_true]) x9 (by subst ex9; exact nI_1 (k + 1)) ls (lv_sub hl [2, 3, 4, 0] rfl)
                  · skip
                    refine lv_iload hx hb dX5_fewestToHold_81 (lv_at hl 0 rfl) ?_
                    refine lv_if_eq (tgt := 100) hx hb dX5_fewestToHold_83 (by decide) (fun c83 => ?_) (fun c83 => ?_)
                    · skip
                      obtain ⟨x10, ex10⟩ : ∃ zz : Int32, (nI (k + 1)) + 1 = zz := ⟨_, rfl⟩
                      refine lv_iinc (v := x10) (lv' := [(3, .int x10), (4, .int 0), (0, .ref (ad b)), (1, .int (dt_frk T 6)), (2, .int (dt_fwk T (dt_frk T 6) k))]) hx hb dX5_fewestToHold_100 hl (k := 4) rfl (by rw [← ex10]; rfl) (by decide) rfl (fun ls hl => ?_)
                      refine lv_goto (tgt := 45) hx hb dX5_fewestToHold_103 (by decide) ?_
                      exact ih (k + 1) (by omega) (by omega) (dt_frk T 6) rfl (dt_fwk T (dt_frk T 6) k) (by subst ex10; first | exact absurd c83 (by decide) | exact absurd rfl c83 | simp only [dt_fwk, dt_fwB, c7, c48, c52, c63, c78, c83, if_true, if_false, Bool.false_eq_true]) x10 (by subst ex10; exact nI_1 (k + 1)) ls (lv_sub hl [2, 3, 4, 0] rfl)
                    · skip
                      refine lv_aload_n hx hb dX5_fewestToHold_86 rfl (lv_at hl 1 rfl) ?_
                      refine lv_aload_n hx hb dX5_fewestToHold_87 rfl (lv_at hl 1 rfl) ?_
                      refine lv_iload_n hx hb dX5_fewestToHold_88 rfl (lv_at hl 4 rfl) ?_
                      refine xg_ri (va_runV (As := [.int (nI (k + 1))]) (rest := [.ref (ad b)]) S (mX5_joined l D cI cZ bs ad ws b T hT (nI (k + 1))) (cwV 1 hts gX5_fewestToHold_X5_joined rfl rfl rfl (by decide +kernel) ⟨Nat.le_of_ble_eq_true rfl, Nat.le_of_ble_eq_true rfl⟩) (xg_preV hK hG b hT.1 rfl rfl) rfl rfl hl.1 rfl (lv_room (Nat.le_of_ble_eq_true rfl)) dX5_fewestToHold_89 ⟨Nat.zero_le _, Nat.zero_le _⟩) (fun r11 hr11 => ?_)
                      replace hr11 := hr11.symm; subst hr11
                      refine xg_ri (va_runV (As := [.int (dt_joi T (nI (k + 1)))]) (rest := []) S (mX5_isMost l D cI cZ bs ad ws b T hT (dt_joi T (nI (k + 1)))) (cwV 1 hts gX5_fewestToHold_X5_isMost rfl rfl rfl (by decide +kernel) ⟨Nat.le_of_ble_eq_true rfl, Nat.le_of_ble_eq_true rfl⟩) (xg_preV hK hG b hT.1 rfl rfl) rfl rfl hl.1 rfl (lv_room (Nat.le_of_ble_eq_true rfl)) dX5_fewestToHold_92 ⟨Nat.zero_le _, Nat.zero_le _⟩) (fun r12 hr12 => ?_)
                      replace hr12 := hr12.symm; subst hr12
                      refine xb_ifeq (tgt := 100) S dX5_fewestToHold_95 (by decide) (fun c95 => ?_) (fun c95 => ?_)
                      · skip
                        obtain ⟨x13, ex13⟩ : ∃ zz : Int32, (nI (k + 1)) + 1 = zz := ⟨_, rfl⟩
                        refine lv_iinc (v := x13) (lv' := [(3, .int x13), (4, .int 0), (0, .ref (ad b)), (1, .int (dt_frk T 6)), (2, .int (dt_fwk T (dt_frk T 6) k))]) hx hb dX5_fewestToHold_100 hl (k := 4) rfl (by rw [← ex13]; rfl) (by decide) rfl (fun ls hl => ?_)
                        refine lv_goto (tgt := 45) hx hb dX5_fewestToHold_103 (by decide) ?_
                        exact ih (k + 1) (by omega) (by omega) (dt_frk T 6) rfl (dt_fwk T (dt_frk T 6) k) (by subst ex13; first | exact absurd c83 (by decide) | exact absurd rfl c83 | simp only [dt_fwk, dt_fwB, c7, c48, c52, c63, c78, c83, c95, if_true, if_false, Bool.false_eq_true]) x13 (by subst ex13; exact nI_1 (k + 1)) ls (lv_sub hl [2, 3, 4, 0] rfl)
                      · skip
                        refine lv_iload_n hx hb dX5_fewestToHold_98 rfl (lv_at hl 4 rfl) ?_
                        refine lv_istore_n (lv' := [(2, .int (nI (k + 1))), (4, .int 0), (0, .ref (ad b)), (1, .int (dt_frk T 6)), (3, .int (nI (k + 1)))]) hx hb dX5_fewestToHold_99 rfl hl (by decide) rfl (fun ls hl => ?_)
                        obtain ⟨x14, ex14⟩ : ∃ zz : Int32, (nI (k + 1)) + 1 = zz := ⟨_, rfl⟩
                        refine lv_iinc (v := x14) (lv' := [(3, .int x14), (2, .int (nI (k + 1))), (4, .int 0), (0, .ref (ad b)), (1, .int (dt_frk T 6))]) hx hb dX5_fewestToHold_100 hl (k := 4) rfl (by rw [← ex14]; rfl) (by decide) rfl (fun ls hl => ?_)
                        refine lv_goto (tgt := 45) hx hb dX5_fewestToHold_103 (by decide) ?_
                        exact ih (k + 1) (by omega) (by omega) (dt_frk T 6) rfl (nI (k + 1)) (by subst ex14; first | exact absurd c83 (by decide) | exact absurd rfl c83 | simp only [dt_fwk, dt_fwB, c7, c48, c52, c63, c78, c83, c95, if_true, if_false, Bool.false_eq_true]) x14 (by subst ex14; exact nI_1 (k + 1)) ls (lv_sub hl [3, 4, 1, 0] rfl)
                · skip
                  refine lv_iconst (v := 1) hx hb dX5_fewestToHold_66 (by decide) ?_
                  refine lv_goto (tgt := 71) hx hb dX5_fewestToHold_67 (by decide) ?_
                  refine lv_istore (lv' := [(4, .int 1), (0, .ref (ad b)), (1, .int (dt_frk T 6)), (2, .int (dt_fwk T (dt_frk T 6) k)), (3, .int (nI (k + 1)))]) hx hb dX5_fewestToHold_71 hl (by decide) rfl (fun ls hl => ?_)
                  refine lv_iload_n hx hb dX5_fewestToHold_73 rfl (lv_at hl 4 rfl) ?_
                  refine lv_iload_n hx hb dX5_fewestToHold_74 rfl (lv_at hl 2 rfl) ?_
                  refine lv_iconst (v := (-1)) hx hb dX5_fewestToHold_75 (by decide) ?_
                  refine lv_ixor hx hb dX5_fewestToHold_76 ?_
                  refine lv_iand hx hb dX5_fewestToHold_77 ?_
                  refine lv_if_ne (tgt := 100) hx hb dX5_fewestToHold_78 (by decide) (fun c78 => ?_) (fun c78 => ?_)
                  · skip
                    obtain ⟨x15, ex15⟩ : ∃ zz : Int32, (nI (k + 1)) + 1 = zz := ⟨_, rfl⟩
                    refine lv_iinc (v := x15) (lv' := [(3, .int x15), (4, .int 1), (0, .ref (ad b)), (1, .int (dt_frk T 6)), (2, .int (dt_fwk T (dt_frk T 6) k))]) hx hb dX5_fewestToHold_100 hl (k := 4) rfl (by rw [← ex15]; rfl) (by decide) rfl (fun ls hl => ?_)
                    refine lv_goto (tgt := 45) hx hb dX5_fewestToHold_103 (by decide) ?_
                    exact ih (k + 1) (by omega) (by omega) (dt_frk T 6) rfl (dt_fwk T (dt_frk T 6) k) (by subst ex15; first | exact absurd c83 (by decide) | exact absurd rfl c83 | simp only [dt_fwk, dt_fwB, c7, c48, c52, c63, c78, if_true, if_false, Bool.false_eq_true]) x15 (by subst ex15; exact nI_1 (k + 1)) ls (lv_sub hl [2, 3, 4, 0] rfl)
                  · skip
                    refine lv_iload hx hb dX5_fewestToHold_81 (lv_at hl 0 rfl) ?_
                    refine lv_if_eq (tgt := 100) hx hb dX5_fewestToHold_83 (by decide) (fun c83 => ?_) (fun c83 => ?_)
                    · skip
                      obtain ⟨x16, ex16⟩ : ∃ zz : Int32, (nI (k + 1)) + 1 = zz := ⟨_, rfl⟩
                      refine lv_iinc (v := x16) (lv' := [(3, .int x16), (4, .int 1), (0, .ref (ad b)), (1, .int (dt_frk T 6)), (2, .int (dt_fwk T (dt_frk T 6) k))]) hx hb dX5_fewestToHold_100 hl (k := 4) rfl (by rw [← ex16]; rfl) (by decide) rfl (fun ls hl => ?_)
                      refine lv_goto (tgt := 45) hx hb dX5_fewestToHold_103 (by decide) ?_
                      exact ih (k + 1) (by omega) (by omega) (dt_frk T 6) rfl (dt_fwk T (dt_frk T 6) k) (by subst ex16; first | exact absurd c83 (by decide) | exact absurd rfl c83 | simp only [dt_fwk, dt_fwB, c7, c48, c52, c63, c78, c83, if_true, if_false, Bool.false_eq_true]) x16 (by subst ex16; exact nI_1 (k + 1)) ls (lv_sub hl [2, 3, 4, 0] rfl)
                    · skip
                      refine lv_aload_n hx hb dX5_fewestToHold_86 rfl (lv_at hl 1 rfl) ?_
                      refine lv_aload_n hx hb dX5_fewestToHold_87 rfl (lv_at hl 1 rfl) ?_
                      refine lv_iload_n hx hb dX5_fewestToHold_88 rfl (lv_at hl 4 rfl) ?_
                      refine xg_ri (va_runV (As := [.int (nI (k + 1))]) (rest := [.ref (ad b)]) S (mX5_joined l D cI cZ bs ad ws b T hT (nI (k + 1))) (cwV 1 hts gX5_fewestToHold_X5_joined rfl rfl rfl (by decide +kernel) ⟨Nat.le_of_ble_eq_true rfl, Nat.le_of_ble_eq_true rfl⟩) (xg_preV hK hG b hT.1 rfl rfl) rfl rfl hl.1 rfl (lv_room (Nat.le_of_ble_eq_true rfl)) dX5_fewestToHold_89 ⟨Nat.zero_le _, Nat.zero_le _⟩) (fun r17 hr17 => ?_)
                      replace hr17 := hr17.symm; subst hr17
                      refine xg_ri (va_runV (As := [.int (dt_joi T (nI (k + 1)))]) (rest := []) S (mX5_isMost l D cI cZ bs ad ws b T hT (dt_joi T (nI (k + 1)))) (cwV 1 hts gX5_fewestToHold_X5_isMost rfl rfl rfl (by decide +kernel) ⟨Nat.le_of_ble_eq_true rfl, Nat.le_of_ble_eq_true rfl⟩) (xg_preV hK hG b hT.1 rfl rfl) rfl rfl hl.1 rfl (lv_room (Nat.le_of_ble_eq_true rfl)) dX5_fewestToHold_92 ⟨Nat.zero_le _, Nat.zero_le _⟩) (fun r18 hr18 => ?_)
                      replace hr18 := hr18.symm; subst hr18
                      refine xb_ifeq (tgt := 100) S dX5_fewestToHold_95 (by decide) (fun c95 => ?_) (fun c95 => ?_)
                      · skip
                        obtain ⟨x19, ex19⟩ : ∃ zz : Int32, (nI (k + 1)) + 1 = zz := ⟨_, rfl⟩
                        refine lv_iinc (v := x19) (lv' := [(3, .int x19), (4, .int 1), (0, .ref (ad b)), (1, .int (dt_frk T 6)), (2, .int (dt_fwk T (dt_frk T 6) k))]) hx hb dX5_fewestToHold_100 hl (k := 4) rfl (by rw [← ex19]; rfl) (by decide) rfl (fun ls hl => ?_)
                        refine lv_goto (tgt := 45) hx hb dX5_fewestToHold_103 (by decide) ?_
                        exact ih (k + 1) (by omega) (by omega) (dt_frk T 6) rfl (dt_fwk T (dt_frk T 6) k) (by subst ex19; first | exact absurd c83 (by decide) | exact absurd rfl c83 | simp only [dt_fwk, dt_fwB, c7, c48, c52, c63, c78, c83, c95, if_true, if_false, Bool.false_eq_true]) x19 (by subst ex19; exact nI_1 (k + 1)) ls (lv_sub hl [2, 3, 4, 0] rfl)
                      · skip
                        refine lv_iload_n hx hb dX5_fewestToHold_98 rfl (lv_at hl 4 rfl) ?_
                        refine lv_istore_n (lv' := [(2, .int (nI (k + 1))), (4, .int 1), (0, .ref (ad b)), (1, .int (dt_frk T 6)), (3, .int (nI (k + 1)))]) hx hb dX5_fewestToHold_99 rfl hl (by decide) rfl (fun ls hl => ?_)
                        obtain ⟨x20, ex20⟩ : ∃ zz : Int32, (nI (k + 1)) + 1 = zz := ⟨_, rfl⟩
                        refine lv_iinc (v := x20) (lv' := [(3, .int x20), (2, .int (nI (k + 1))), (4, .int 1), (0, .ref (ad b)), (1, .int (dt_frk T 6))]) hx hb dX5_fewestToHold_100 hl (k := 4) rfl (by rw [← ex20]; rfl) (by decide) rfl (fun ls hl => ?_)
                        refine lv_goto (tgt := 45) hx hb dX5_fewestToHold_103 (by decide) ?_
                        exact ih (k + 1) (by omega) (by omega) (dt_frk T 6) rfl (nI (k + 1)) (by subst ex20; first | exact absurd c83 (by decide) | exact absurd rfl c83 | simp only [dt_fwk, dt_fwB, c7, c48, c52, c63, c78, c83, c95, if_true, if_false, Bool.false_eq_true]) x20 (by subst ex20; exact nI_1 (k + 1)) ls (lv_sub hl [3, 4, 1, 0] rfl)
        exact lp45 64 0 (by omega) (by omega) (dt_frk T k) (by rw [hk9]) 0 (by skip; rfl) 1 (by skip; rfl) ls (lv_sub hl [2, 3, 1, 0] rfl)
      · skip
        have hk9 : k < 6 := xb_lt (by omega) (by decide) c7
        refine lv_aload_n hx hb dX5_fewestToHold_10 rfl (lv_at hl 0 rfl) ?_
        refine lv_iload_n hx hb dX5_fewestToHold_11 rfl (lv_at hl 2 rfl) ?_
        refine xg_ri (va_runV (As := [.int (nI k)]) (rest := []) S (mX5_isThere l D cI cZ bs ad ws b T hT (nI k)) (cwV 1 hts gX5_fewestToHold_X5_isThere rfl rfl rfl (by decide +kernel) ⟨Nat.le_of_ble_eq_true rfl, Nat.le_of_ble_eq_true rfl⟩) (xg_preV hK hG b hT.1 rfl rfl) rfl rfl hl.1 rfl (lv_room (Nat.le_of_ble_eq_true rfl)) dX5_fewestToHold_12 ⟨Nat.zero_le _, Nat.zero_le _⟩) (fun r21 hr21 => ?_)
        replace hr21 := hr21.symm; subst hr21
        refine xb_ifeq (tgt := 35) S dX5_fewestToHold_15 (by decide) (fun c15 => ?_) (fun c15 => ?_)
        · skip
          obtain ⟨x22, ex22⟩ : ∃ zz : Int32, (nI k) + 1 = zz := ⟨_, rfl⟩
          refine lv_iinc (v := x22) (lv' := [(2, .int x22), (0, .ref (ad b)), (1, .int (dt_frk T k))]) hx hb dX5_fewestToHold_35 hl (k := 2) rfl (by rw [← ex22]; rfl) (by decide) rfl (fun ls hl => ?_)
          refine lv_goto (tgt := 4) hx hb dX5_fewestToHold_38 (by decide) ?_
          exact ih (k + 1) (by omega) (by omega) (dt_frk T k) (by subst ex22; simp [dt_frk, c7, c15]) x22 (by subst ex22; exact nI_1 k) ls (lv_sub hl [1, 2, 0] rfl)
        · skip
          refine lv_aload_n hx hb dX5_fewestToHold_18 rfl (lv_at hl 0 rfl) ?_
          refine xg_get (C := RX5) (T := TX5) (N := 13) S hK hG (fun w h => List.mem_cons_of_mem _ (List.mem_append_right _ (h))) b hT.1 rfl 5 (by decide) k0 (fun _ h9 => h9) rfl dX5_fewestToHold_19 ?_
          refine lv_iload_n hx hb dX5_fewestToHold_22 rfl (lv_at hl 2 rfl) ?_
          refine xg_ri (va_runSN (As := [.ref (ad (b + 6)), .int (nI k)]) (rest := []) S (mX7_at l D cI cZ bs ad ws (b + 6) 6 (T 5) (show ws[b + 6]? = some (ad (b + 6), .inl (cI, 6, .inl (T 5))) from hT.2 5 (by decide)) (nI k) (by decide)) ⟨(va_cnB 2 hts gX5_fewestToHold_X7_at_n59 rfl rfl rfl (hK.2.1 _ xg_nest_10) k1 (by decide +kernel) ⟨Nat.le_of_ble_eq_true rfl, Nat.le_of_ble_eq_true rfl⟩), k2, trivial⟩ (xg_preS hK hG) rfl rfl hl.1 rfl (lv_room (Nat.le_of_ble_eq_true rfl)) dX5_fewestToHold_23 ⟨Nat.zero_le _, Nat.zero_le _⟩) (fun r23 hr23 => ?_)
          replace hr23 := hr23.symm; subst hr23
          refine lv_if_ne (tgt := 35) hx hb dX5_fewestToHold_26 (by decide) (fun c26 => ?_) (fun c26 => ?_)
          · skip
            obtain ⟨x24, ex24⟩ : ∃ zz : Int32, (nI k) + 1 = zz := ⟨_, rfl⟩
            refine lv_iinc (v := x24) (lv' := [(2, .int x24), (0, .ref (ad b)), (1, .int (dt_frk T k))]) hx hb dX5_fewestToHold_35 hl (k := 2) rfl (by rw [← ex24]; rfl) (by decide) rfl (fun ls hl => ?_)
            refine lv_goto (tgt := 4) hx hb dX5_fewestToHold_38 (by decide) ?_
            exact ih (k + 1) (by omega) (by omega) (dt_frk T k) (by subst ex24; simp [dt_frk, c7, c15, c26]) x24 (by subst ex24; exact nI_1 k) ls (lv_sub hl [1, 2, 0] rfl)
          · skip
            refine lv_iload_n hx hb dX5_fewestToHold_29 rfl (lv_at hl 1 rfl) ?_
            refine lv_iconst (v := 1) hx hb dX5_fewestToHold_30 (by decide) ?_
            refine lv_iload_n hx hb dX5_fewestToHold_31 rfl (lv_at hl 2 rfl) ?_
            refine lv_ishl hx hb dX5_fewestToHold_32 ?_
            refine lv_ior hx hb dX5_fewestToHold_33 ?_
            refine lv_topi (fun x25 ex25 => ?_)
            replace ex25 := ex25.symm
            refine lv_istore_n (lv' := [(1, .int x25), (0, .ref (ad b)), (2, .int (nI k))]) hx hb dX5_fewestToHold_34 rfl hl (by decide) rfl (fun ls hl => ?_)
            obtain ⟨x26, ex26⟩ : ∃ zz : Int32, (nI k) + 1 = zz := ⟨_, rfl⟩
            refine lv_iinc (v := x26) (lv' := [(2, .int x26), (1, .int x25), (0, .ref (ad b))]) hx hb dX5_fewestToHold_35 hl (k := 2) rfl (by rw [← ex26]; rfl) (by decide) rfl (fun ls hl => ?_)
            refine lv_goto (tgt := 4) hx hb dX5_fewestToHold_38 (by decide) ?_
            exact ih (k + 1) (by omega) (by omega) x25 (by subst ex25 ex26; simp [dt_frk, c7, c15, c26]) x26 (by subst ex25 ex26; exact nI_1 k) ls (lv_sub hl [2, 1, 0] rfl)
  exact lp4 7 0 (by omega) (by omega) 0 (by skip; rfl) 0 (by skip; rfl) ls (lv_sub hl [2, 1, 0] rfl)
set_option maxHeartbeats 4000000 in
set_option maxRecDepth 100000 in
theorem mX5_copyFrom (l : Launch) (D : va_G) (cI cZ : ClassId) (bs : Nat) (ad : Nat → Nat) (ws : va_W) (b : Nat) (b2 : Nat) (T : Nat → Nat → Int32) (hT : xv_T cI ad ws b T) (U : Nat → Nat → Int32) (hU : xv_T cI ad ws b2 U) (hbc : b + 13 ≤ b2 ∨ b2 + 13 ≤ b) : Met l yX5_copyFrom wsX5_copyFrom ({ frames := 2, cells := 0, slots := 0, locals := 44 } : Room) (va_Pc [.ref (ad b), .ref (ad b2)] (fun U => xg_W D cI cZ bs ws U)) (va_Qv (fun w : va_W => xv_T cI ad w b U ∧ xv_T cI ad w b2 U ∧ xv_S ws w b 13) (fun w t => xg_W D cI cZ bs w t) (xg_A bs)) 0 0 (xg_A bs) := by
  refine xg_met cX5_copyFrom 2 none RX5 (by decide) rfl rfl (Nat.le_of_ble_eq_true rfl) ?_
  intro pg en s m below meth c ls S hr hlk hnm hB hl
  have hK := hB.1
  have hG := xg_start hB
  obtain ⟨hx, hb, hml, hown, hts⟩ := id S
  have hl : lv_has ls 2 [(0, .ref (ad b)), (1, .ref (ad b2))] := hl
  obtain ⟨Q, hQ⟩ : ∃ Q, Q = MQ below (va_Qv (fun w : va_W => xv_T cI ad w b U ∧ xv_T cI ad w b2 U ∧ xv_S ws w b 13) (fun w t => xg_W D cI cZ bs w t) (xg_A bs)) ([.ref (ad b), .ref (ad b2)] : List Value).toArray s 0 0 (xg_A bs) := ⟨_, rfl⟩
  rw [← hQ]
  have k0 := hts (.fieldLink RX5 9 "DareBridge$Town" "rules" "[I") (List.mem_of_getElem? (i := 1) rfl)
  have k1 := hts (.initialized RX7) (List.mem_of_getElem? (i := 15) rfl)
  have k2 := hts (.static yX7_copyRow) (List.mem_of_getElem? (i := 14) rfl)
  have k3 := hts (.fieldLink RX5 15 "DareBridge$Town" "there" "[I") (List.mem_of_getElem? (i := 2) rfl)
  have k4 := hts (.fieldLink RX5 18 "DareBridge$Town" "skill" "[I") (List.mem_of_getElem? (i := 3) rfl)
  have k5 := hts (.fieldLink RX5 21 "DareBridge$Town" "fear" "[I") (List.mem_of_getElem? (i := 4) rfl)
  have k6 := hts (.fieldLink RX5 24 "DareBridge$Town" "pride" "[I") (List.mem_of_getElem? (i := 5) rfl)
  have k7 := hts (.fieldLink RX5 27 "DareBridge$Town" "wish" "[I") (List.mem_of_getElem? (i := 6) rfl)
  have k8 := hts (.fieldLink RX5 30 "DareBridge$Town" "high" "[I") (List.mem_of_getElem? (i := 7) rfl)
  have k9 := hts (.fieldLink RX5 33 "DareBridge$Town" "fame" "[I") (List.mem_of_getElem? (i := 8) rfl)
  have k10 := hts (.fieldLink RX5 36 "DareBridge$Town" "plaster" "[I") (List.mem_of_getElem? (i := 9) rfl)
  have k11 := hts (.fieldLink RX5 39 "DareBridge$Town" "sightOf" "[I") (List.mem_of_getElem? (i := 10) rfl)
  have k12 := hts (.fieldLink RX5 42 "DareBridge$Town" "sightHeight" "[I") (List.mem_of_getElem? (i := 11) rfl)
  have k13 := hts (.fieldLink RX5 45 "DareBridge$Town" "sightDid" "[I") (List.mem_of_getElem? (i := 12) rfl)
  have k14 := hts (.fieldLink RX5 48 "DareBridge$Town" "sights" "I") (List.mem_of_getElem? (i := 13) rfl)
  refine lv_aload_n hx hb dX5_copyFrom_0 rfl (lv_at hl 1 rfl) ?_
  refine lv_ifnonnull (tgt := 5) hx hb dX5_copyFrom_1 (by decide) ?_
  refine lv_aload_n hx hb dX5_copyFrom_5 rfl (lv_at hl 1 rfl) ?_
  refine xg_get (C := RX5) (T := TX5) (N := 13) S hK hG (fun w h => List.mem_cons_of_mem _ (List.mem_append_right _ (h))) b2 hU.1 rfl 0 (by decide) k0 (fun _ h9 => h9) rfl dX5_copyFrom_6 ?_
  refine lv_aload_n hx hb dX5_copyFrom_9 rfl (lv_at hl 0 rfl) ?_
  refine xg_get (C := RX5) (T := TX5) (N := 13) S hK hG (fun w h => List.mem_cons_of_mem _ (List.mem_append_right _ (h))) b hT.1 rfl 0 (by decide) k0 (fun _ h9 => h9) rfl dX5_copyFrom_10 ?_
  refine xg_mv (va_runSN (As := [.ref (ad (b2 + 1)), .ref (ad (b + 1))]) (rest := []) S (mX7_copyRow l D cI cZ bs ad ws (b2 + 1) (b + 1) 7 (U 0) (show ws[b2 + 1]? = some (ad (b2 + 1), .inl (cI, 7, .inl (U 0))) from hU.2 0 (by decide)) (T 0) (show ws[b + 1]? = some (ad (b + 1), .inl (cI, 7, .inl (T 0))) from hT.2 0 (by decide)) (by decide) (by omega)) ⟨(va_cnB 2 hts gX5_copyFrom_X7_copyRow_n55 rfl rfl rfl (hK.2.1 _ xg_nest_1) k1 (by decide +kernel) ⟨Nat.le_of_ble_eq_true rfl, Nat.le_of_ble_eq_true rfl⟩), k2, trivial⟩ (xg_preS hK hG) rfl rfl hl.1 rfl (lv_room (Nat.le_of_ble_eq_true rfl)) dX5_copyFrom_13 ⟨Nat.zero_le _, Nat.zero_le _⟩) hG (fun w2 H locs hr1 hG => ?_)
  obtain ⟨hvw2_0, hvw2_1, hsw2⟩ := hr1
  obtain ⟨T3, eT3⟩ : ∃ zz : Nat → Nat → Int32, va_up T 0 ((U 0)) = zz := ⟨_, rfl⟩
  have hT : xv_T cI ad w2 b T3 := by rw [← eT3]; exact hT.rowS 0 (by decide) hvw2_1 hsw2
  have hU : xv_T cI ad w2 b2 U := hU.of_S hsw2 (by omega)
  have hSw2 : xv_S ws w2 b 13 := hsw2.mono (by omega) (by omega)
  refine lv_aload_n hx hb dX5_copyFrom_16 rfl (lv_at hl 1 rfl) ?_
  refine xg_get (C := RX5) (T := TX5) (N := 13) S hK hG (fun w h => List.mem_cons_of_mem _ (List.mem_append_right _ (h))) b2 hU.1 rfl 1 (by decide) k3 (fun _ h9 => h9) rfl dX5_copyFrom_17 ?_
  refine lv_aload_n hx hb dX5_copyFrom_20 rfl (lv_at hl 0 rfl) ?_
  refine xg_get (C := RX5) (T := TX5) (N := 13) S hK hG (fun w h => List.mem_cons_of_mem _ (List.mem_append_right _ (h))) b hT.1 rfl 1 (by decide) k3 (fun _ h9 => h9) rfl dX5_copyFrom_21 ?_
  refine xg_mv (va_runSN (As := [.ref (ad (b2 + 2)), .ref (ad (b + 2))]) (rest := []) S (mX7_copyRow l D cI cZ bs ad w2 (b2 + 2) (b + 2) 6 (U 1) (show w2[b2 + 2]? = some (ad (b2 + 2), .inl (cI, 6, .inl (U 1))) from hU.2 1 (by decide)) (T3 1) (show w2[b + 2]? = some (ad (b + 2), .inl (cI, 6, .inl (T3 1))) from hT.2 1 (by decide)) (by decide) (by omega)) ⟨(va_cnB 2 hts gX5_copyFrom_X7_copyRow_n55 rfl rfl rfl (hK.2.1 _ xg_nest_1) k1 (by decide +kernel) ⟨Nat.le_of_ble_eq_true rfl, Nat.le_of_ble_eq_true rfl⟩), k2, trivial⟩ (xg_preS hK hG) rfl rfl hl.1 rfl (lv_room (Nat.le_of_ble_eq_true rfl)) dX5_copyFrom_24 ⟨Nat.zero_le _, Nat.zero_le _⟩) hG (fun w5 H locs hr4 hG => ?_)
  obtain ⟨hvw5_0, hvw5_1, hsw5⟩ := hr4
  obtain ⟨T6, eT6⟩ : ∃ zz : Nat → Nat → Int32, va_up T3 1 ((U 1)) = zz := ⟨_, rfl⟩
  have hT : xv_T cI ad w5 b T6 := by rw [← eT6]; exact hT.rowS 1 (by decide) hvw5_1 hsw5
  have hU : xv_T cI ad w5 b2 U := hU.of_S hsw5 (by omega)
  have hSw5 : xv_S ws w5 b 13 := hSw2.trans (hsw5.mono (by omega) (by omega))
  refine lv_aload_n hx hb dX5_copyFrom_27 rfl (lv_at hl 1 rfl) ?_
  refine xg_get (C := RX5) (T := TX5) (N := 13) S hK hG (fun w h => List.mem_cons_of_mem _ (List.mem_append_right _ (h))) b2 hU.1 rfl 2 (by decide) k4 (fun _ h9 => h9) rfl dX5_copyFrom_28 ?_
  refine lv_aload_n hx hb dX5_copyFrom_31 rfl (lv_at hl 0 rfl) ?_
  refine xg_get (C := RX5) (T := TX5) (N := 13) S hK hG (fun w h => List.mem_cons_of_mem _ (List.mem_append_right _ (h))) b hT.1 rfl 2 (by decide) k4 (fun _ h9 => h9) rfl dX5_copyFrom_32 ?_
  refine xg_mv (va_runSN (As := [.ref (ad (b2 + 3)), .ref (ad (b + 3))]) (rest := []) S (mX7_copyRow l D cI cZ bs ad w5 (b2 + 3) (b + 3) 6 (U 2) (show w5[b2 + 3]? = some (ad (b2 + 3), .inl (cI, 6, .inl (U 2))) from hU.2 2 (by decide)) (T6 2) (show w5[b + 3]? = some (ad (b + 3), .inl (cI, 6, .inl (T6 2))) from hT.2 2 (by decide)) (by decide) (by omega)) ⟨(va_cnB 2 hts gX5_copyFrom_X7_copyRow_n55 rfl rfl rfl (hK.2.1 _ xg_nest_1) k1 (by decide +kernel) ⟨Nat.le_of_ble_eq_true rfl, Nat.le_of_ble_eq_true rfl⟩), k2, trivial⟩ (xg_preS hK hG) rfl rfl hl.1 rfl (lv_room (Nat.le_of_ble_eq_true rfl)) dX5_copyFrom_35 ⟨Nat.zero_le _, Nat.zero_le _⟩) hG (fun w8 H locs hr7 hG => ?_)
  obtain ⟨hvw8_0, hvw8_1, hsw8⟩ := hr7
  obtain ⟨T9, eT9⟩ : ∃ zz : Nat → Nat → Int32, va_up T6 2 ((U 2)) = zz := ⟨_, rfl⟩
  have hT : xv_T cI ad w8 b T9 := by rw [← eT9]; exact hT.rowS 2 (by decide) hvw8_1 hsw8
  have hU : xv_T cI ad w8 b2 U := hU.of_S hsw8 (by omega)
  have hSw8 : xv_S ws w8 b 13 := hSw5.trans (hsw8.mono (by omega) (by omega))
  refine lv_aload_n hx hb dX5_copyFrom_38 rfl (lv_at hl 1 rfl) ?_
  refine xg_get (C := RX5) (T := TX5) (N := 13) S hK hG (fun w h => List.mem_cons_of_mem _ (List.mem_append_right _ (h))) b2 hU.1 rfl 3 (by decide) k5 (fun _ h9 => h9) rfl dX5_copyFrom_39 ?_
  refine lv_aload_n hx hb dX5_copyFrom_42 rfl (lv_at hl 0 rfl) ?_
  refine xg_get (C := RX5) (T := TX5) (N := 13) S hK hG (fun w h => List.mem_cons_of_mem _ (List.mem_append_right _ (h))) b hT.1 rfl 3 (by decide) k5 (fun _ h9 => h9) rfl dX5_copyFrom_43 ?_
  refine xg_mv (va_runSN (As := [.ref (ad (b2 + 4)), .ref (ad (b + 4))]) (rest := []) S (mX7_copyRow l D cI cZ bs ad w8 (b2 + 4) (b + 4) 6 (U 3) (show w8[b2 + 4]? = some (ad (b2 + 4), .inl (cI, 6, .inl (U 3))) from hU.2 3 (by decide)) (T9 3) (show w8[b + 4]? = some (ad (b + 4), .inl (cI, 6, .inl (T9 3))) from hT.2 3 (by decide)) (by decide) (by omega)) ⟨(va_cnB 2 hts gX5_copyFrom_X7_copyRow_n55 rfl rfl rfl (hK.2.1 _ xg_nest_1) k1 (by decide +kernel) ⟨Nat.le_of_ble_eq_true rfl, Nat.le_of_ble_eq_true rfl⟩), k2, trivial⟩ (xg_preS hK hG) rfl rfl hl.1 rfl (lv_room (Nat.le_of_ble_eq_true rfl)) dX5_copyFrom_46 ⟨Nat.zero_le _, Nat.zero_le _⟩) hG (fun w11 H locs hr10 hG => ?_)
  obtain ⟨hvw11_0, hvw11_1, hsw11⟩ := hr10
  obtain ⟨T12, eT12⟩ : ∃ zz : Nat → Nat → Int32, va_up T9 3 ((U 3)) = zz := ⟨_, rfl⟩
  have hT : xv_T cI ad w11 b T12 := by rw [← eT12]; exact hT.rowS 3 (by decide) hvw11_1 hsw11
  have hU : xv_T cI ad w11 b2 U := hU.of_S hsw11 (by omega)
  have hSw11 : xv_S ws w11 b 13 := hSw8.trans (hsw11.mono (by omega) (by omega))
  refine lv_aload_n hx hb dX5_copyFrom_49 rfl (lv_at hl 1 rfl) ?_
  refine xg_get (C := RX5) (T := TX5) (N := 13) S hK hG (fun w h => List.mem_cons_of_mem _ (List.mem_append_right _ (h))) b2 hU.1 rfl 4 (by decide) k6 (fun _ h9 => h9) rfl dX5_copyFrom_50 ?_
  refine lv_aload_n hx hb dX5_copyFrom_53 rfl (lv_at hl 0 rfl) ?_
  refine xg_get (C := RX5) (T := TX5) (N := 13) S hK hG (fun w h => List.mem_cons_of_mem _ (List.mem_append_right _ (h))) b hT.1 rfl 4 (by decide) k6 (fun _ h9 => h9) rfl dX5_copyFrom_54 ?_
  refine xg_mv (va_runSN (As := [.ref (ad (b2 + 5)), .ref (ad (b + 5))]) (rest := []) S (mX7_copyRow l D cI cZ bs ad w11 (b2 + 5) (b + 5) 6 (U 4) (show w11[b2 + 5]? = some (ad (b2 + 5), .inl (cI, 6, .inl (U 4))) from hU.2 4 (by decide)) (T12 4) (show w11[b + 5]? = some (ad (b + 5), .inl (cI, 6, .inl (T12 4))) from hT.2 4 (by decide)) (by decide) (by omega)) ⟨(va_cnB 2 hts gX5_copyFrom_X7_copyRow_n55 rfl rfl rfl (hK.2.1 _ xg_nest_1) k1 (by decide +kernel) ⟨Nat.le_of_ble_eq_true rfl, Nat.le_of_ble_eq_true rfl⟩), k2, trivial⟩ (xg_preS hK hG) rfl rfl hl.1 rfl (lv_room (Nat.le_of_ble_eq_true rfl)) dX5_copyFrom_57 ⟨Nat.zero_le _, Nat.zero_le _⟩) hG (fun w14 H locs hr13 hG => ?_)
  obtain ⟨hvw14_0, hvw14_1, hsw14⟩ := hr13
  obtain ⟨T15, eT15⟩ : ∃ zz : Nat → Nat → Int32, va_up T12 4 ((U 4)) = zz := ⟨_, rfl⟩
  have hT : xv_T cI ad w14 b T15 := by rw [← eT15]; exact hT.rowS 4 (by decide) hvw14_1 hsw14
  have hU : xv_T cI ad w14 b2 U := hU.of_S hsw14 (by omega)
  have hSw14 : xv_S ws w14 b 13 := hSw11.trans (hsw14.mono (by omega) (by omega))
  refine lv_aload_n hx hb dX5_copyFrom_60 rfl (lv_at hl 1 rfl) ?_
  refine xg_get (C := RX5) (T := TX5) (N := 13) S hK hG (fun w h => List.mem_cons_of_mem _ (List.mem_append_right _ (h))) b2 hU.1 rfl 5 (by decide) k7 (fun _ h9 => h9) rfl dX5_copyFrom_61 ?_
  refine lv_aload_n hx hb dX5_copyFrom_64 rfl (lv_at hl 0 rfl) ?_
  refine xg_get (C := RX5) (T := TX5) (N := 13) S hK hG (fun w h => List.mem_cons_of_mem _ (List.mem_append_right _ (h))) b hT.1 rfl 5 (by decide) k7 (fun _ h9 => h9) rfl dX5_copyFrom_65 ?_
  refine xg_mv (va_runSN (As := [.ref (ad (b2 + 6)), .ref (ad (b + 6))]) (rest := []) S (mX7_copyRow l D cI cZ bs ad w14 (b2 + 6) (b + 6) 6 (U 5) (show w14[b2 + 6]? = some (ad (b2 + 6), .inl (cI, 6, .inl (U 5))) from hU.2 5 (by decide)) (T15 5) (show w14[b + 6]? = some (ad (b + 6), .inl (cI, 6, .inl (T15 5))) from hT.2 5 (by decide)) (by decide) (by omega)) ⟨(va_cnB 2 hts gX5_copyFrom_X7_copyRow_n55 rfl rfl rfl (hK.2.1 _ xg_nest_1) k1 (by decide +kernel) ⟨Nat.le_of_ble_eq_true rfl, Nat.le_of_ble_eq_true rfl⟩), k2, trivial⟩ (xg_preS hK hG) rfl rfl hl.1 rfl (lv_room (Nat.le_of_ble_eq_true rfl)) dX5_copyFrom_68 ⟨Nat.zero_le _, Nat.zero_le _⟩) hG (fun w17 H locs hr16 hG => ?_)
  obtain ⟨hvw17_0, hvw17_1, hsw17⟩ := hr16
  obtain ⟨T18, eT18⟩ : ∃ zz : Nat → Nat → Int32, va_up T15 5 ((U 5)) = zz := ⟨_, rfl⟩
  have hT : xv_T cI ad w17 b T18 := by rw [← eT18]; exact hT.rowS 5 (by decide) hvw17_1 hsw17
  have hU : xv_T cI ad w17 b2 U := hU.of_S hsw17 (by omega)
  have hSw17 : xv_S ws w17 b 13 := hSw14.trans (hsw17.mono (by omega) (by omega))
  refine lv_aload_n hx hb dX5_copyFrom_71 rfl (lv_at hl 1 rfl) ?_
  refine xg_get (C := RX5) (T := TX5) (N := 13) S hK hG (fun w h => List.mem_cons_of_mem _ (List.mem_append_right _ (h))) b2 hU.1 rfl 6 (by decide) k8 (fun _ h9 => h9) rfl dX5_copyFrom_72 ?_
  refine lv_aload_n hx hb dX5_copyFrom_75 rfl (lv_at hl 0 rfl) ?_
  refine xg_get (C := RX5) (T := TX5) (N := 13) S hK hG (fun w h => List.mem_cons_of_mem _ (List.mem_append_right _ (h))) b hT.1 rfl 6 (by decide) k8 (fun _ h9 => h9) rfl dX5_copyFrom_76 ?_
  refine xg_mv (va_runSN (As := [.ref (ad (b2 + 7)), .ref (ad (b + 7))]) (rest := []) S (mX7_copyRow l D cI cZ bs ad w17 (b2 + 7) (b + 7) 6 (U 6) (show w17[b2 + 7]? = some (ad (b2 + 7), .inl (cI, 6, .inl (U 6))) from hU.2 6 (by decide)) (T18 6) (show w17[b + 7]? = some (ad (b + 7), .inl (cI, 6, .inl (T18 6))) from hT.2 6 (by decide)) (by decide) (by omega)) ⟨(va_cnB 2 hts gX5_copyFrom_X7_copyRow_n55 rfl rfl rfl (hK.2.1 _ xg_nest_1) k1 (by decide +kernel) ⟨Nat.le_of_ble_eq_true rfl, Nat.le_of_ble_eq_true rfl⟩), k2, trivial⟩ (xg_preS hK hG) rfl rfl hl.1 rfl (lv_room (Nat.le_of_ble_eq_true rfl)) dX5_copyFrom_79 ⟨Nat.zero_le _, Nat.zero_le _⟩) hG (fun w20 H locs hr19 hG => ?_)
  obtain ⟨hvw20_0, hvw20_1, hsw20⟩ := hr19
  obtain ⟨T21, eT21⟩ : ∃ zz : Nat → Nat → Int32, va_up T18 6 ((U 6)) = zz := ⟨_, rfl⟩
  have hT : xv_T cI ad w20 b T21 := by rw [← eT21]; exact hT.rowS 6 (by decide) hvw20_1 hsw20
  have hU : xv_T cI ad w20 b2 U := hU.of_S hsw20 (by omega)
  have hSw20 : xv_S ws w20 b 13 := hSw17.trans (hsw20.mono (by omega) (by omega))
  refine lv_aload_n hx hb dX5_copyFrom_82 rfl (lv_at hl 1 rfl) ?_
  refine xg_get (C := RX5) (T := TX5) (N := 13) S hK hG (fun w h => List.mem_cons_of_mem _ (List.mem_append_right _ (h))) b2 hU.1 rfl 7 (by decide) k9 (fun _ h9 => h9) rfl dX5_copyFrom_83 ?_
  refine lv_aload_n hx hb dX5_copyFrom_86 rfl (lv_at hl 0 rfl) ?_
  refine xg_get (C := RX5) (T := TX5) (N := 13) S hK hG (fun w h => List.mem_cons_of_mem _ (List.mem_append_right _ (h))) b hT.1 rfl 7 (by decide) k9 (fun _ h9 => h9) rfl dX5_copyFrom_87 ?_
  refine xg_mv (va_runSN (As := [.ref (ad (b2 + 8)), .ref (ad (b + 8))]) (rest := []) S (mX7_copyRow l D cI cZ bs ad w20 (b2 + 8) (b + 8) 6 (U 7) (show w20[b2 + 8]? = some (ad (b2 + 8), .inl (cI, 6, .inl (U 7))) from hU.2 7 (by decide)) (T21 7) (show w20[b + 8]? = some (ad (b + 8), .inl (cI, 6, .inl (T21 7))) from hT.2 7 (by decide)) (by decide) (by omega)) ⟨(va_cnB 2 hts gX5_copyFrom_X7_copyRow_n55 rfl rfl rfl (hK.2.1 _ xg_nest_1) k1 (by decide +kernel) ⟨Nat.le_of_ble_eq_true rfl, Nat.le_of_ble_eq_true rfl⟩), k2, trivial⟩ (xg_preS hK hG) rfl rfl hl.1 rfl (lv_room (Nat.le_of_ble_eq_true rfl)) dX5_copyFrom_90 ⟨Nat.zero_le _, Nat.zero_le _⟩) hG (fun w23 H locs hr22 hG => ?_)
  obtain ⟨hvw23_0, hvw23_1, hsw23⟩ := hr22
  obtain ⟨T24, eT24⟩ : ∃ zz : Nat → Nat → Int32, va_up T21 7 ((U 7)) = zz := ⟨_, rfl⟩
  have hT : xv_T cI ad w23 b T24 := by rw [← eT24]; exact hT.rowS 7 (by decide) hvw23_1 hsw23
  have hU : xv_T cI ad w23 b2 U := hU.of_S hsw23 (by omega)
  have hSw23 : xv_S ws w23 b 13 := hSw20.trans (hsw23.mono (by omega) (by omega))
  refine lv_aload_n hx hb dX5_copyFrom_93 rfl (lv_at hl 1 rfl) ?_
  refine xg_get (C := RX5) (T := TX5) (N := 13) S hK hG (fun w h => List.mem_cons_of_mem _ (List.mem_append_right _ (h))) b2 hU.1 rfl 8 (by decide) k10 (fun _ h9 => h9) rfl dX5_copyFrom_94 ?_
  refine lv_aload_n hx hb dX5_copyFrom_97 rfl (lv_at hl 0 rfl) ?_
  refine xg_get (C := RX5) (T := TX5) (N := 13) S hK hG (fun w h => List.mem_cons_of_mem _ (List.mem_append_right _ (h))) b hT.1 rfl 8 (by decide) k10 (fun _ h9 => h9) rfl dX5_copyFrom_98 ?_
  refine xg_mv (va_runSN (As := [.ref (ad (b2 + 9)), .ref (ad (b + 9))]) (rest := []) S (mX7_copyRow l D cI cZ bs ad w23 (b2 + 9) (b + 9) 6 (U 8) (show w23[b2 + 9]? = some (ad (b2 + 9), .inl (cI, 6, .inl (U 8))) from hU.2 8 (by decide)) (T24 8) (show w23[b + 9]? = some (ad (b + 9), .inl (cI, 6, .inl (T24 8))) from hT.2 8 (by decide)) (by decide) (by omega)) ⟨(va_cnB 2 hts gX5_copyFrom_X7_copyRow_n55 rfl rfl rfl (hK.2.1 _ xg_nest_1) k1 (by decide +kernel) ⟨Nat.le_of_ble_eq_true rfl, Nat.le_of_ble_eq_true rfl⟩), k2, trivial⟩ (xg_preS hK hG) rfl rfl hl.1 rfl (lv_room (Nat.le_of_ble_eq_true rfl)) dX5_copyFrom_101 ⟨Nat.zero_le _, Nat.zero_le _⟩) hG (fun w26 H locs hr25 hG => ?_)
  obtain ⟨hvw26_0, hvw26_1, hsw26⟩ := hr25
  obtain ⟨T27, eT27⟩ : ∃ zz : Nat → Nat → Int32, va_up T24 8 ((U 8)) = zz := ⟨_, rfl⟩
  have hT : xv_T cI ad w26 b T27 := by rw [← eT27]; exact hT.rowS 8 (by decide) hvw26_1 hsw26
  have hU : xv_T cI ad w26 b2 U := hU.of_S hsw26 (by omega)
  have hSw26 : xv_S ws w26 b 13 := hSw23.trans (hsw26.mono (by omega) (by omega))
  refine lv_aload_n hx hb dX5_copyFrom_104 rfl (lv_at hl 1 rfl) ?_
  refine xg_get (C := RX5) (T := TX5) (N := 13) S hK hG (fun w h => List.mem_cons_of_mem _ (List.mem_append_right _ (h))) b2 hU.1 rfl 9 (by decide) k11 (fun _ h9 => h9) rfl dX5_copyFrom_105 ?_
  refine lv_aload_n hx hb dX5_copyFrom_108 rfl (lv_at hl 0 rfl) ?_
  refine xg_get (C := RX5) (T := TX5) (N := 13) S hK hG (fun w h => List.mem_cons_of_mem _ (List.mem_append_right _ (h))) b hT.1 rfl 9 (by decide) k11 (fun _ h9 => h9) rfl dX5_copyFrom_109 ?_
  refine xg_mv (va_runSN (As := [.ref (ad (b2 + 10)), .ref (ad (b + 10))]) (rest := []) S (mX7_copyRow l D cI cZ bs ad w26 (b2 + 10) (b + 10) 6 (U 9) (show w26[b2 + 10]? = some (ad (b2 + 10), .inl (cI, 6, .inl (U 9))) from hU.2 9 (by decide)) (T27 9) (show w26[b + 10]? = some (ad (b + 10), .inl (cI, 6, .inl (T27 9))) from hT.2 9 (by decide)) (by decide) (by omega)) ⟨(va_cnB 2 hts gX5_copyFrom_X7_copyRow_n55 rfl rfl rfl (hK.2.1 _ xg_nest_1) k1 (by decide +kernel) ⟨Nat.le_of_ble_eq_true rfl, Nat.le_of_ble_eq_true rfl⟩), k2, trivial⟩ (xg_preS hK hG) rfl rfl hl.1 rfl (lv_room (Nat.le_of_ble_eq_true rfl)) dX5_copyFrom_112 ⟨Nat.zero_le _, Nat.zero_le _⟩) hG (fun w29 H locs hr28 hG => ?_)
  obtain ⟨hvw29_0, hvw29_1, hsw29⟩ := hr28
  obtain ⟨T30, eT30⟩ : ∃ zz : Nat → Nat → Int32, va_up T27 9 ((U 9)) = zz := ⟨_, rfl⟩
  have hT : xv_T cI ad w29 b T30 := by rw [← eT30]; exact hT.rowS 9 (by decide) hvw29_1 hsw29
  have hU : xv_T cI ad w29 b2 U := hU.of_S hsw29 (by omega)
  have hSw29 : xv_S ws w29 b 13 := hSw26.trans (hsw29.mono (by omega) (by omega))
  refine lv_aload_n hx hb dX5_copyFrom_115 rfl (lv_at hl 1 rfl) ?_
  refine xg_get (C := RX5) (T := TX5) (N := 13) S hK hG (fun w h => List.mem_cons_of_mem _ (List.mem_append_right _ (h))) b2 hU.1 rfl 10 (by decide) k12 (fun _ h9 => h9) rfl dX5_copyFrom_116 ?_
  refine lv_aload_n hx hb dX5_copyFrom_119 rfl (lv_at hl 0 rfl) ?_
  refine xg_get (C := RX5) (T := TX5) (N := 13) S hK hG (fun w h => List.mem_cons_of_mem _ (List.mem_append_right _ (h))) b hT.1 rfl 10 (by decide) k12 (fun _ h9 => h9) rfl dX5_copyFrom_120 ?_
  refine xg_mv (va_runSN (As := [.ref (ad (b2 + 11)), .ref (ad (b + 11))]) (rest := []) S (mX7_copyRow l D cI cZ bs ad w29 (b2 + 11) (b + 11) 6 (U 10) (show w29[b2 + 11]? = some (ad (b2 + 11), .inl (cI, 6, .inl (U 10))) from hU.2 10 (by decide)) (T30 10) (show w29[b + 11]? = some (ad (b + 11), .inl (cI, 6, .inl (T30 10))) from hT.2 10 (by decide)) (by decide) (by omega)) ⟨(va_cnB 2 hts gX5_copyFrom_X7_copyRow_n55 rfl rfl rfl (hK.2.1 _ xg_nest_1) k1 (by decide +kernel) ⟨Nat.le_of_ble_eq_true rfl, Nat.le_of_ble_eq_true rfl⟩), k2, trivial⟩ (xg_preS hK hG) rfl rfl hl.1 rfl (lv_room (Nat.le_of_ble_eq_true rfl)) dX5_copyFrom_123 ⟨Nat.zero_le _, Nat.zero_le _⟩) hG (fun w32 H locs hr31 hG => ?_)
  obtain ⟨hvw32_0, hvw32_1, hsw32⟩ := hr31
  obtain ⟨T33, eT33⟩ : ∃ zz : Nat → Nat → Int32, va_up T30 10 ((U 10)) = zz := ⟨_, rfl⟩
  have hT : xv_T cI ad w32 b T33 := by rw [← eT33]; exact hT.rowS 10 (by decide) hvw32_1 hsw32
  have hU : xv_T cI ad w32 b2 U := hU.of_S hsw32 (by omega)
  have hSw32 : xv_S ws w32 b 13 := hSw29.trans (hsw32.mono (by omega) (by omega))
  refine lv_aload_n hx hb dX5_copyFrom_126 rfl (lv_at hl 1 rfl) ?_
  refine xg_get (C := RX5) (T := TX5) (N := 13) S hK hG (fun w h => List.mem_cons_of_mem _ (List.mem_append_right _ (h))) b2 hU.1 rfl 11 (by decide) k13 (fun _ h9 => h9) rfl dX5_copyFrom_127 ?_
  refine lv_aload_n hx hb dX5_copyFrom_130 rfl (lv_at hl 0 rfl) ?_
  refine xg_get (C := RX5) (T := TX5) (N := 13) S hK hG (fun w h => List.mem_cons_of_mem _ (List.mem_append_right _ (h))) b hT.1 rfl 11 (by decide) k13 (fun _ h9 => h9) rfl dX5_copyFrom_131 ?_
  refine xg_mv (va_runSN (As := [.ref (ad (b2 + 12)), .ref (ad (b + 12))]) (rest := []) S (mX7_copyRow l D cI cZ bs ad w32 (b2 + 12) (b + 12) 6 (U 11) (show w32[b2 + 12]? = some (ad (b2 + 12), .inl (cI, 6, .inl (U 11))) from hU.2 11 (by decide)) (T33 11) (show w32[b + 12]? = some (ad (b + 12), .inl (cI, 6, .inl (T33 11))) from hT.2 11 (by decide)) (by decide) (by omega)) ⟨(va_cnB 2 hts gX5_copyFrom_X7_copyRow_n55 rfl rfl rfl (hK.2.1 _ xg_nest_1) k1 (by decide +kernel) ⟨Nat.le_of_ble_eq_true rfl, Nat.le_of_ble_eq_true rfl⟩), k2, trivial⟩ (xg_preS hK hG) rfl rfl hl.1 rfl (lv_room (Nat.le_of_ble_eq_true rfl)) dX5_copyFrom_134 ⟨Nat.zero_le _, Nat.zero_le _⟩) hG (fun w35 H locs hr34 hG => ?_)
  obtain ⟨hvw35_0, hvw35_1, hsw35⟩ := hr34
  obtain ⟨T36, eT36⟩ : ∃ zz : Nat → Nat → Int32, va_up T33 11 ((U 11)) = zz := ⟨_, rfl⟩
  have hT : xv_T cI ad w35 b T36 := by rw [← eT36]; exact hT.rowS 11 (by decide) hvw35_1 hsw35
  have hU : xv_T cI ad w35 b2 U := hU.of_S hsw35 (by omega)
  have hSw35 : xv_S ws w35 b 13 := hSw32.trans (hsw35.mono (by omega) (by omega))
  refine lv_aload_n hx hb dX5_copyFrom_137 rfl (lv_at hl 0 rfl) ?_
  refine lv_aload_n hx hb dX5_copyFrom_138 rfl (lv_at hl 1 rfl) ?_
  refine xg_get (C := RX5) (T := TX5) (N := 13) S hK hG (fun w h => List.mem_cons_of_mem _ (List.mem_append_right _ (h))) b2 hU.1 rfl 12 (by decide) k14 (fun _ h9 => h9) rfl dX5_copyFrom_139 ?_
  refine xg_put2 (C := RX5) (T := TX5) (N := 13) (v := .int (U 12 0)) (ty := .int) S hK hG (fun w h => List.mem_cons_of_mem _ (List.mem_append_right _ (h))) tyX5 tyX5_ok nmX5 b hT.1 rfl 12 (by decide) k14 (fun _ h9 => h9) rfl (by decide +kernel) rfl rfl (Nat.le_of_ble_eq_true rfl) dX5_copyFrom_142 (fun w37 H locs hw37 hG => ?_)
  have hs38 : xv_S w35 w37 b 1 := by rw [hw37]; exact xv_S.set (by omega) (by omega)
  obtain ⟨T39, eT39⟩ : ∃ zz : Nat → Nat → Int32, va_up T36 12 (fun _ => U 12 0) = zz := ⟨_, rfl⟩
  have hT : xv_T cI ad w37 b T39 := by rw [hw37, ← eT39]; exact hT.sights
  have hU : xv_T cI ad w37 b2 U := hU.of_S hs38 (by omega)
  have hSw37 : xv_S ws w37 b 13 := hSw35.trans (hs38.mono (by omega) (by omega))
  have hT : xv_T cI ad w37 b U := hT.cong (fun j hj => by
      subst eT3 eT6 eT9 eT12 eT15 eT18 eT21 eT24 eT27 eT30 eT33 eT36 eT39
      have hj : j = 0 ∨ j = 1 ∨ j = 2 ∨ j = 3 ∨ j = 4 ∨ j = 5 ∨ j = 6 ∨ j = 7 ∨ j = 8 ∨ j = 9 ∨ j = 10 ∨ j = 11 := by omega
      rcases hj with rfl | rfl | rfl | rfl | rfl | rfl | rfl | rfl | rfl | rfl | rfl | rfl <;> simp [va_up_self, va_up_ne]) (by subst eT3 eT6 eT9 eT12 eT15 eT18 eT21 eT24 eT27 eT30 eT33 eT36 eT39; simp [va_up_self])
  rw [hQ]
  exact xg_emv S hr hlk hK hG ⟨hT, hU, hSw37⟩ dX5_copyFrom_145
