/-! the law: what stands between two calls -/
def xj_Sm (cI : ClassId) (ad : Nat → Nat) (w : va_W) (b : Nat) : Prop := ∃ (ev wh dn rf db he : Int32) (TA : Nat → Nat → Int32) (f : Nat → Int32) (u v : Int64), w[b + 42]? = some (ad (b + 42), .inr (4, [.ref (ad (b + 43)), .ref (ad (b + 56)), .ref (ad (b + 57)), .int ev, .int wh, .int dn, .int rf, .int db, .int he])) ∧ xv_T cI ad w (b + 43) TA ∧ w[b + 56]? = some (ad (b + 56), .inl (cI, 36, .inl f)) ∧ w[b + 57]? = some (ad (b + 57), .inr (0, [.long u, .long v]))
def xj_Cl (ad : Nat → Nat) (w : va_W) (b : Nat) : Prop := ∃ (dn la re : Int32) (u v : Int64), w[b + 58]? = some (ad (b + 58), .inr (1, [.ref (ad (b + 59)), .int dn, .int la, .int re])) ∧ w[b + 59]? = some (ad (b + 59), .inr (0, [.long u, .long v]))
def xj_Ga (ad : Nat → Nat) (w : va_W) (b : Nat) : Prop := ∃ (ch td tr : Int32), w[b + 60]? = some (ad (b + 60), .inr (2, [.int ch, .int td, .int tr]))
def xj_Ye (cI : ClassId) (ad : Nat → Nat) (w : va_W) (b : Nat) : Prop := ∃ (dn rf hu : Int32) (TY : Nat → Nat → Int32), w[b + 61]? = some (ad (b + 61), .inr (6, [.ref (ad (b + 62)), .int dn, .int rf, .int hu])) ∧ xv_T cI ad w (b + 62) TY
theorem xj_Sm.of_S {cI : ClassId} {ad : Nat → Nat} {w w' : va_W} {b lo n : Nat} (h : xj_Sm cI ad w b) (hS : xv_S w w' lo n) (hd : b + 58 ≤ lo ∨ lo + n ≤ b + 42) : xj_Sm cI ad w' b := by
  obtain ⟨ev, wh, dn, rf, db, he, TA, f, u, v, h1, h2, h3, h4⟩ := h
  exact ⟨ev, wh, dn, rf, db, he, TA, f, u, v, hS.at h1 (by omega), h2.of_S hS (by omega), hS.at h3 (by omega), hS.at h4 (by omega)⟩
theorem xj_Cl.of_S {ad : Nat → Nat} {w w' : va_W} {b lo n : Nat} (h : xj_Cl ad w b) (hS : xv_S w w' lo n) (hd : b + 60 ≤ lo ∨ lo + n ≤ b + 58) : xj_Cl ad w' b := by
  obtain ⟨dn, la, re, u, v, h1, h2⟩ := h
  exact ⟨dn, la, re, u, v, hS.at h1 (by omega), hS.at h2 (by omega)⟩
theorem xj_Ga.of_S {ad : Nat → Nat} {w w' : va_W} {b lo n : Nat} (h : xj_Ga ad w b) (hS : xv_S w w' lo n) (hd : b + 61 ≤ lo ∨ lo + n ≤ b + 60) : xj_Ga ad w' b := by
  obtain ⟨ch, td, tr, h1⟩ := h
  exact ⟨ch, td, tr, hS.at h1 (by omega)⟩
theorem xj_Ye.of_S {cI : ClassId} {ad : Nat → Nat} {w w' : va_W} {b lo n : Nat} (h : xj_Ye cI ad w b) (hS : xv_S w w' lo n) (hd : b + 75 ≤ lo ∨ lo + n ≤ b + 61) : xj_Ye cI ad w' b := by
  obtain ⟨dn, rf, hu, TY, h1, h2⟩ := h
  exact ⟨dn, rf, hu, TY, hS.at h1 (by omega), h2.of_S hS (by omega)⟩
/-- the class's cells from b on, the reference's behind them -/
def xj (cI cZ : ClassId) (ad : Nat → Nat) (w : va_W) (b : Nat) (fk sk n : Int32) (T TF TS : Nat → Nat → Int32) (g : Nat → Int32) (A : Nat → Nat → Int32) (I : Nat → Int32) (L : Int64) : Prop :=
  w[b]? = some (ad b, .inr (7, [.ref (ad (b + 1)), .ref (ad (b + 14)), .ref (ad (b + 27)), .int fk, .int sk, .ref (ad (b + 40)), .ref (ad (b + 42)), .ref (ad (b + 58)), .ref (ad (b + 60)), .ref (ad (b + 61))])) ∧ xv_T cI ad w (b + 1) T ∧ xv_T cI ad w (b + 14) TF ∧ xv_T cI ad w (b + 27) TS ∧ w[b + 40]? = some (ad (b + 40), .inr (3, [.ref (ad (b + 41)), .int n])) ∧ w[b + 41]? = some (ad (b + 41), .inl (cI, 60, .inl g)) ∧ xj_Sm cI ad w b ∧ xj_Cl ad w b ∧ xj_Ga ad w b ∧ xj_Ye cI ad w b ∧ xv_M cI cZ ad w (b + 75) A I L
def lj (cI cZ : ClassId) (ad : Nat → Nat) (b B : Nat) (w : va_W) : Prop := ∃ (fk sk : Int32) (nn : Nat) (T TF TS : Nat → Nat → Int32) (g : Nat → Int32) (A : Nat → Nat → Int32) (I : Nat → Int32) (L : Int64), xj cI cZ ad w b fk sk (nI nn) T TF TS g A I L ∧ eq_All B nn T TF TS g fk sk A I
section XJ
variable {cI cZ : ClassId} {ad : Nat → Nat} {ws w : va_W} {b : Nat} {fk sk n : Int32} {T TF TS : Nat → Nat → Int32} {g : Nat → Int32} {A : Nat → Nat → Int32} {I : Nat → Int32} {L : Int64}
theorem xj.M (h : xj cI cZ ad ws b fk sk n T TF TS g A I L) {A' : Nat → Nat → Int32} {I' : Nat → Int32} {L' : Int64} (hM : xv_M cI cZ ad w (b + 75) A' I' L') (hS : xv_S ws w (b + 75) 24) : xj cI cZ ad w b fk sk n T TF TS g A' I' L' := by
  obtain ⟨h1, h2, h3, h4, h5, h6, h7, h8, h9, h10, -⟩ := h
  exact ⟨hS.at h1 (by omega), h2.of_S hS (by omega), h3.of_S hS (by omega), h4.of_S hS (by omega), hS.at h5 (by omega), hS.at h6 (by omega), h7.of_S hS (by omega), h8.of_S hS (by omega), h9.of_S hS (by omega), h10.of_S hS (by omega), hM⟩
theorem xj.now (h : xj cI cZ ad ws b fk sk n T TF TS g A I L) {T' : Nat → Nat → Int32} (hT : xv_T cI ad w (b + 1) T') (hS : xv_S ws w (b + 1) 13) : xj cI cZ ad w b fk sk n T' TF TS g A I L := by
  obtain ⟨h1, -, h3, h4, h5, h6, h7, h8, h9, h10, h11⟩ := h
  exact ⟨hS.at h1 (by omega), hT, h3.of_S hS (by omega), h4.of_S hS (by omega), hS.at h5 (by omega), hS.at h6 (by omega), h7.of_S hS (by omega), h8.of_S hS (by omega), h9.of_S hS (by omega), h10.of_S hS (by omega), h11.of_S hS (by omega)⟩
theorem xj.pad (h : xj cI cZ ad ws b fk sk n T TF TS g A I L) {n' : Int32} {g' : Nat → Int32} (hPo : w[b + 40]? = some (ad (b + 40), .inr (3, [.ref (ad (b + 41)), .int n']))) (hP : w[b + 41]? = some (ad (b + 41), .inl (cI, 60, .inl g'))) (hS : xv_S ws w (b + 40) 2) : xj cI cZ ad w b fk sk n' T TF TS g' A I L := by
  obtain ⟨h1, h2, h3, h4, -, -, h7, h8, h9, h10, h11⟩ := h
  exact ⟨hS.at h1 (by omega), h2.of_S hS (by omega), h3.of_S hS (by omega), h4.of_S hS (by omega), hPo, hP, h7.of_S hS (by omega), h8.of_S hS (by omega), h9.of_S hS (by omega), h10.of_S hS (by omega), h11.of_S hS (by omega)⟩
theorem xj.sum (h : xj cI cZ ad ws b fk sk n T TF TS g A I L) (hSm : xj_Sm cI ad w b) (hS : xv_S ws w (b + 42) 16) : xj cI cZ ad w b fk sk n T TF TS g A I L := by
  obtain ⟨h1, h2, h3, h4, h5, h6, -, h8, h9, h10, h11⟩ := h
  exact ⟨hS.at h1 (by omega), h2.of_S hS (by omega), h3.of_S hS (by omega), h4.of_S hS (by omega), hS.at h5 (by omega), hS.at h6 (by omega), hSm, h8.of_S hS (by omega), h9.of_S hS (by omega), h10.of_S hS (by omega), h11.of_S hS (by omega)⟩
theorem xj.cl (h : xj cI cZ ad ws b fk sk n T TF TS g A I L) (hC : xj_Cl ad w b) (hS : xv_S ws w (b + 58) 2) : xj cI cZ ad w b fk sk n T TF TS g A I L := by
  obtain ⟨h1, h2, h3, h4, h5, h6, h7, -, h9, h10, h11⟩ := h
  exact ⟨hS.at h1 (by omega), h2.of_S hS (by omega), h3.of_S hS (by omega), h4.of_S hS (by omega), hS.at h5 (by omega), hS.at h6 (by omega), h7.of_S hS (by omega), hC, h9.of_S hS (by omega), h10.of_S hS (by omega), h11.of_S hS (by omega)⟩
theorem xj.ga (h : xj cI cZ ad ws b fk sk n T TF TS g A I L) (hC : xj_Ga ad w b) (hS : xv_S ws w (b + 60) 1) : xj cI cZ ad w b fk sk n T TF TS g A I L := by
  obtain ⟨h1, h2, h3, h4, h5, h6, h7, h8, -, h10, h11⟩ := h
  exact ⟨hS.at h1 (by omega), h2.of_S hS (by omega), h3.of_S hS (by omega), h4.of_S hS (by omega), hS.at h5 (by omega), hS.at h6 (by omega), h7.of_S hS (by omega), h8.of_S hS (by omega), hC, h10.of_S hS (by omega), h11.of_S hS (by omega)⟩
theorem xj.ye (h : xj cI cZ ad ws b fk sk n T TF TS g A I L) (hC : xj_Ye cI ad w b) (hS : xv_S ws w (b + 61) 14) : xj cI cZ ad w b fk sk n T TF TS g A I L := by
  obtain ⟨h1, h2, h3, h4, h5, h6, h7, h8, h9, -, h11⟩ := h
  exact ⟨hS.at h1 (by omega), h2.of_S hS (by omega), h3.of_S hS (by omega), h4.of_S hS (by omega), hS.at h5 (by omega), hS.at h6 (by omega), h7.of_S hS (by omega), h8.of_S hS (by omega), h9.of_S hS (by omega), hC, h11.of_S hS (by omega)⟩
theorem xj.img (h : xj cI cZ ad ws b fk sk n T TF TS g A I L) {fk' sk' : Int32} {T' TF' TS' : Nat → Nat → Int32} (hO : w[b]? = some (ad b, .inr (7, [.ref (ad (b + 1)), .ref (ad (b + 14)), .ref (ad (b + 27)), .int fk', .int sk', .ref (ad (b + 40)), .ref (ad (b + 42)), .ref (ad (b + 58)), .ref (ad (b + 60)), .ref (ad (b + 61))]))) (hT : xv_T cI ad w (b + 1) T') (hF : xv_T cI ad w (b + 14) TF') (hSd : xv_T cI ad w (b + 27) TS') (hS : xv_S ws w b 40) : xj cI cZ ad w b fk' sk' n T' TF' TS' g A I L := by
  obtain ⟨-, -, -, -, h5, h6, h7, h8, h9, h10, h11⟩ := h
  exact ⟨hO, hT, hF, hSd, hS.at h5 (by omega), hS.at h6 (by omega), h7.of_S hS (by omega), h8.of_S hS (by omega), h9.of_S hS (by omega), h10.of_S hS (by omega), h11.of_S hS (by omega)⟩
theorem xj.don (h : xj cI cZ ad ws b fk sk n T TF TS g A I L) {n' : Int32} {T' : Nat → Nat → Int32} {g' : Nat → Int32} (hT : xv_T cI ad w (b + 1) T') (hF : xv_T cI ad w (b + 14) TF) (hSd : xv_T cI ad w (b + 27) TS) (hPo : w[b + 40]? = some (ad (b + 40), .inr (3, [.ref (ad (b + 41)), .int n']))) (hP : w[b + 41]? = some (ad (b + 41), .inl (cI, 60, .inl g'))) (hSm : xj_Sm cI ad w b) (hS : xv_S ws w (b + 1) 57) : xj cI cZ ad w b fk sk n' T' TF TS g' A I L := by
  obtain ⟨h1, -, -, -, -, -, -, h8, h9, h10, h11⟩ := h
  exact ⟨hS.at h1 (by omega), hT, hF, hSd, hPo, hP, hSm, h8.of_S hS (by omega), h9.of_S hS (by omega), h10.of_S hS (by omega), h11.of_S hS (by omega)⟩
end XJ
/-- what holds all along the law's walk -/
def lq (s : State) (m : MethodId) (meth : Method) (p : Program) (c : Code) (sb N : Nat) (xs : Nat → Int32) (D : va_G) (cI cZ : ClassId) : Prop :=
  CallFix p m c code 4 s #[Value.ref sb] wsL_law RL ∧ meth.sig.returnType = ret ∧ meth.locks = false ∧ xg_K D cI cZ s.heap.size s ∧ va_X sb N xs s s.heap ∧ sb < s.heap.size
section LQ
variable {p : Program} {l : Launch} {e : Env} {s : State} {m : MethodId} {below : List Frame} {meth : Method} {c : Code} {H : Heap} {locs : List Loc} {cells slots : Nat} {Q : State → Prop}
variable {pc : Nat} {ls : Array Slot} {rest : List Value} {sb N : Nat} {xs : Nat → Int32} {D : va_G} {cI cZ : ClassId} {ws : va_W}
theorem lq_ld (C : lq s m meth p c sb N xs D cI cZ) (hG : xg_H D s.heap.size ws s.heap H locs) {i a : Int32} (hin : vp_in i N) (ha : xs i.toNatClampNeg = a) (hdg : decode code pc = .ok (.iaload, 1)) (kk : W p l e room_1 s m #[Value.ref sb] below meth c H locs cells slots Q (F0 m (pc + 1) ls (.int a :: rest))) : W p l e room_1 s m #[Value.ref sb] below meth c H locs cells slots Q (F0 m pc ls (.int i :: .ref sb :: rest)) := by
  subst ha
  exact va_sld C.1.1 C.1.2.1 C.2.2.2.2.1 C.2.2.2.2.2 (Nat.not_le.mpr C.2.2.2.2.2) hG.2.2 hin hdg kk
theorem lq_len (C : lq s m meth p c sb N xs D cI cZ) (hG : xg_H D s.heap.size ws s.heap H locs) (hdg : decode code pc = .ok (.arraylength, 1)) (kk : W p l e room_1 s m #[Value.ref sb] below meth c H locs cells slots Q (F0 m (pc + 1) ls (.int (nI N) :: rest))) : W p l e room_1 s m #[Value.ref sb] below meth c H locs cells slots Q (F0 m pc ls (.ref sb :: rest)) :=
  va_slen C.1.1 C.1.2.1 C.2.2.2.2.1 C.2.2.2.2.2 (Nat.not_le.mpr C.2.2.2.2.2) hG.2.2 hdg kk
end LQ
