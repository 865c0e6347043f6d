/-! my base: the tables and statics that every method may use; worlds as lists of cells; calls over the whole world -/
def xg_nest : List Cond := [.fieldLinkNest "DareBridge$Town" 52 "DareBridge" "RULE_FIRST" "[I" "DareBridge", .methodLinkNest "DareBridge$Town" 55 ⟨"DareBridge", "copyRow", "([I[I)V"⟩ "DareBridge", .methodLinkNest "DareBridge" 31 ⟨"DareBridge$Pad", "<init>", "()V"⟩ "DareBridge", .methodLinkNest "DareBridge" 38 ⟨"DareBridge$Summer", "<init>", "()V"⟩ "DareBridge", .methodLinkNest "DareBridge$Summer" 24 ⟨"DareBridge$Chance", "<init>", "()V"⟩ "DareBridge", .methodLinkNest "DareBridge" 45 ⟨"DareBridge$Climb", "<init>", "()V"⟩ "DareBridge", .methodLinkNest "DareBridge$Climb" 11 ⟨"DareBridge$Chance", "<init>", "()V"⟩ "DareBridge", .methodLinkNest "DareBridge" 52 ⟨"DareBridge$Game", "<init>", "()V"⟩ "DareBridge", .methodLinkNest "DareBridge" 59 ⟨"DareBridge$Year", "<init>", "()V"⟩ "DareBridge", .methodLinkNest "DareBridge$Town" 63 ⟨"DareBridge", "put", "([III)V"⟩ "DareBridge", .methodLinkNest "DareBridge$Town" 59 ⟨"DareBridge", "at", "([II)I"⟩ "DareBridge", .methodLinkNest "DareBridge$Pad" 19 ⟨"DareBridge", "put", "([III)V"⟩ "DareBridge", .methodLinkNest "DareBridge$Pad" 23 ⟨"DareBridge", "at", "([II)I"⟩ "DareBridge", .methodLinkNest "DareBridge$Pad" 35 ⟨"DareBridge", "within", "(III)Z"⟩ "DareBridge", .methodLinkNest "DareBridge$Summer" 62 ⟨"DareBridge", "put", "([III)V"⟩ "DareBridge", .methodLinkNest "DareBridge$Summer" 42 ⟨"DareBridge", "at", "([II)I"⟩ "DareBridge", .methodLinkNest "DareBridge$Town" 94 ⟨"DareBridge", "drawAfter", "(I)I"⟩ "DareBridge", .methodLinkNest "DareBridge$Year" 32 ⟨"DareBridge", "drawAfter", "(I)I"⟩ "DareBridge", .methodLinkNest "DareBridge$Year" 47 ⟨"DareBridge", "at", "([II)I"⟩ "DareBridge"]
theorem xg_nest_kind : ∀ w ∈ xg_nest, (∃ a i x h, w = Cond.methodLinkNest a i x h) ∨ (∃ a i b n d h, w = Cond.fieldLinkNest a i b n d h) := by
  intro w hw
  simp only [xg_nest, List.mem_cons, List.not_mem_nil, or_false] at hw
  rcases hw with rfl | rfl | rfl | rfl | rfl | rfl | rfl | rfl | rfl | rfl | rfl | rfl | rfl | rfl | rfl | rfl | rfl | rfl | rfl
  all_goals first | exact Or.inl ⟨_, _, _, _, rfl⟩ | exact Or.inr ⟨_, _, _, _, _, _, rfl⟩
theorem xg_nest_warm {w : Cond} (hw : w ∈ xg_nest) {s U : State} (hW : s.WarmedH U.vm) (h : va_Nw w s) : va_Nw w U := by
  rcases xg_nest_kind w hw with ⟨a, i, x, q, rfl⟩ | ⟨a, i, b, n, d, q, rfl⟩
  · exact va_Nw.warmM hW h
  · exact va_Nw.warmF hW h
theorem xg_nest_same {w : Cond} (hw : w ∈ xg_nest) {u U : State} (hv : u.vm = U.vm) (h : va_Nw w u) : va_Nw w U := by
  rcases xg_nest_kind w hw with ⟨a, i, x, q, rfl⟩ | ⟨a, i, b, n, d, q, rfl⟩
  · exact va_Nw.same rfl hv h
  · exact va_Nw.same rfl hv h
theorem xg_nest_0 : (.fieldLinkNest "DareBridge$Town" 52 "DareBridge" "RULE_FIRST" "[I" "DareBridge" : Cond) ∈ xg_nest := List.mem_of_getElem? (i := 0) rfl
theorem xg_nest_1 : (.methodLinkNest "DareBridge$Town" 55 ⟨"DareBridge", "copyRow", "([I[I)V"⟩ "DareBridge" : Cond) ∈ xg_nest := List.mem_of_getElem? (i := 1) rfl
theorem xg_nest_2 : (.methodLinkNest "DareBridge" 31 ⟨"DareBridge$Pad", "<init>", "()V"⟩ "DareBridge" : Cond) ∈ xg_nest := List.mem_of_getElem? (i := 2) rfl
theorem xg_nest_3 : (.methodLinkNest "DareBridge" 38 ⟨"DareBridge$Summer", "<init>", "()V"⟩ "DareBridge" : Cond) ∈ xg_nest := List.mem_of_getElem? (i := 3) rfl
theorem xg_nest_4 : (.methodLinkNest "DareBridge$Summer" 24 ⟨"DareBridge$Chance", "<init>", "()V"⟩ "DareBridge" : Cond) ∈ xg_nest := List.mem_of_getElem? (i := 4) rfl
theorem xg_nest_5 : (.methodLinkNest "DareBridge" 45 ⟨"DareBridge$Climb", "<init>", "()V"⟩ "DareBridge" : Cond) ∈ xg_nest := List.mem_of_getElem? (i := 5) rfl
theorem xg_nest_6 : (.methodLinkNest "DareBridge$Climb" 11 ⟨"DareBridge$Chance", "<init>", "()V"⟩ "DareBridge" : Cond) ∈ xg_nest := List.mem_of_getElem? (i := 6) rfl
theorem xg_nest_7 : (.methodLinkNest "DareBridge" 52 ⟨"DareBridge$Game", "<init>", "()V"⟩ "DareBridge" : Cond) ∈ xg_nest := List.mem_of_getElem? (i := 7) rfl
theorem xg_nest_8 : (.methodLinkNest "DareBridge" 59 ⟨"DareBridge$Year", "<init>", "()V"⟩ "DareBridge" : Cond) ∈ xg_nest := List.mem_of_getElem? (i := 8) rfl
theorem xg_nest_9 : (.methodLinkNest "DareBridge$Town" 63 ⟨"DareBridge", "put", "([III)V"⟩ "DareBridge" : Cond) ∈ xg_nest := List.mem_of_getElem? (i := 9) rfl
theorem xg_nest_10 : (.methodLinkNest "DareBridge$Town" 59 ⟨"DareBridge", "at", "([II)I"⟩ "DareBridge" : Cond) ∈ xg_nest := List.mem_of_getElem? (i := 10) rfl
theorem xg_nest_11 : (.methodLinkNest "DareBridge$Pad" 19 ⟨"DareBridge", "put", "([III)V"⟩ "DareBridge" : Cond) ∈ xg_nest := List.mem_of_getElem? (i := 11) rfl
theorem xg_nest_12 : (.methodLinkNest "DareBridge$Pad" 23 ⟨"DareBridge", "at", "([II)I"⟩ "DareBridge" : Cond) ∈ xg_nest := List.mem_of_getElem? (i := 12) rfl
theorem xg_nest_13 : (.methodLinkNest "DareBridge$Pad" 35 ⟨"DareBridge", "within", "(III)Z"⟩ "DareBridge" : Cond) ∈ xg_nest := List.mem_of_getElem? (i := 13) rfl
theorem xg_nest_14 : (.methodLinkNest "DareBridge$Summer" 62 ⟨"DareBridge", "put", "([III)V"⟩ "DareBridge" : Cond) ∈ xg_nest := List.mem_of_getElem? (i := 14) rfl
theorem xg_nest_15 : (.methodLinkNest "DareBridge$Summer" 42 ⟨"DareBridge", "at", "([II)I"⟩ "DareBridge" : Cond) ∈ xg_nest := List.mem_of_getElem? (i := 15) rfl
theorem xg_nest_16 : (.methodLinkNest "DareBridge$Town" 94 ⟨"DareBridge", "drawAfter", "(I)I"⟩ "DareBridge" : Cond) ∈ xg_nest := List.mem_of_getElem? (i := 16) rfl
theorem xg_nest_17 : (.methodLinkNest "DareBridge$Year" 32 ⟨"DareBridge", "drawAfter", "(I)I"⟩ "DareBridge" : Cond) ∈ xg_nest := List.mem_of_getElem? (i := 17) rfl
theorem xg_nest_18 : (.methodLinkNest "DareBridge$Year" 47 ⟨"DareBridge", "at", "([II)I"⟩ "DareBridge" : Cond) ∈ xg_nest := List.mem_of_getElem? (i := 18) rfl
def xg_A (bs : Nat) : Nat → Prop := fun q => bs ≤ q
def xg_f0 : Nat → Int32 := fun k => match k with
  | 0 => 2
  | 1 => 3
  | 2 => 20
  | 3 => 1
  | 4 => 6
  | 5 => 0
  | _ => 1
def xg_f1 : Nat → Int32 := fun k => match k with
  | 0 => 1
  | 4 => 1
  | _ => 0
def xg_f2 : Nat → Int32 := fun k => match k with
  | 0 => 9
  | 1 => 9
  | 2 => 99
  | 3 => 9
  | 4 => 42
  | 5 => 1
  | _ => 9999
/-- a row of ints that is only read: of a static one the tables say no more than this -/
def xg_X (a N : Nat) (f : Nat → Int32) (U : State) (H : Heap) : Prop := ∃ cell : Cell, H[a]? = some cell ∧ U.isArrayOf cell .int ∧ cell.vm ≠ .unknown ∧ N ≤ cell.slots.size ∧ cell.slots.size.toInt32 = Int32.ofNat N ∧ ∀ j : Nat, j < N → cell.slots[j]? = some (.int (f j))
theorem xg_X.kept {a N : Nat} {f : Nat → Int32} {U : State} {H H1 : Heap} (h : xg_X a N f U H) (hq : H1[a]? = H[a]?) : xg_X a N f U H1 := by
  obtain ⟨cell, h1, h2⟩ := h
  exact ⟨cell, by rw [hq]; exact h1, h2⟩
theorem xg_X.moved {a N : Nat} {f : Nat → Int32} {u U : State} {H : Heap} (hvm : u.vm.Alike U.vm) (h : xg_X a N f u H) : xg_X a N f U H := by
  obtain ⟨cell, h1, h2, h3⟩ := h
  exact ⟨cell, h1, State.isArrayOf_alike hvm h2, h3⟩
theorem xg_X.ofX {a N : Nat} {f : Nat → Int32} {U : State} {H : Heap} (h : va_X a N f U H) : xg_X a N f U H := by
  obtain ⟨cell, h1, h2, h3, h4, h5⟩ := h
  exact ⟨cell, h1, h2, h3, by rw [h4]; exact Nat.le_refl N, by rw [h4], h5⟩
theorem xg_X.T {a N : Nat} {f : Nat → Int32} {A : Nat → Prop} {U : State} {H : Heap} (h : xg_X a N f U H) (hA : ¬ A a) : va_T .int a N (fun j => .int (f j)) A U H := by
  obtain ⟨cell, h1, h2, h3, h4, h5, h6⟩ := h
  exact ⟨cell, h1, h2, h3, h4, h5, h6, hA⟩
theorem xg_X.ofT {a N : Nat} {f : Nat → Int32} {A : Nat → Prop} {U : State} {H : Heap} (h : va_T .int a N (fun j => .int (f j)) A U H) : xg_X a N f U H := by
  obtain ⟨cell, h1, h2, h3, h4, h5, h6, -⟩ := h
  exact ⟨cell, h1, h2, h3, h4, h5, h6⟩
/-- a static row of the class, that nobody writes -/
def xg_St (bs : Nat) (n : String) (f : Nat → Int32) (U : State) : Prop := ∃ r : Nat, r < bs ∧ va_Z "DareBridge" n "[I" (.ref r) (xg_A bs) U U.heap ∧ xg_X r 7 f U U.heap
/-- what the tables and the static rows say; the world's cells begin at bs -/
def xg_K (D : va_G) (cI cZ : ClassId) (bs : Nat) (U : State) : Prop := va_K D vwCl [(cI, .int), (cZ, .boolean)] U ∧ (∀ w ∈ xg_nest, va_Nw w U) ∧ bs ≤ U.heap.size ∧ xg_St bs "RULE_FIRST" xg_f0 U ∧ xg_St bs "RULE_LEAST" xg_f1 U ∧ xg_St bs "RULE_MOST" xg_f2 U
theorem xg_St.to {bs : Nat} {n : String} {f : Nat → Int32} {s U : State} (hW : s.vm.Alike U.vm) (hq : ∀ q : Nat, q < bs → U.heap[q]? = s.heap[q]?) (h : xg_St bs n f s) : xg_St bs n f U := by
  obtain ⟨r, hr, hz, hx⟩ := h
  exact ⟨r, hr, (hz.kept (fun a _ hA => hq a (Nat.not_le.mp hA))).moved hW, (hx.kept (hq r hr)).moved hW⟩
theorem xg_K.warm {D : va_G} {cI cZ : ClassId} {bs : Nat} {s U : State} (hW : s.WarmedH U.vm) (hz : bs ≤ U.heap.size) (hq : ∀ q : Nat, q < bs → U.heap[q]? = s.heap[q]?) (h : xg_K D cI cZ bs s) : xg_K D cI cZ bs U := by
  obtain ⟨h1, h2, h3, h4, h5, h6⟩ := h
  exact ⟨h1.moved hW.alike, fun w hw => xg_nest_warm hw hW (h2 w hw), hz, h4.to hW.alike hq, h5.to hW.alike hq, h6.to hW.alike hq⟩
theorem xg_K.same {D : va_G} {cI cZ : ClassId} {bs : Nat} {s U : State} (hv : s.vm = U.vm) (hh : U.heap = s.heap) (h : xg_K D cI cZ bs s) : xg_K D cI cZ bs U := by
  obtain ⟨h1, h2, h3, h4, h5, h6⟩ := h
  have ha : s.vm.Alike U.vm := by rw [hv]; exact Vm.Alike.refl _
  exact ⟨h1.moved ha, fun w hw => xg_nest_same hw hv (h2 w hw), by rw [hh]; exact h3, h4.to ha (fun q _ => by rw [hh]), h5.to ha (fun q _ => by rw [hh]), h6.to ha (fun q _ => by rw [hh])⟩
/-- the world at a method's start or end -/
def xg_W (D : va_G) (cI cZ : ClassId) (bs : Nat) (ws : va_W) (U : State) : Prop := xg_K D cI cZ bs U ∧ va_P D vwCl ws U.heap ∧ va_D (xg_A bs) ws
/-- the world within a method -/
def xg_H (D : va_G) (bs : Nat) (ws : va_W) (H0 H : Heap) (locs : List Loc) : Prop := va_P D vwCl ws H ∧ va_D (xg_A bs) ws ∧ va_S (xg_A bs) H0 H locs
theorem xg_blind {D : va_G} {cI cZ : ClassId} {bs : Nat} {ws : va_W} {As : List Value} : FrameBlind (va_Pc As (fun U => xg_W D cI cZ bs ws U)) := fun a U g mk h => ⟨h.1, xg_K.same (s := U) (U := U.calling g mk a) rfl rfl h.2.1, h.2.2⟩
theorem xg_blindK {D : va_G} {cI cZ : ClassId} {bs : Nat} {As : List Value} : FrameBlind (va_Pc As (fun U => xg_K D cI cZ bs U)) := fun a U g mk h => ⟨h.1, xg_K.same (s := U) (U := U.calling g mk a) rfl rfl h.2⟩
theorem xg_start {D : va_G} {cI cZ : ClassId} {bs : Nat} {ws : va_W} {s : State} (h : xg_W D cI cZ bs ws s) : xg_H D bs ws s.heap s.heap [] := ⟨h.2.1, h.2.2, va_S.rf⟩
theorem xg_preK {D : va_G} {cI cZ : ClassId} {bs : Nat} {H : Heap} {locs : List Loc} {s U : State} (hK : xg_K D cI cZ bs s) (hS : va_S (xg_A bs) s.heap H locs) (hU : U.heap = H) (hW : s.WarmedH U.vm) : xg_K D cI cZ bs U :=
  xg_K.warm hW (by rw [hU]; exact Nat.le_trans hK.2.2.1 hS.1) (fun q hq => by rw [hU]; exact hS.2.1 q (Nat.lt_of_lt_of_le hq hK.2.2.1) (Nat.not_le.mpr hq)) hK
theorem xg_pre {D : va_G} {cI cZ : ClassId} {bs : Nat} {ws : va_W} {H : Heap} {locs : List Loc} {s U : State} (hK : xg_K D cI cZ bs s) (hG : xg_H D bs ws s.heap H locs) (hU : U.heap = H) (hW : s.WarmedH U.vm) : xg_W D cI cZ bs ws U :=
  ⟨xg_preK hK hG.2.2 hU hW, by rw [hU]; exact hG.1, hG.2.1⟩
/-- methods that only read -/
def xg_Ri (post : Int32 → Prop) : Array Value → State → Outcome → State → Prop := fun _ st oc t => ∃ r : Int32, oc = .returned (some (.int r)) ∧ post r ∧ t.heap = st.heap
def xg_Rl (post : Int64 → Prop) : Array Value → State → Outcome → State → Prop := fun _ st oc t => ∃ r : Int64, oc = .returned (some (.long r)) ∧ post r ∧ t.heap = st.heap
abbrev xg_F : Nat → Prop := fun _ => False
theorem xg_weak {l : Launch} {y : MethodName} {ws : List Cond} {rm : Room} {Pc Pc' : Array Value → State → Prop} {Qc : Array Value → State → Outcome → State → Prop} {mc ms : Nat} {free : Addr → Prop} (hM : Met l y ws rm Pc Qc mc ms free) (h : ∀ a U, Pc' a U → Pc a U) : Met l y ws rm Pc' Qc mc ms free :=
  fun p e h1 h2 h3 s m args below h4 h5 h6 h7 => hM p e h1 h2 h3 s m args below h4 h5 (h _ _ h6) h7
section XGC
variable {p : Program} {l : Launch} {e : Env} {R : Room} {s : State} {m : MethodId} {args : Array Value} {below : List Frame} {meth : Method} {c : Code} {H : Heap} {locs : List Loc} {cells slots : Nat} {Q : State → Prop}
variable {pc : Nat} {ls : Array Slot} {rest st0 : List Value} {a : Array Value} {mc ms : Nat}
variable {D : va_G} {cI cZ : ClassId} {bs : Nat} {ws : va_W}
theorem xg_ri {post : Int32 → Prop} (hr : va_Run p l e R s m args below meth c H locs cells slots 0 0 (F0 m pc ls st0) rest (xg_Ri post a) xg_F)
    (kk : ∀ r : Int32, post r → W p l e R s m args below meth c H locs cells slots Q (F0 m (pc + 3) ls (.int r :: rest))) : W p l e R s m args below meth c H locs cells slots Q (F0 m pc ls st0) := by
  intro T hT X
  obtain ⟨v, st₀, t, T', L, h0, X', hL, e1, -, ⟨r, hv, hp, hh⟩, st⟩ := hr T hT X
  cases hv
  obtain ⟨t2, a1, b1⟩ := kk r hp T' (by rw [e1, hh, h0]) (Stand.forget X' (fun q h => (hL q h).elim))
  exact ⟨t2, st t2 a1, b1⟩
theorem xg_rl {post : Int64 → Prop} (hr : va_Run p l e R s m args below meth c H locs cells slots 0 0 (F0 m pc ls st0) rest (xg_Rl post a) xg_F)
    (kk : ∀ r : Int64, post r → W p l e R s m args below meth c H locs cells slots Q (F0 m (pc + 3) ls (.long r :: rest))) : W p l e R s m args below meth c H locs cells slots Q (F0 m pc ls st0) := by
  intro T hT X
  obtain ⟨v, st₀, t, T', L, h0, X', hL, e1, -, ⟨r, hv, hp, hh⟩, st⟩ := hr T hT X
  cases hv
  obtain ⟨t2, a1, b1⟩ := kk r hp T' (by rw [e1, hh, h0]) (Stand.forget X' (fun q h => (hL q h).elim))
  exact ⟨t2, st t2 a1, b1⟩
theorem xg_mi {post : Int32 → va_W → Prop} (hr : va_Run p l e R s m args below meth c H locs cells slots mc ms (F0 m pc ls st0) rest (va_Qi post (fun w t => xg_W D cI cZ bs w t) (xg_A bs) a) (xg_A bs)) (hG : xg_H D bs ws s.heap H locs)
    (kk : ∀ (r : Int32) (w : va_W) (H1 : Heap) (locs1 : List Loc), post r w → xg_H D bs w s.heap H1 locs1 → W p l e R s m args below meth c H1 locs1 (cells + mc) (slots + ms) Q (F0 m (pc + 3) ls (.int r :: rest))) : W p l e R s m args below meth c H locs cells slots Q (F0 m pc ls st0) :=
  va_calli hr hG.2.2 (fun _ _ h => h) (fun _ h => h) (fun r u t H1 locs1 ht _ hp hB _ _ hS => kk r u H1 locs1 hp ⟨ht ▸ hB.2.1, hB.2.2, hS⟩)
theorem xg_ml {post : Int64 → va_W → Prop} (hr : va_Run p l e R s m args below meth c H locs cells slots mc ms (F0 m pc ls st0) rest (va_Ql post (fun w t => xg_W D cI cZ bs w t) (xg_A bs) a) (xg_A bs)) (hG : xg_H D bs ws s.heap H locs)
    (kk : ∀ (r : Int64) (w : va_W) (H1 : Heap) (locs1 : List Loc), post r w → xg_H D bs w s.heap H1 locs1 → W p l e R s m args below meth c H1 locs1 (cells + mc) (slots + ms) Q (F0 m (pc + 3) ls (.long r :: rest))) : W p l e R s m args below meth c H locs cells slots Q (F0 m pc ls st0) :=
  va_calll hr hG.2.2 (fun _ _ h => h) (fun _ h => h) (fun r u t H1 locs1 ht _ hp hB _ _ hS => kk r u H1 locs1 hp ⟨ht ▸ hB.2.1, hB.2.2, hS⟩)
theorem xg_mv {post : va_W → Prop} (hr : va_Run p l e R s m args below meth c H locs cells slots mc ms (F0 m pc ls st0) rest (va_Qv post (fun w t => xg_W D cI cZ bs w t) (xg_A bs) a) (xg_A bs)) (hG : xg_H D bs ws s.heap H locs)
    (kk : ∀ (w : va_W) (H1 : Heap) (locs1 : List Loc), post w → xg_H D bs w s.heap H1 locs1 → W p l e R s m args below meth c H1 locs1 (cells + mc) (slots + ms) Q (F0 m (pc + 3) ls rest)) : W p l e R s m args below meth c H locs cells slots Q (F0 m pc ls st0) :=
  va_callv hr hG.2.2 (fun _ _ h => h) (fun _ h => h) (fun u t H1 locs1 ht _ hp hB _ _ hS => kk u H1 locs1 hp ⟨ht ▸ hB.2.1, hB.2.2, hS⟩)
theorem xg_preV {b : Nat} {As : List Value} {C : String} (hK : xg_K D cI cZ bs s) (hG : xg_H D bs ws s.heap H locs) (q0 : Nat) {ci : Nat} {fs : List Value} {q : vw_C} (he : ws[q0]? = some (b, .inr (ci, fs))) (hc : vwCl[ci]? = some q) (hC : q.1 = C) : PreV s H C b (va_Pc (.ref b :: As) (fun U => xg_W D cI cZ bs ws U)) As :=
  ⟨xg_blind, by rw [← hC]; exact va_recv hK.1 hG.1 hc he, fun _ hU hW => ⟨rfl, xg_pre hK hG hU hW⟩⟩
theorem xg_preVK {b : Nat} {As : List Value} {C : String} (hK : xg_K D cI cZ bs s) (hG : xg_H D bs ws s.heap H locs) (q0 : Nat) {ci : Nat} {fs : List Value} {q : vw_C} (he : ws[q0]? = some (b, .inr (ci, fs))) (hc : vwCl[ci]? = some q) (hC : q.1 = C) : PreV s H C b (va_Pc (.ref b :: As) (fun U => xg_K D cI cZ bs U)) As :=
  ⟨xg_blindK, by rw [← hC]; exact va_recv hK.1 hG.1 hc he, fun _ hU hW => ⟨rfl, xg_preK hK hG.2.2 hU hW⟩⟩
theorem xg_preS {As : List Value} (hK : xg_K D cI cZ bs s) (hG : xg_H D bs ws s.heap H locs) : PreS s H (va_Pc As (fun U => xg_W D cI cZ bs ws U)) As :=
  ⟨xg_blind, fun _ hU hW => ⟨rfl, xg_pre hK hG hU hW⟩⟩
theorem xg_preSK {As : List Value} (hK : xg_K D cI cZ bs s) (hG : xg_H D bs ws s.heap H locs) : PreS s H (va_Pc As (fun U => xg_K D cI cZ bs U)) As :=
  ⟨xg_blindK, fun _ hU hW => ⟨rfl, xg_preK hK hG.2.2 hU hW⟩⟩
variable {cc : ByteArray} {nL : Nat} {Ts : List Cond} {own : String}
theorem xg_get (S : CallFix p m c cc nL s args Ts own) (hK : xg_K D cI cZ bs s) (hG : xg_H D bs ws s.heap H locs) {ref C : String} {T : u_T} {N ci index a : Nat} (hin : ∀ w ∈ u_ws C T N, w ∈ Ts) (q0 : Nat) {fs : List Value} (he : ws[q0]? = some (a, .inr (ci, fs))) (hc : vwCl[ci]? = some (C, T, N)) (k : Nat) (hk : k < N) (hlink : (Cond.fieldLink own index ref (T k).2.1 (T k).2.2.1).before args s = true) (hsame : ∀ x, s.fieldFound? (T k).1 (T k).2.1 (T k).2.2.1 = some x → s.fieldFound? ref (T k).2.1 (T k).2.2.1 = some x) {v : Value} (hv : fs[k]? = some v) (hdg : decode cc pc = .ok (.getfield index, 3))
    (kk : W p l e R s m args below meth c H locs cells slots Q (F0 m (pc + 3) ls (v :: rest))) : W p l e R s m args below meth c H locs cells slots Q (F0 m pc ls (.ref a :: rest)) :=
  va_get S.1 S.2.1 S.2.2.2.2 hin S.2.2.2.1 hK.1 hG.1 q0 he hc k hk hlink hsame hv hdg kk
theorem xg_put (S : CallFix p m c cc nL s args Ts own) (hK : xg_K D cI cZ bs s) (hG : xg_H D bs ws s.heap H locs) {ref C : String} {T : u_T} {N ci index a : Nat} (hin : ∀ w ∈ u_ws C T N, w ∈ Ts) (ty0 : Nat → FieldType) (hty : ∀ k, k < N → parseFieldDescriptor (T k).2.2.1 = some (ty0 k)) (hnm : ∀ a, a < N → ∀ b, b < N → a ≠ b → (T a).2.1 ≠ (T b).2.1) (q0 : Nat) {fs : List Value} (he : ws[q0]? = some (a, .inr (ci, fs))) (hc : vwCl[ci]? = some (C, T, N)) (k : Nat) (hk : k < N) (hlink : (Cond.fieldLink own index ref (T k).2.1 (T k).2.2.1).before args s = true) (hsame : ∀ x, s.fieldFound? (T k).1 (T k).2.1 (T k).2.2.1 = some x → s.fieldFound? ref (T k).2.1 (T k).2.2.1 = some x) (hfin : (T k).2.2.2 = false) {ty : FieldType} {v : Value} (hd : parseFieldDescriptor (T k).2.2.1 = some ty) (hn : narrow ty v = v) (hfit : fits ty v = true) (hl : k < fs.length)
    (hdg : decode cc pc = .ok (.putfield index, 3)) (kk : ∀ (H1 : Heap) (locs1 : List Loc), xg_H D bs (ws.set q0 (a, .inr (ci, fs.set k v))) s.heap H1 locs1 → W p l e R s m args below meth c H1 locs1 cells slots Q (F0 m (pc + 3) ls rest)) : W p l e R s m args below meth c H locs cells slots Q (F0 m pc ls (v :: .ref a :: rest)) :=
  va_put S.1 S.2.1 S.2.2.2.2 hin ty0 hty hnm S.2.2.2.1 hK.1 hG.1 hG.2.1 hG.2.2 q0 he hc k hk hlink hsame hfin hd hn hfit hl hdg (fun H1 locs1 h1 h2 h3 => kk H1 locs1 ⟨h1, h2, h3⟩)
theorem xg_ald (S : CallFix p m c cc nL s args Ts own) (hK : xg_K D cI cZ bs s) (hG : xg_H D bs ws s.heap H locs) (q0 : Nat) {a n : Nat} {f : Nat → Int32} (he : ws[q0]? = some (a, .inl (cI, n, .inl f))) {i : Int32} (hin : vp_in i n) (hdg : decode cc pc = .ok (.iaload, 1))
    (kk : W p l e R s m args below meth c H locs cells slots Q (F0 m (pc + 1) ls (.int (f i.toNatClampNeg) :: rest))) : W p l e R s m args below meth c H locs cells slots Q (F0 m pc ls (.int i :: .ref a :: rest)) :=
  va_iald S.1 S.2.1 hK.1 hG.1 q0 0 he rfl hin hdg kk
theorem xg_ast (S : CallFix p m c cc nL s args Ts own) (hK : xg_K D cI cZ bs s) (hG : xg_H D bs ws s.heap H locs) (q0 : Nat) {a n : Nat} {f : Nat → Int32} (he : ws[q0]? = some (a, .inl (cI, n, .inl f))) {i x : Int32} (hin : vp_in i n) (hdg : decode cc pc = .ok (.iastore, 1))
    (kk : ∀ (H1 : Heap) (locs1 : List Loc), xg_H D bs (ws.set q0 (a, .inl (cI, n, .inl (upd f i.toNatClampNeg x)))) s.heap H1 locs1 → W p l e R s m args below meth c H1 locs1 cells slots Q (F0 m (pc + 1) ls rest)) : W p l e R s m args below meth c H locs cells slots Q (F0 m pc ls (.int x :: .int i :: .ref a :: rest)) :=
  va_iast S.1 S.2.1 hK.1 hG.1 hG.2.1 hG.2.2 q0 0 he rfl hin hdg (fun H1 locs1 h1 h2 h3 => kk H1 locs1 ⟨h1, h2, h3⟩)
theorem xg_zld (S : CallFix p m c cc nL s args Ts own) (hK : xg_K D cI cZ bs s) (hG : xg_H D bs ws s.heap H locs) (q0 : Nat) {a n : Nat} {f : Nat → Int32} (he : ws[q0]? = some (a, .inl (cZ, n, .inl f))) {i : Int32} (hin : vp_in i n) (hdg : decode cc pc = .ok (.baload, 1))
    (kk : W p l e R s m args below meth c H locs cells slots Q (F0 m (pc + 1) ls (.int (f i.toNatClampNeg) :: rest))) : W p l e R s m args below meth c H locs cells slots Q (F0 m pc ls (.int i :: .ref a :: rest)) :=
  va_zald S.1 S.2.1 hK.1 hG.1 q0 1 he rfl hin hdg kk
theorem xg_zst (S : CallFix p m c cc nL s args Ts own) (hK : xg_K D cI cZ bs s) (hG : xg_H D bs ws s.heap H locs) (q0 : Nat) {a n : Nat} {f : Nat → Int32} (he : ws[q0]? = some (a, .inl (cZ, n, .inl f))) {i x : Int32} (hin : vp_in i n) (hdg : decode cc pc = .ok (.bastore, 1))
    (kk : ∀ (H1 : Heap) (locs1 : List Loc), xg_H D bs (ws.set q0 (a, .inl (cZ, n, .inl (upd f i.toNatClampNeg (vp_nar .boolean x))))) s.heap H1 locs1 → W p l e R s m args below meth c H1 locs1 cells slots Q (F0 m (pc + 1) ls rest)) : W p l e R s m args below meth c H locs cells slots Q (F0 m pc ls (.int x :: .int i :: .ref a :: rest)) :=
  va_zast S.1 S.2.1 hK.1 hG.1 hG.2.1 hG.2.2 q0 1 he rfl hin hdg (fun H1 locs1 h1 h2 h3 => kk H1 locs1 ⟨h1, h2, h3⟩)
theorem xg_len (S : CallFix p m c cc nL s args Ts own) (hK : xg_K D cI cZ bs s) (hG : xg_H D bs ws s.heap H locs) (q0 : Nat) {a n : Nat} {f : Nat → Int32} (he : ws[q0]? = some (a, .inl (cI, n, .inl f))) (hdg : decode cc pc = .ok (.arraylength, 1))
    (kk : W p l e R s m args below meth c H locs cells slots Q (F0 m (pc + 1) ls (.int (nI n) :: rest))) : W p l e R s m args below meth c H locs cells slots Q (F0 m pc ls (.ref a :: rest)) :=
  va_alen S.1 S.2.1 hK.1 hG.1 q0 0 he (ty := .int) rfl rfl hdg kk
/-- the ends -/
theorem xg_eri {post : Int32 → Prop} {v : Int32} (S : CallFix p m c cc nL s args Ts own) (hr : meth.sig.returnType = some .int) (hlk : meth.locks = false) (hp : post v) (hdg : decode cc pc = .ok (.ireturn, 1)) : W p l e R s m args below meth c s.heap [] cells slots (MQ below (xg_Ri post) args s cells slots xg_F) (F0 m pc ls [.int v]) :=
  W.iret S.1 S.2.1 hr (fun _ ht _ => ⟨v, rfl, hp, ht⟩) (fun q h => by cases h) hdg hlk
theorem xg_erz {post : Int32 → Prop} {v : Int32} (S : CallFix p m c cc nL s args Ts own) (hr : meth.sig.returnType = some .boolean) (hlk : meth.locks = false) (hn : narrow .boolean (.int v) = .int v) (hp : post v) (hdg : decode cc pc = .ok (.ireturn, 1)) : W p l e R s m args below meth c s.heap [] cells slots (MQ below (xg_Ri post) args s cells slots xg_F) (F0 m pc ls [.int v]) :=
  W.zret S.1 S.2.1 hr hn (fun _ ht _ => ⟨v, rfl, hp, ht⟩) (fun q h => by cases h) hdg hlk
theorem xg_erl {post : Int64 → Prop} {v : Int64} (S : CallFix p m c cc nL s args Ts own) (hr : meth.sig.returnType = some .long) (hlk : meth.locks = false) (hp : post v) (hdg : decode cc pc = .ok (.lreturn, 1)) : W p l e R s m args below meth c s.heap [] cells slots (MQ below (xg_Rl post) args s cells slots xg_F) (F0 m pc ls [.long v]) :=
  W.lret S.1 S.2.1 hr (fun _ ht _ => ⟨v, rfl, hp, ht⟩) (fun q h => by cases h) hdg hlk
theorem xg_emi {post : Int32 → va_W → Prop} {v : Int32} (S : CallFix p m c cc nL s args Ts own) (hr : meth.sig.returnType = some .int) (hlk : meth.locks = false) (hK : xg_K D cI cZ bs s) (hG : xg_H D bs ws s.heap H locs) (hp : post v ws) (hdg : decode cc pc = .ok (.ireturn, 1)) : W p l e R s m args below meth c H locs cells slots (MQ below (va_Qi post (fun w t => xg_W D cI cZ bs w t) (xg_A bs)) args s cells slots (xg_A bs)) (F0 m pc ls [.int v]) :=
  W.iret S.1 S.2.1 hr (fun _ ht hW => ⟨⟨v, ws, rfl, hp, xg_pre hK hG ht hW⟩, hG.2.2.F ht⟩) hG.2.2.2.2 hdg hlk
theorem xg_emz {post : Int32 → va_W → Prop} {v : Int32} (S : CallFix p m c cc nL s args Ts own) (hr : meth.sig.returnType = some .boolean) (hlk : meth.locks = false) (hn : narrow .boolean (.int v) = .int v) (hK : xg_K D cI cZ bs s) (hG : xg_H D bs ws s.heap H locs) (hp : post v ws) (hdg : decode cc pc = .ok (.ireturn, 1)) : W p l e R s m args below meth c H locs cells slots (MQ below (va_Qi post (fun w t => xg_W D cI cZ bs w t) (xg_A bs)) args s cells slots (xg_A bs)) (F0 m pc ls [.int v]) :=
  W.zret S.1 S.2.1 hr hn (fun _ ht hW => ⟨⟨v, ws, rfl, hp, xg_pre hK hG ht hW⟩, hG.2.2.F ht⟩) hG.2.2.2.2 hdg hlk
theorem xg_eml {post : Int64 → va_W → Prop} {v : Int64} (S : CallFix p m c cc nL s args Ts own) (hr : meth.sig.returnType = some .long) (hlk : meth.locks = false) (hK : xg_K D cI cZ bs s) (hG : xg_H D bs ws s.heap H locs) (hp : post v ws) (hdg : decode cc pc = .ok (.lreturn, 1)) : W p l e R s m args below meth c H locs cells slots (MQ below (va_Ql post (fun w t => xg_W D cI cZ bs w t) (xg_A bs)) args s cells slots (xg_A bs)) (F0 m pc ls [.long v]) :=
  W.lret S.1 S.2.1 hr (fun _ ht hW => ⟨⟨v, ws, rfl, hp, xg_pre hK hG ht hW⟩, hG.2.2.F ht⟩) hG.2.2.2.2 hdg hlk
theorem xg_emv {post : va_W → Prop} (S : CallFix p m c cc nL s args Ts own) (hr : meth.sig.returnType = none) (hlk : meth.locks = false) (hK : xg_K D cI cZ bs s) (hG : xg_H D bs ws s.heap H locs) (hp : post ws) (hdg : decode cc pc = .ok (.return_, 1)) : W p l e R s m args below meth c H locs cells slots (MQ below (va_Qv post (fun w t => xg_W D cI cZ bs w t) (xg_A bs)) args s cells slots (xg_A bs)) (F0 m pc ls []) :=
  W.vret S.1 S.2.1 hr (fun _ ht hW => ⟨⟨ws, rfl, hp, xg_pre hK hG ht hW⟩, hG.2.2.F ht⟩) hG.2.2.2.2 hdg hlk
end XGC
/-- a contract, from the method's entry -/
theorem xg_met {l : Launch} {y : MethodName} {wy wy' : List Cond} {rm : Room} {Qc : Array Value → State → Outcome → State → Prop} {mc ms : Nat} {free : Addr → Prop} {As : List Value} {Bd : State → Prop} (cc : ByteArray) (maxL : Nat) (ret : Option FieldType) (own : String) (hy : plainName y.cls = true) (hw : wy = Cond.code y cc maxL ret :: wy') (hown : y.cls = own) (hn : (lg_sl As).length ≤ maxL)
    (body : ∀ (p : Program) (e : Env) (s : State) (m : MethodId) (below : List Frame) (meth : Method) (c : Code) (ls : Array Slot), CallFix p m c cc maxL s As.toArray wy own → meth.sig.returnType = ret → meth.locks = false → meth.name = y.name → Bd s → lv_has ls maxL (lv_args 0 As) → W p l e rm s m As.toArray below meth c s.heap [] 0 0 (MQ below Qc As.toArray s mc ms free) (F0 m 0 ls [])) : Met l y wy rm (va_Pc As Bd) Qc mc ms free := by
  refine Met.ofW (cc := cc) (maxL := maxL) (ret := ret) hy hw ?_
  intro p e s m args below meth c s₁ B hml hv
  obtain ⟨rfl, hB⟩ := hv
  have hts := atoms_spec (ws := wy) B.pre
  have hl := lv_entry As (n := maxL) hn
  rw [lg_entry_eq]
  exact body p e s m below meth c _ ⟨B.exec, B.bytes, hml, by rw [← hown]; exact findClass_of_methodNamed B.named, hts⟩ B.returns B.notSynchronized (name_of_methodNamed B.named B.method).1 hB hl

