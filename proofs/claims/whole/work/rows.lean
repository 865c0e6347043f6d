section
-- ===== PART A: goes FIRST, ahead of the names: the tables' words, and 'selects' of the private methods out of them =====
/-- a private method of a class that the tables say can be made, by its rows of tables_1 -/
def lw_okq (q : MethodName × Nat) : Prop := (q.1.cls ≠ "java/lang/invoke/MethodHandle" ∧ q.1.cls ≠ "java/lang/invoke/VarHandle") ∧ Cond.instantiable q.1.cls q.2 ∈ tables_1 ∧ Cond.privateMethod q.1 ∈ tables_1 ∧ Cond.instanceMethod q.1 ∈ tables_1
theorem lw_p0 : lw_okq (⟨"DareBridge", "playSummer", "()I"⟩, 10) := ⟨⟨by decide +kernel, by decide +kernel⟩, List.mem_of_getElem? (i := 13) (by decide +kernel), List.mem_of_getElem? (i := 343) (by decide +kernel), List.mem_of_getElem? (i := 344) (by decide +kernel)⟩
theorem lw_p1 : lw_okq (⟨"DareBridge$Summer", "begin", "(LDareBridge$Town;)V"⟩, 9) := ⟨⟨by decide +kernel, by decide +kernel⟩, List.mem_of_getElem? (i := 102) (by decide +kernel), List.mem_of_getElem? (i := 351) (by decide +kernel), List.mem_of_getElem? (i := 352) (by decide +kernel)⟩
theorem lw_p2 : lw_okq (⟨"DareBridge$Summer", "playDare", "([II)V"⟩, 9) := ⟨⟨by decide +kernel, by decide +kernel⟩, List.mem_of_getElem? (i := 102) (by decide +kernel), List.mem_of_getElem? (i := 375) (by decide +kernel), List.mem_of_getElem? (i := 376) (by decide +kernel)⟩
theorem lw_p3 : lw_okq (⟨"DareBridge$Summer", "reckon", "(II)V"⟩, 9) := ⟨⟨by decide +kernel, by decide +kernel⟩, List.mem_of_getElem? (i := 102) (by decide +kernel), List.mem_of_getElem? (i := 384) (by decide +kernel), List.mem_of_getElem? (i := 385) (by decide +kernel)⟩
theorem lw_p4 : lw_okq (⟨"DareBridge", "refusalOfHeight", "(II)I"⟩, 10) := ⟨⟨by decide +kernel, by decide +kernel⟩, List.mem_of_getElem? (i := 13) (by decide +kernel), List.mem_of_getElem? (i := 450) (by decide +kernel), List.mem_of_getElem? (i := 451) (by decide +kernel)⟩
theorem lw_p5 : lw_okq (⟨"DareBridge", "refusalOfClimb", "(IIII)I"⟩, 10) := ⟨⟨by decide +kernel, by decide +kernel⟩, List.mem_of_getElem? (i := 13) (by decide +kernel), List.mem_of_getElem? (i := 498) (by decide +kernel), List.mem_of_getElem? (i := 499) (by decide +kernel)⟩
theorem lw_p6 : lw_okq (⟨"DareBridge$Game", "settle", "(LDareBridge$Town;III)V"⟩, 3) := ⟨⟨by decide +kernel, by decide +kernel⟩, List.mem_of_getElem? (i := 185) (by decide +kernel), List.mem_of_getElem? (i := 535) (by decide +kernel), List.mem_of_getElem? (i := 536) (by decide +kernel)⟩
theorem lw_p7 : lw_okq (⟨"DareBridge$Game", "settleFor", "(III)V"⟩, 3) := ⟨⟨by decide +kernel, by decide +kernel⟩, List.mem_of_getElem? (i := 185) (by decide +kernel), List.mem_of_getElem? (i := 542) (by decide +kernel), List.mem_of_getElem? (i := 543) (by decide +kernel)⟩
theorem lw_p8 : lw_okq (⟨"DareBridge$Town", "joinedInRound", "(I)I"⟩, 13) := ⟨⟨by decide +kernel, by decide +kernel⟩, List.mem_of_getElem? (i := 21) (by decide +kernel), List.mem_of_getElem? (i := 554) (by decide +kernel), List.mem_of_getElem? (i := 555) (by decide +kernel)⟩
theorem lw_p9 : lw_okq (⟨"DareBridge$Year", "dare", "(II)V"⟩, 4) := ⟨⟨by decide +kernel, by decide +kernel⟩, List.mem_of_getElem? (i := 204) (by decide +kernel), List.mem_of_getElem? (i := 620) (by decide +kernel), List.mem_of_getElem? (i := 621) (by decide +kernel)⟩
theorem lw_p10 : lw_okq (⟨"DareBridge", "trait", "(II)I"⟩, 10) := ⟨⟨by decide +kernel, by decide +kernel⟩, List.mem_of_getElem? (i := 13) (by decide +kernel), List.mem_of_getElem? (i := 645) (by decide +kernel), List.mem_of_getElem? (i := 646) (by decide +kernel)⟩
theorem lw_p11 : lw_okq (⟨"DareBridgeModel", "isThere", "(I)Z"⟩, 46) := ⟨⟨by decide +kernel, by decide +kernel⟩, List.mem_of_getElem? (i := 649) (by decide +kernel), List.mem_of_getElem? (i := 817) (by decide +kernel), List.mem_of_getElem? (i := 818) (by decide +kernel)⟩
theorem lw_p12 : lw_okq (⟨"DareBridgeModel", "toldSet", "(I)I"⟩, 46) := ⟨⟨by decide +kernel, by decide +kernel⟩, List.mem_of_getElem? (i := 649) (by decide +kernel), List.mem_of_getElem? (i := 831) (by decide +kernel), List.mem_of_getElem? (i := 832) (by decide +kernel)⟩
theorem lw_p13 : lw_okq (⟨"DareBridgeModel", "readsDare", "(II)Z"⟩, 46) := ⟨⟨by decide +kernel, by decide +kernel⟩, List.mem_of_getElem? (i := 649) (by decide +kernel), List.mem_of_getElem? (i := 849) (by decide +kernel), List.mem_of_getElem? (i := 850) (by decide +kernel)⟩
theorem lw_p14 : lw_okq (⟨"DareBridgeModel", "keepNow", "()V"⟩, 46) := ⟨⟨by decide +kernel, by decide +kernel⟩, List.mem_of_getElem? (i := 649) (by decide +kernel), List.mem_of_getElem? (i := 868) (by decide +kernel), List.mem_of_getElem? (i := 869) (by decide +kernel)⟩
theorem lw_p15 : lw_okq (⟨"DareBridgeModel", "goSummer", "()V"⟩, 46) := ⟨⟨by decide +kernel, by decide +kernel⟩, List.mem_of_getElem? (i := 649) (by decide +kernel), List.mem_of_getElem? (i := 872) (by decide +kernel), List.mem_of_getElem? (i := 873) (by decide +kernel)⟩
def lw_privs_1 : List (MethodName × Nat) := [(⟨"DareBridge", "playSummer", "()I"⟩, 10), (⟨"DareBridge$Summer", "begin", "(LDareBridge$Town;)V"⟩, 9), (⟨"DareBridge$Summer", "playDare", "([II)V"⟩, 9), (⟨"DareBridge$Summer", "reckon", "(II)V"⟩, 9), (⟨"DareBridge", "refusalOfHeight", "(II)I"⟩, 10), (⟨"DareBridge", "refusalOfClimb", "(IIII)I"⟩, 10), (⟨"DareBridge$Game", "settle", "(LDareBridge$Town;III)V"⟩, 3), (⟨"DareBridge$Game", "settleFor", "(III)V"⟩, 3), (⟨"DareBridge$Town", "joinedInRound", "(I)I"⟩, 13), (⟨"DareBridge$Year", "dare", "(II)V"⟩, 4), (⟨"DareBridge", "trait", "(II)I"⟩, 10), (⟨"DareBridgeModel", "isThere", "(I)Z"⟩, 46), (⟨"DareBridgeModel", "toldSet", "(I)I"⟩, 46), (⟨"DareBridgeModel", "readsDare", "(II)Z"⟩, 46), (⟨"DareBridgeModel", "keepNow", "()V"⟩, 46), (⟨"DareBridgeModel", "goSummer", "()V"⟩, 46)]
theorem lw_r1 : ∀ q ∈ lw_privs_1, lw_okq q := List.forall_mem_cons.mpr ⟨lw_p0, List.forall_mem_cons.mpr ⟨lw_p1, List.forall_mem_cons.mpr ⟨lw_p2, List.forall_mem_cons.mpr ⟨lw_p3, List.forall_mem_cons.mpr ⟨lw_p4, List.forall_mem_cons.mpr ⟨lw_p5, List.forall_mem_cons.mpr ⟨lw_p6, List.forall_mem_cons.mpr ⟨lw_p7, List.forall_mem_cons.mpr ⟨lw_p8, List.forall_mem_cons.mpr ⟨lw_p9, List.forall_mem_cons.mpr ⟨lw_p10, List.forall_mem_cons.mpr ⟨lw_p11, List.forall_mem_cons.mpr ⟨lw_p12, List.forall_mem_cons.mpr ⟨lw_p13, List.forall_mem_cons.mpr ⟨lw_p14, List.forall_mem_cons.mpr ⟨lw_p15, fun _ h => absurd h List.not_mem_nil⟩⟩⟩⟩⟩⟩⟩⟩⟩⟩⟩⟩⟩⟩⟩⟩
theorem lw_p16 : lw_okq (⟨"DareBridgeModel", "passNight", "()V"⟩, 46) := ⟨⟨by decide +kernel, by decide +kernel⟩, List.mem_of_getElem? (i := 649) (by decide +kernel), List.mem_of_getElem? (i := 876) (by decide +kernel), List.mem_of_getElem? (i := 877) (by decide +kernel)⟩
theorem lw_p17 : lw_okq (⟨"DareBridgeModel", "whyNot", "(III)I"⟩, 46) := ⟨⟨by decide +kernel, by decide +kernel⟩, List.mem_of_getElem? (i := 649) (by decide +kernel), List.mem_of_getElem? (i := 883) (by decide +kernel), List.mem_of_getElem? (i := 884) (by decide +kernel)⟩
theorem lw_p18 : lw_okq (⟨"DareBridgeModel", "happen", "(I)V"⟩, 46) := ⟨⟨by decide +kernel, by decide +kernel⟩, List.mem_of_getElem? (i := 649) (by decide +kernel), List.mem_of_getElem? (i := 887) (by decide +kernel), List.mem_of_getElem? (i := 888) (by decide +kernel)⟩
theorem lw_p19 : lw_okq (⟨"DareBridgeModel", "doIt", "(II)Z"⟩, 46) := ⟨⟨by decide +kernel, by decide +kernel⟩, List.mem_of_getElem? (i := 649) (by decide +kernel), List.mem_of_getElem? (i := 891) (by decide +kernel), List.mem_of_getElem? (i := 892) (by decide +kernel)⟩
theorem lw_p20 : lw_okq (⟨"DareBridgeModel", "draw", "()I"⟩, 46) := ⟨⟨by decide +kernel, by decide +kernel⟩, List.mem_of_getElem? (i := 649) (by decide +kernel), List.mem_of_getElem? (i := 895) (by decide +kernel), List.mem_of_getElem? (i := 896) (by decide +kernel)⟩
theorem lw_p21 : lw_okq (⟨"DareBridgeModel", "oddsOf", "(II)I"⟩, 46) := ⟨⟨by decide +kernel, by decide +kernel⟩, List.mem_of_getElem? (i := 649) (by decide +kernel), List.mem_of_getElem? (i := 902) (by decide +kernel), List.mem_of_getElem? (i := 903) (by decide +kernel)⟩
theorem lw_p22 : lw_okq (⟨"DareBridgeModel", "putBack", "()V"⟩, 46) := ⟨⟨by decide +kernel, by decide +kernel⟩, List.mem_of_getElem? (i := 649) (by decide +kernel), List.mem_of_getElem? (i := 906) (by decide +kernel), List.mem_of_getElem? (i := 907) (by decide +kernel)⟩
theorem lw_p23 : lw_okq (⟨"DareBridgeModel", "stateOf", "(II)I"⟩, 46) := ⟨⟨by decide +kernel, by decide +kernel⟩, List.mem_of_getElem? (i := 649) (by decide +kernel), List.mem_of_getElem? (i := 915) (by decide +kernel), List.mem_of_getElem? (i := 916) (by decide +kernel)⟩
theorem lw_p24 : lw_okq (⟨"DareBridgeModel", "refusal", "()I"⟩, 46) := ⟨⟨by decide +kernel, by decide +kernel⟩, List.mem_of_getElem? (i := 649) (by decide +kernel), List.mem_of_getElem? (i := 931) (by decide +kernel), List.mem_of_getElem? (i := 932) (by decide +kernel)⟩
theorem lw_p25 : lw_okq (⟨"DareBridgeModel", "daresOf", "(II)I"⟩, 46) := ⟨⟨by decide +kernel, by decide +kernel⟩, List.mem_of_getElem? (i := 649) (by decide +kernel), List.mem_of_getElem? (i := 935) (by decide +kernel), List.mem_of_getElem? (i := 936) (by decide +kernel)⟩
theorem lw_p26 : lw_okq (⟨"DareBridgeModel", "worthDone", "(II)I"⟩, 46) := ⟨⟨by decide +kernel, by decide +kernel⟩, List.mem_of_getElem? (i := 649) (by decide +kernel), List.mem_of_getElem? (i := 962) (by decide +kernel), List.mem_of_getElem? (i := 963) (by decide +kernel)⟩
theorem lw_p27 : lw_okq (⟨"DareBridgeModel", "doneBy", "(III)I"⟩, 46) := ⟨⟨by decide +kernel, by decide +kernel⟩, List.mem_of_getElem? (i := 649) (by decide +kernel), List.mem_of_getElem? (i := 966) (by decide +kernel), List.mem_of_getElem? (i := 967) (by decide +kernel)⟩
theorem lw_p28 : lw_okq (⟨"DareBridgeModel", "worthRefused", "(II)I"⟩, 46) := ⟨⟨by decide +kernel, by decide +kernel⟩, List.mem_of_getElem? (i := 649) (by decide +kernel), List.mem_of_getElem? (i := 970) (by decide +kernel), List.mem_of_getElem? (i := 971) (by decide +kernel)⟩
theorem lw_p29 : lw_okq (⟨"DareBridgeModel", "doesIt", "(II)Z"⟩, 46) := ⟨⟨by decide +kernel, by decide +kernel⟩, List.mem_of_getElem? (i := 649) (by decide +kernel), List.mem_of_getElem? (i := 981) (by decide +kernel), List.mem_of_getElem? (i := 982) (by decide +kernel)⟩
theorem lw_p30 : lw_okq (⟨"DareBridgeModel", "doesBy", "(III)Z"⟩, 46) := ⟨⟨by decide +kernel, by decide +kernel⟩, List.mem_of_getElem? (i := 649) (by decide +kernel), List.mem_of_getElem? (i := 985) (by decide +kernel), List.mem_of_getElem? (i := 986) (by decide +kernel)⟩
theorem lw_p31 : lw_okq (⟨"DareBridgeModel", "areTwo", "(II)Z"⟩, 46) := ⟨⟨by decide +kernel, by decide +kernel⟩, List.mem_of_getElem? (i := 649) (by decide +kernel), List.mem_of_getElem? (i := 997) (by decide +kernel), List.mem_of_getElem? (i := 998) (by decide +kernel)⟩
def lw_privs_2 : List (MethodName × Nat) := [(⟨"DareBridgeModel", "passNight", "()V"⟩, 46), (⟨"DareBridgeModel", "whyNot", "(III)I"⟩, 46), (⟨"DareBridgeModel", "happen", "(I)V"⟩, 46), (⟨"DareBridgeModel", "doIt", "(II)Z"⟩, 46), (⟨"DareBridgeModel", "draw", "()I"⟩, 46), (⟨"DareBridgeModel", "oddsOf", "(II)I"⟩, 46), (⟨"DareBridgeModel", "putBack", "()V"⟩, 46), (⟨"DareBridgeModel", "stateOf", "(II)I"⟩, 46), (⟨"DareBridgeModel", "refusal", "()I"⟩, 46), (⟨"DareBridgeModel", "daresOf", "(II)I"⟩, 46), (⟨"DareBridgeModel", "worthDone", "(II)I"⟩, 46), (⟨"DareBridgeModel", "doneBy", "(III)I"⟩, 46), (⟨"DareBridgeModel", "worthRefused", "(II)I"⟩, 46), (⟨"DareBridgeModel", "doesIt", "(II)Z"⟩, 46), (⟨"DareBridgeModel", "doesBy", "(III)Z"⟩, 46), (⟨"DareBridgeModel", "areTwo", "(II)Z"⟩, 46)]
theorem lw_r2 : ∀ q ∈ lw_privs_2, lw_okq q := List.forall_mem_cons.mpr ⟨lw_p16, List.forall_mem_cons.mpr ⟨lw_p17, List.forall_mem_cons.mpr ⟨lw_p18, List.forall_mem_cons.mpr ⟨lw_p19, List.forall_mem_cons.mpr ⟨lw_p20, List.forall_mem_cons.mpr ⟨lw_p21, List.forall_mem_cons.mpr ⟨lw_p22, List.forall_mem_cons.mpr ⟨lw_p23, List.forall_mem_cons.mpr ⟨lw_p24, List.forall_mem_cons.mpr ⟨lw_p25, List.forall_mem_cons.mpr ⟨lw_p26, List.forall_mem_cons.mpr ⟨lw_p27, List.forall_mem_cons.mpr ⟨lw_p28, List.forall_mem_cons.mpr ⟨lw_p29, List.forall_mem_cons.mpr ⟨lw_p30, List.forall_mem_cons.mpr ⟨lw_p31, fun _ h => absurd h List.not_mem_nil⟩⟩⟩⟩⟩⟩⟩⟩⟩⟩⟩⟩⟩⟩⟩⟩
theorem lw_p32 : lw_okq (⟨"DareBridgeModel", "climbUp", "(IIII)V"⟩, 46) := ⟨⟨by decide +kernel, by decide +kernel⟩, List.mem_of_getElem? (i := 649) (by decide +kernel), List.mem_of_getElem? (i := 1004) (by decide +kernel), List.mem_of_getElem? (i := 1005) (by decide +kernel)⟩
theorem lw_p33 : lw_okq (⟨"DareBridgeModel", "findGame", "(III)V"⟩, 46) := ⟨⟨by decide +kernel, by decide +kernel⟩, List.mem_of_getElem? (i := 649) (by decide +kernel), List.mem_of_getElem? (i := 1022) (by decide +kernel), List.mem_of_getElem? (i := 1023) (by decide +kernel)⟩
theorem lw_p34 : lw_okq (⟨"DareBridgeModel", "play", "(IIIIII)V"⟩, 46) := ⟨⟨by decide +kernel, by decide +kernel⟩, List.mem_of_getElem? (i := 649) (by decide +kernel), List.mem_of_getElem? (i := 1026) (by decide +kernel), List.mem_of_getElem? (i := 1027) (by decide +kernel)⟩
theorem lw_p35 : lw_okq (⟨"DareBridgeModel", "saidBy", "(I)I"⟩, 46) := ⟨⟨by decide +kernel, by decide +kernel⟩, List.mem_of_getElem? (i := 649) (by decide +kernel), List.mem_of_getElem? (i := 1034) (by decide +kernel), List.mem_of_getElem? (i := 1035) (by decide +kernel)⟩
theorem lw_p36 : lw_okq (⟨"DareBridgeModel", "isHeld", "(I)Z"⟩, 46) := ⟨⟨by decide +kernel, by decide +kernel⟩, List.mem_of_getElem? (i := 649) (by decide +kernel), List.mem_of_getElem? (i := 1042) (by decide +kernel), List.mem_of_getElem? (i := 1043) (by decide +kernel)⟩
theorem lw_p37 : lw_okq (⟨"DareBridgeModel", "without", "()I"⟩, 46) := ⟨⟨by decide +kernel, by decide +kernel⟩, List.mem_of_getElem? (i := 649) (by decide +kernel), List.mem_of_getElem? (i := 1050) (by decide +kernel), List.mem_of_getElem? (i := 1051) (by decide +kernel)⟩
theorem lw_p38 : lw_okq (⟨"DareBridgeModel", "holdsAll", "(II)Z"⟩, 46) := ⟨⟨by decide +kernel, by decide +kernel⟩, List.mem_of_getElem? (i := 649) (by decide +kernel), List.mem_of_getElem? (i := 1074) (by decide +kernel), List.mem_of_getElem? (i := 1075) (by decide +kernel)⟩
theorem lw_p39 : lw_okq (⟨"DareBridgeModel", "passAll", "()V"⟩, 46) := ⟨⟨by decide +kernel, by decide +kernel⟩, List.mem_of_getElem? (i := 649) (by decide +kernel), List.mem_of_getElem? (i := 1086) (by decide +kernel), List.mem_of_getElem? (i := 1087) (by decide +kernel)⟩
theorem lw_p40 : lw_okq (⟨"DareBridgeModel", "pass", "(I)I"⟩, 46) := ⟨⟨by decide +kernel, by decide +kernel⟩, List.mem_of_getElem? (i := 649) (by decide +kernel), List.mem_of_getElem? (i := 1090) (by decide +kernel), List.mem_of_getElem? (i := 1091) (by decide +kernel)⟩
def lw_privs_3 : List (MethodName × Nat) := [(⟨"DareBridgeModel", "climbUp", "(IIII)V"⟩, 46), (⟨"DareBridgeModel", "findGame", "(III)V"⟩, 46), (⟨"DareBridgeModel", "play", "(IIIIII)V"⟩, 46), (⟨"DareBridgeModel", "saidBy", "(I)I"⟩, 46), (⟨"DareBridgeModel", "isHeld", "(I)Z"⟩, 46), (⟨"DareBridgeModel", "without", "()I"⟩, 46), (⟨"DareBridgeModel", "holdsAll", "(II)Z"⟩, 46), (⟨"DareBridgeModel", "passAll", "()V"⟩, 46), (⟨"DareBridgeModel", "pass", "(I)I"⟩, 46)]
theorem lw_r3 : ∀ q ∈ lw_privs_3, lw_okq q := List.forall_mem_cons.mpr ⟨lw_p32, List.forall_mem_cons.mpr ⟨lw_p33, List.forall_mem_cons.mpr ⟨lw_p34, List.forall_mem_cons.mpr ⟨lw_p35, List.forall_mem_cons.mpr ⟨lw_p36, List.forall_mem_cons.mpr ⟨lw_p37, List.forall_mem_cons.mpr ⟨lw_p38, List.forall_mem_cons.mpr ⟨lw_p39, List.forall_mem_cons.mpr ⟨lw_p40, fun _ h => absurd h List.not_mem_nil⟩⟩⟩⟩⟩⟩⟩⟩⟩
def lw_privs : List (MethodName × Nat) := lw_privs_1 ++ (lw_privs_2 ++ (lw_privs_3))
def lw_tbl : List Cond := k2_sels lw_privs ++ tables_1
theorem lw_privs_ok : ∀ q ∈ lw_privs, lw_okq q := by
  show ∀ q ∈ lw_privs_1 ++ (lw_privs_2 ++ (lw_privs_3)), lw_okq q
  exact List.forall_mem_append.mpr ⟨lw_r1, List.forall_mem_append.mpr ⟨lw_r2, lw_r3⟩⟩
/-! ===== BEGIN words of one list among another's, by their places ===== -/
theorem goodIn_r {big : List Cond} (ws : List Cond) (ps : List Nat) (hp : ws = ps.filterMap (fun i => big[i]?)) (h : ws.all goodWord = true) : GoodIn big ws := by
  intro w hw
  have h1 := List.all_eq_true.mp h w hw
  rw [hp] at hw
  obtain ⟨i, -, hi⟩ := List.mem_filterMap.mp hw
  have hm : w ∈ big := by first | exact List.mem_of_getElem? hi | exact List.getElem?_mem hi
  exact ⟨hm, good_of_word h1⟩
theorem goodIn_app {big a b : List Cond} (ha : GoodIn big a) (hb : GoodIn big b) : GoodIn big (a ++ b) := fun w h => (List.mem_append.mp h).elim (ha w) (hb w)
theorem goodIn_ca {big a b : List Cond} {c : Cond} (ha : GoodIn big (c :: a)) (hb : GoodIn big b) : GoodIn big (c :: (a ++ b)) := fun w h => (List.mem_cons.mp h).elim (fun e => ha w (List.mem_cons.mpr (Or.inl e))) (fun h => (List.mem_append.mp h).elim (fun h => ha w (List.mem_cons.mpr (Or.inr h))) (hb w))
theorem goodIn_sub {big ws : List Cond} (hm : ∀ w ∈ ws, w ∈ big) (h : ws.all goodWord = true) : GoodIn big ws := fun w hw => ⟨hm w hw, good_of_word (List.all_eq_true.mp h w hw)⟩
/-! ===== END ===== -/

/-! ===== BEGIN printed: names, fields, word lists, decode rows ===== -/
def RX0 : String := "DareBridge$Chance"
def TX0 : u_T := fun k => match k with
  | 0 => ("DareBridge$Chance", "upper", "J", false)
  | _ => ("DareBridge$Chance", "lower", "J", false)
def tyX0 : Nat → FieldType := fun k => match k with
  | 0 => .long
  | _ => .long
abbrev wsX00 : List Cond := u_ws RX0 TX0 2
theorem nmX0 : ∀ a, a < 2 → ∀ b, b < 2 → a ≠ b → (TX0 a).2.1 ≠ (TX0 b).2.1 := by decide +kernel
theorem tyX0_ok : ∀ k, k < 2 → parseFieldDescriptor (TX0 k).2.2.1 = some (tyX0 k) := by decide +kernel
abbrev cX0_init : ByteArray := prog_2_method_1_code
def yX0_init : MethodName := ⟨RX0, "<init>", "()V"⟩
abbrev cX0_begin : ByteArray := prog_2_method_2_code
def yX0_begin : MethodName := ⟨RX0, "begin", "()V"⟩
abbrev cX0_goesWell : ByteArray := prog_2_method_3_code
def yX0_goesWell : MethodName := ⟨RX0, "goesWell", "(I)V"⟩
abbrev cX0_isAtLeast : ByteArray := prog_2_method_4_code
def yX0_isAtLeast : MethodName := ⟨RX0, "isAtLeast", "(II)Z"⟩
abbrev cX0_lowest : ByteArray := prog_2_method_5_code
def yX0_lowest : MethodName := ⟨RX0, "lowest", "(I)J"⟩
def RX1 : String := "DareBridge$Climb"
def TX1 : u_T := fun k => match k with
  | 0 => ("DareBridge$Climb", "luck", "LDareBridge$Chance;", true)
  | 1 => ("DareBridge$Climb", "done", "I", false)
  | 2 => ("DareBridge$Climb", "last", "I", false)
  | _ => ("DareBridge$Climb", "refuser", "I", false)
def tyX1 : Nat → FieldType := fun k => match k with
  | 0 => .object "DareBridge$Chance"
  | 1 => .int
  | 2 => .int
  | _ => .int
abbrev wsX10 : List Cond := u_ws RX1 TX1 4
theorem nmX1 : ∀ a, a < 4 → ∀ b, b < 4 → a ≠ b → (TX1 a).2.1 ≠ (TX1 b).2.1 := by decide +kernel
theorem tyX1_ok : ∀ k, k < 4 → parseFieldDescriptor (TX1 k).2.2.1 = some (tyX1 k) := by decide +kernel
abbrev cX1_init : ByteArray := prog_3_method_1_code
def yX1_init : MethodName := ⟨RX1, "<init>", "()V"⟩
abbrev cX1_go : ByteArray := prog_3_method_2_code
def yX1_go : MethodName := ⟨RX1, "go", "(LDareBridge$Town;IIII)V"⟩
def RX2 : String := "DareBridge$Game"
def TX2 : u_T := fun k => match k with
  | 0 => ("DareBridge$Game", "choice", "I", false)
  | 1 => ("DareBridge$Game", "toDared", "I", false)
  | _ => ("DareBridge$Game", "toDarer", "I", false)
def tyX2 : Nat → FieldType := fun k => match k with
  | 0 => .int
  | 1 => .int
  | _ => .int
abbrev wsX20 : List Cond := u_ws RX2 TX2 3
theorem nmX2 : ∀ a, a < 3 → ∀ b, b < 3 → a ≠ b → (TX2 a).2.1 ≠ (TX2 b).2.1 := by decide +kernel
theorem tyX2_ok : ∀ k, k < 3 → parseFieldDescriptor (TX2 k).2.2.1 = some (tyX2 k) := by decide +kernel
abbrev cX2_init : ByteArray := prog_4_method_1_code
def yX2_init : MethodName := ⟨RX2, "<init>", "()V"⟩
abbrev cX2_solve : ByteArray := prog_4_method_2_code
def yX2_solve : MethodName := ⟨RX2, "solve", "(LDareBridge$Town;IIII)V"⟩
abbrev cX2_settle : ByteArray := prog_4_method_3_code
def yX2_settle : MethodName := ⟨RX2, "settle", "(LDareBridge$Town;III)V"⟩
abbrev cX2_settleFor : ByteArray := prog_4_method_4_code
def yX2_settleFor : MethodName := ⟨RX2, "settleFor", "(III)V"⟩
def RX3 : String := "DareBridge$Pad"
def TX3 : u_T := fun k => match k with
  | 0 => ("DareBridge$Pad", "signs", "[I", true)
  | _ => ("DareBridge$Pad", "count", "I", false)
def tyX3 : Nat → FieldType := fun k => match k with
  | 0 => .array .int
  | _ => .int
abbrev wsX30 : List Cond := u_ws RX3 TX3 2
theorem nmX3 : ∀ a, a < 2 → ∀ b, b < 2 → a ≠ b → (TX3 a).2.1 ≠ (TX3 b).2.1 := by decide +kernel
theorem tyX3_ok : ∀ k, k < 2 → parseFieldDescriptor (TX3 k).2.2.1 = some (tyX3 k) := by decide +kernel
abbrev cX3_init : ByteArray := prog_5_method_1_code
def yX3_init : MethodName := ⟨RX3, "<init>", "()V"⟩
abbrev cX3_add : ByteArray := prog_5_method_2_code
def yX3_add : MethodName := ⟨RX3, "add", "(I)Z"⟩
abbrev cX3_clear : ByteArray := prog_5_method_3_code
def yX3_clear : MethodName := ⟨RX3, "clear", "()V"⟩
abbrev cX3_faultAt : ByteArray := prog_5_method_4_code
def yX3_faultAt : MethodName := ⟨RX3, "faultAt", "()I"⟩
abbrev cX3_canStand : ByteArray := prog_5_method_5_code
def yX3_canStand : MethodName := ⟨RX3, "canStand", "(III)Z"⟩
abbrev cX3_isLetter : ByteArray := prog_5_method_6_code
def yX3_isLetter : MethodName := ⟨RX3, "isLetter", "(I)Z"⟩
def RX4 : String := "DareBridge$Summer"
def TX4 : u_T := fun k => match k with
  | 0 => ("DareBridge$Summer", "after", "LDareBridge$Town;", true)
  | 1 => ("DareBridge$Summer", "ties", "[I", true)
  | 2 => ("DareBridge$Summer", "luck", "LDareBridge$Chance;", true)
  | 3 => ("DareBridge$Summer", "events", "I", false)
  | 4 => ("DareBridge$Summer", "why", "I", false)
  | 5 => ("DareBridge$Summer", "done", "I", false)
  | 6 => ("DareBridge$Summer", "refused", "I", false)
  | 7 => ("DareBridge$Summer", "doubled", "I", false)
  | _ => ("DareBridge$Summer", "heights", "I", false)
def tyX4 : Nat → FieldType := fun k => match k with
  | 0 => .object "DareBridge$Town"
  | 1 => .array .int
  | 2 => .object "DareBridge$Chance"
  | 3 => .int
  | 4 => .int
  | 5 => .int
  | 6 => .int
  | 7 => .int
  | _ => .int
abbrev wsX40 : List Cond := u_ws RX4 TX4 9
theorem nmX4 : ∀ a, a < 9 → ∀ b, b < 9 → a ≠ b → (TX4 a).2.1 ≠ (TX4 b).2.1 := by decide +kernel
theorem tyX4_ok : ∀ k, k < 9 → parseFieldDescriptor (TX4 k).2.2.1 = some (tyX4 k) := by decide +kernel
abbrev cX4_init : ByteArray := prog_6_method_1_code
def yX4_init : MethodName := ⟨RX4, "<init>", "()V"⟩
abbrev cX4_play : ByteArray := prog_6_method_2_code
def yX4_play : MethodName := ⟨RX4, "play", "(LDareBridge$Pad;LDareBridge$Town;)V"⟩
abbrev cX4_begin : ByteArray := prog_6_method_3_code
def yX4_begin : MethodName := ⟨RX4, "begin", "(LDareBridge$Town;)V"⟩
abbrev cX4_playDare : ByteArray := prog_6_method_4_code
def yX4_playDare : MethodName := ⟨RX4, "playDare", "([II)V"⟩
abbrev cX4_reckon : ByteArray := prog_6_method_5_code
def yX4_reckon : MethodName := ⟨RX4, "reckon", "(II)V"⟩
abbrev cX4_closest : ByteArray := prog_6_method_6_code
def yX4_closest : MethodName := ⟨RX4, "closest", "()I"⟩
def RX5 : String := "DareBridge$Town"
def TX5 : u_T := fun k => match k with
  | 0 => ("DareBridge$Town", "rules", "[I", true)
  | 1 => ("DareBridge$Town", "there", "[I", true)
  | 2 => ("DareBridge$Town", "skill", "[I", true)
  | 3 => ("DareBridge$Town", "fear", "[I", true)
  | 4 => ("DareBridge$Town", "pride", "[I", true)
  | 5 => ("DareBridge$Town", "wish", "[I", true)
  | 6 => ("DareBridge$Town", "high", "[I", true)
  | 7 => ("DareBridge$Town", "fame", "[I", true)
  | 8 => ("DareBridge$Town", "plaster", "[I", true)
  | 9 => ("DareBridge$Town", "sightOf", "[I", true)
  | 10 => ("DareBridge$Town", "sightHeight", "[I", true)
  | 11 => ("DareBridge$Town", "sightDid", "[I", true)
  | _ => ("DareBridge$Town", "sights", "I", false)
def tyX5 : Nat → FieldType := fun k => match k with
  | 0 => .array .int
  | 1 => .array .int
  | 2 => .array .int
  | 3 => .array .int
  | 4 => .array .int
  | 5 => .array .int
  | 6 => .array .int
  | 7 => .array .int
  | 8 => .array .int
  | 9 => .array .int
  | 10 => .array .int
  | 11 => .array .int
  | _ => .int
abbrev wsX50 : List Cond := u_ws RX5 TX5 13
theorem nmX5 : ∀ a, a < 13 → ∀ b, b < 13 → a ≠ b → (TX5 a).2.1 ≠ (TX5 b).2.1 := by decide +kernel
theorem tyX5_ok : ∀ k, k < 13 → parseFieldDescriptor (TX5 k).2.2.1 = some (tyX5 k) := by decide +kernel
abbrev cX5_init : ByteArray := prog_7_method_1_code
def yX5_init : MethodName := ⟨RX5, "<init>", "()V"⟩
abbrev cX5_copyFrom : ByteArray := prog_7_method_2_code
def yX5_copyFrom : MethodName := ⟨RX5, "copyFrom", "(LDareBridge$Town;)V"⟩
abbrev cX5_rule : ByteArray := prog_7_method_3_code
def yX5_rule : MethodName := ⟨RX5, "rule", "(I)I"⟩
abbrev cX5_isThere : ByteArray := prog_7_method_4_code
def yX5_isThere : MethodName := ⟨RX5, "isThere", "(I)Z"⟩
abbrev cX5_bits : ByteArray := prog_7_method_5_code
def yX5_bits : MethodName := ⟨RX5, "bits", "()I"⟩
abbrev cX5_come : ByteArray := prog_7_method_6_code
def yX5_come : MethodName := ⟨RX5, "come", "(IIIII)V"⟩
abbrev cX5_go : ByteArray := prog_7_method_7_code
def yX5_go : MethodName := ⟨RX5, "go", "(I)V"⟩
abbrev cX5_standing : ByteArray := prog_7_method_8_code
def yX5_standing : MethodName := ⟨RX5, "standing", "(II)I"⟩
abbrev cX5_oddsOf : ByteArray := prog_7_method_9_code
def yX5_oddsOf : MethodName := ⟨RX5, "oddsOf", "(II)I"⟩
abbrev cX5_prideOf : ByteArray := prog_7_method_10_code
def yX5_prideOf : MethodName := ⟨RX5, "prideOf", "(I)I"⟩
abbrev cX5_worthDone : ByteArray := prog_7_method_11_code
def yX5_worthDone : MethodName := ⟨RX5, "worthDone", "(III)I"⟩
abbrev cX5_worthRefused : ByteArray := prog_7_method_12_code
def yX5_worthRefused : MethodName := ⟨RX5, "worthRefused", "(II)I"⟩
abbrev cX5_dares : ByteArray := prog_7_method_13_code
def yX5_dares : MethodName := ⟨RX5, "dares", "(III)Z"⟩
abbrev cX5_leastRefused : ByteArray := prog_7_method_14_code
def yX5_leastRefused : MethodName := ⟨RX5, "leastRefused", "(I)I"⟩
abbrev cX5_surest : ByteArray := prog_7_method_15_code
def yX5_surest : MethodName := ⟨RX5, "surest", "(I)I"⟩
abbrev cX5_whyNot : ByteArray := prog_7_method_16_code
def yX5_whyNot : MethodName := ⟨RX5, "whyNot", "(III)I"⟩
abbrev cX5_perform : ByteArray := prog_7_method_17_code
def yX5_perform : MethodName := ⟨RX5, "perform", "(II)Z"⟩
abbrev cX5_refuse : ByteArray := prog_7_method_18_code
def yX5_refuse : MethodName := ⟨RX5, "refuse", "(II)V"⟩
abbrev cX5_night : ByteArray := prog_7_method_19_code
def yX5_night : MethodName := ⟨RX5, "night", "()V"⟩
abbrev cX5_wouldRefuse : ByteArray := prog_7_method_20_code
def yX5_wouldRefuse : MethodName := ⟨RX5, "wouldRefuse", "(II)Z"⟩
abbrev cX5_joined : ByteArray := prog_7_method_21_code
def yX5_joined : MethodName := ⟨RX5, "joined", "(I)I"⟩
abbrev cX5_joinedInRound : ByteArray := prog_7_method_22_code
def yX5_joinedInRound : MethodName := ⟨RX5, "joinedInRound", "(I)I"⟩
abbrev cX5_isMost : ByteArray := prog_7_method_23_code
def yX5_isMost : MethodName := ⟨RX5, "isMost", "(I)Z"⟩
abbrev cX5_fewestToHold : ByteArray := prog_7_method_24_code
def yX5_fewestToHold : MethodName := ⟨RX5, "fewestToHold", "()I"⟩
abbrev cX5_see : ByteArray := prog_7_method_25_code
def yX5_see : MethodName := ⟨RX5, "see", "(III)Z"⟩
abbrev cX5_fitsSights : ByteArray := prog_7_method_26_code
def yX5_fitsSights : MethodName := ⟨RX5, "fitsSights", "(II)Z"⟩
def RX6 : String := "DareBridge$Year"
def TX6 : u_T := fun k => match k with
  | 0 => ("DareBridge$Year", "town", "LDareBridge$Town;", true)
  | 1 => ("DareBridge$Year", "done", "I", false)
  | 2 => ("DareBridge$Year", "refused", "I", false)
  | _ => ("DareBridge$Year", "hurt", "I", false)
def tyX6 : Nat → FieldType := fun k => match k with
  | 0 => .object "DareBridge$Town"
  | 1 => .int
  | 2 => .int
  | _ => .int
abbrev wsX60 : List Cond := u_ws RX6 TX6 4
theorem nmX6 : ∀ a, a < 4 → ∀ b, b < 4 → a ≠ b → (TX6 a).2.1 ≠ (TX6 b).2.1 := by decide +kernel
theorem tyX6_ok : ∀ k, k < 4 → parseFieldDescriptor (TX6 k).2.2.1 = some (tyX6 k) := by decide +kernel
abbrev cX6_init : ByteArray := prog_8_method_1_code
def yX6_init : MethodName := ⟨RX6, "<init>", "()V"⟩
abbrev cX6_pass : ByteArray := prog_8_method_2_code
def yX6_pass : MethodName := ⟨RX6, "pass", "(LDareBridge$Town;II)V"⟩
abbrev cX6_dare : ByteArray := prog_8_method_3_code
def yX6_dare : MethodName := ⟨RX6, "dare", "(II)V"⟩
def RX7 : String := "DareBridge"
def TX7 : u_T := fun k => match k with
  | 0 => ("DareBridge", "now", "LDareBridge$Town;", true)
  | 1 => ("DareBridge", "firstImage", "LDareBridge$Town;", true)
  | 2 => ("DareBridge", "secondImage", "LDareBridge$Town;", true)
  | 3 => ("DareBridge", "firstKept", "Z", false)
  | 4 => ("DareBridge", "secondKept", "Z", false)
  | 5 => ("DareBridge", "pad", "LDareBridge$Pad;", true)
  | 6 => ("DareBridge", "summer", "LDareBridge$Summer;", true)
  | 7 => ("DareBridge", "climbing", "LDareBridge$Climb;", true)
  | 8 => ("DareBridge", "doubling", "LDareBridge$Game;", true)
  | _ => ("DareBridge", "years", "LDareBridge$Year;", true)
def tyX7 : Nat → FieldType := fun k => match k with
  | 0 => .object "DareBridge$Town"
  | 1 => .object "DareBridge$Town"
  | 2 => .object "DareBridge$Town"
  | 3 => .boolean
  | 4 => .boolean
  | 5 => .object "DareBridge$Pad"
  | 6 => .object "DareBridge$Summer"
  | 7 => .object "DareBridge$Climb"
  | 8 => .object "DareBridge$Game"
  | _ => .object "DareBridge$Year"
abbrev wsX70 : List Cond := u_ws RX7 TX7 10
theorem nmX7 : ∀ a, a < 10 → ∀ b, b < 10 → a ≠ b → (TX7 a).2.1 ≠ (TX7 b).2.1 := by decide +kernel
theorem tyX7_ok : ∀ k, k < 10 → parseFieldDescriptor (TX7 k).2.2.1 = some (tyX7 k) := by decide +kernel
abbrev cX7_init : ByteArray := prog_1_method_1_code
def yX7_init : MethodName := ⟨RX7, "<init>", "()V"⟩
abbrev cX7_person : ByteArray := prog_1_method_2_code
def yX7_person : MethodName := ⟨RX7, "person", "(IIIIZ)I"⟩
abbrev cX7_leave : ByteArray := prog_1_method_3_code
def yX7_leave : MethodName := ⟨RX7, "leave", "(I)I"⟩
abbrev cX7_set : ByteArray := prog_1_method_4_code
def yX7_set : MethodName := ⟨RX7, "set", "(II)I"⟩
abbrev cX7_say : ByteArray := prog_1_method_5_code
def yX7_say : MethodName := ⟨RX7, "say", "(I)I"⟩
abbrev cX7_wipe : ByteArray := prog_1_method_6_code
def yX7_wipe : MethodName := ⟨RX7, "wipe", "()I"⟩
abbrev cX7_fault : ByteArray := prog_1_method_7_code
def yX7_fault : MethodName := ⟨RX7, "fault", "()I"⟩
abbrev cX7_judge : ByteArray := prog_1_method_8_code
def yX7_judge : MethodName := ⟨RX7, "judge", "(I)I"⟩
abbrev cX7_state : ByteArray := prog_1_method_9_code
def yX7_state : MethodName := ⟨RX7, "state", "(II)I"⟩
abbrev cX7_behind : ByteArray := prog_1_method_10_code
def yX7_behind : MethodName := ⟨RX7, "behind", "(II)I"⟩
abbrev cX7_done : ByteArray := prog_1_method_11_code
def yX7_done : MethodName := ⟨RX7, "done", "()I"⟩
abbrev cX7_ties : ByteArray := prog_1_method_12_code
def yX7_ties : MethodName := ⟨RX7, "ties", "(I)I"⟩
abbrev cX7_unhurt : ByteArray := prog_1_method_13_code
def yX7_unhurt : MethodName := ⟨RX7, "unhurt", "(I)J"⟩
abbrev cX7_odds : ByteArray := prog_1_method_14_code
def yX7_odds : MethodName := ⟨RX7, "odds", "(II)I"⟩
abbrev cX7_worth : ByteArray := prog_1_method_15_code
def yX7_worth : MethodName := ⟨RX7, "worth", "(III)I"⟩
abbrev cX7_does : ByteArray := prog_1_method_16_code
def yX7_does : MethodName := ⟨RX7, "does", "(II)I"⟩
abbrev cX7_nerve : ByteArray := prog_1_method_17_code
def yX7_nerve : MethodName := ⟨RX7, "nerve", "(II)I"⟩
abbrev cX7_climb : ByteArray := prog_1_method_18_code
def yX7_climb : MethodName := ⟨RX7, "climb", "(IIIII)I"⟩
abbrev cX7_safe : ByteArray := prog_1_method_19_code
def yX7_safe : MethodName := ⟨RX7, "safe", "(IIIII)J"⟩
abbrev cX7_law : ByteArray := prog_1_method_20_code
def yX7_law : MethodName := ⟨RX7, "law", "(IIIII)I"⟩
abbrev cX7_game : ByteArray := prog_1_method_21_code
def yX7_game : MethodName := ⟨RX7, "game", "(IIIII)I"⟩
abbrev cX7_enough : ByteArray := prog_1_method_22_code
def yX7_enough : MethodName := ⟨RX7, "enough", "(I)I"⟩
abbrev cX7_holds : ByteArray := prog_1_method_23_code
def yX7_holds : MethodName := ⟨RX7, "holds", "(I)I"⟩
abbrev cX7_won : ByteArray := prog_1_method_24_code
def yX7_won : MethodName := ⟨RX7, "won", "(I)I"⟩
abbrev cX7_refuser : ByteArray := prog_1_method_25_code
def yX7_refuser : MethodName := ⟨RX7, "refuser", "(II)I"⟩
abbrev cX7_likely : ByteArray := prog_1_method_26_code
def yX7_likely : MethodName := ⟨RX7, "likely", "(II)I"⟩
abbrev cX7_seen : ByteArray := prog_1_method_27_code
def yX7_seen : MethodName := ⟨RX7, "seen", "(III)I"⟩
abbrev cX7_forget : ByteArray := prog_1_method_28_code
def yX7_forget : MethodName := ⟨RX7, "forget", "()I"⟩
abbrev cX7_prides : ByteArray := prog_1_method_29_code
def yX7_prides : MethodName := ⟨RX7, "prides", "(II)I"⟩
abbrev cX7_year : ByteArray := prog_1_method_30_code
def yX7_year : MethodName := ⟨RX7, "year", "(III)I"⟩
abbrev cX7_image : ByteArray := prog_1_method_31_code
def yX7_image : MethodName := ⟨RX7, "image", "(I)I"⟩
abbrev cX7_restore : ByteArray := prog_1_method_32_code
def yX7_restore : MethodName := ⟨RX7, "restore", "(I)I"⟩
abbrev cX7_told : ByteArray := prog_1_method_33_code
def yX7_told : MethodName := ⟨RX7, "told", "(I)I"⟩
abbrev cX7_trait : ByteArray := prog_1_method_34_code
def yX7_trait : MethodName := ⟨RX7, "trait", "(II)I"⟩
abbrev cX7_playSummer : ByteArray := prog_1_method_35_code
def yX7_playSummer : MethodName := ⟨RX7, "playSummer", "()I"⟩
abbrev cX7_refusalOfHeight : ByteArray := prog_1_method_36_code
def yX7_refusalOfHeight : MethodName := ⟨RX7, "refusalOfHeight", "(II)I"⟩
abbrev cX7_refusalOfClimb : ByteArray := prog_1_method_37_code
def yX7_refusalOfClimb : MethodName := ⟨RX7, "refusalOfClimb", "(IIII)I"⟩
abbrev cX7_within : ByteArray := prog_1_method_38_code
def yX7_within : MethodName := ⟨RX7, "within", "(III)Z"⟩
abbrev cX7_at : ByteArray := prog_1_method_39_code
def yX7_at : MethodName := ⟨RX7, "at", "([II)I"⟩
abbrev cX7_put : ByteArray := prog_1_method_40_code
def yX7_put : MethodName := ⟨RX7, "put", "([III)V"⟩
abbrev cX7_copyRow : ByteArray := prog_1_method_41_code
def yX7_copyRow : MethodName := ⟨RX7, "copyRow", "([I[I)V"⟩
abbrev cX7_drawAfter : ByteArray := prog_1_method_42_code
def yX7_drawAfter : MethodName := ⟨RX7, "drawAfter", "(I)I"⟩
def RX8 : String := "DareBridgeModel"
def TX8 : u_T := fun k => match k with
  | 0 => ("DareBridgeModel", "people", "I", false)
  | 1 => ("DareBridgeModel", "skill", "[I", true)
  | 2 => ("DareBridgeModel", "fear", "[I", true)
  | 3 => ("DareBridgeModel", "pride", "[I", true)
  | 4 => ("DareBridgeModel", "wish", "[I", true)
  | 5 => ("DareBridgeModel", "high", "[I", true)
  | 6 => ("DareBridgeModel", "fame", "[I", true)
  | 7 => ("DareBridgeModel", "nights", "[I", true)
  | 8 => ("DareBridgeModel", "step", "I", false)
  | 9 => ("DareBridgeModel", "start", "I", false)
  | 10 => ("DareBridgeModel", "cost", "I", false)
  | 11 => ("DareBridgeModel", "fade", "I", false)
  | 12 => ("DareBridgeModel", "plaster", "I", false)
  | 13 => ("DareBridgeModel", "wet", "I", false)
  | 14 => ("DareBridgeModel", "x", "I", false)
  | 15 => ("DareBridgeModel", "sightOf", "[I", true)
  | 16 => ("DareBridgeModel", "sightHeight", "[I", true)
  | 17 => ("DareBridgeModel", "sightDid", "[I", true)
  | 18 => ("DareBridgeModel", "sights", "I", false)
  | 19 => ("DareBridgeModel", "pad", "[I", true)
  | 20 => ("DareBridgeModel", "padMany", "I", false)
  | 21 => ("DareBridgeModel", "sort", "[I", true)
  | 22 => ("DareBridgeModel", "who", "[I", true)
  | 23 => ("DareBridgeModel", "whom", "[I", true)
  | 24 => ("DareBridgeModel", "height", "[I", true)
  | 25 => ("DareBridgeModel", "events", "I", false)
  | 26 => ("DareBridgeModel", "badEvent", "I", false)
  | 27 => ("DareBridgeModel", "badWhy", "I", false)
  | 28 => ("DareBridgeModel", "did", "I", false)
  | 29 => ("DareBridgeModel", "refused", "I", false)
  | 30 => ("DareBridgeModel", "doubled", "I", false)
  | 31 => ("DareBridgeModel", "hadHigh", "[I", true)
  | 32 => ("DareBridgeModel", "hadFame", "[I", true)
  | 33 => ("DareBridgeModel", "hadNights", "[I", true)
  | 34 => ("DareBridgeModel", "hadX", "I", false)
  | 35 => ("DareBridgeModel", "climbed", "I", false)
  | 36 => ("DareBridgeModel", "lastHeight", "I", false)
  | 37 => ("DareBridgeModel", "refuses", "I", false)
  | 38 => ("DareBridgeModel", "safeWays", "J", false)
  | 39 => ("DareBridgeModel", "act", "[I", true)
  | 40 => ("DareBridgeModel", "toDared", "[I", true)
  | 41 => ("DareBridgeModel", "toOther", "[I", true)
  | 42 => ("DareBridgeModel", "kept", "[I", true)
  | 43 => ("DareBridgeModel", "isKept", "[Z", true)
  | 44 => ("DareBridgeModel", "keptAt", "I", false)
  | _ => ("DareBridgeModel", "isWriting", "Z", false)
def tyX8 : Nat → FieldType := fun k => match k with
  | 0 => .int
  | 1 => .array .int
  | 2 => .array .int
  | 3 => .array .int
  | 4 => .array .int
  | 5 => .array .int
  | 6 => .array .int
  | 7 => .array .int
  | 8 => .int
  | 9 => .int
  | 10 => .int
  | 11 => .int
  | 12 => .int
  | 13 => .int
  | 14 => .int
  | 15 => .array .int
  | 16 => .array .int
  | 17 => .array .int
  | 18 => .int
  | 19 => .array .int
  | 20 => .int
  | 21 => .array .int
  | 22 => .array .int
  | 23 => .array .int
  | 24 => .array .int
  | 25 => .int
  | 26 => .int
  | 27 => .int
  | 28 => .int
  | 29 => .int
  | 30 => .int
  | 31 => .array .int
  | 32 => .array .int
  | 33 => .array .int
  | 34 => .int
  | 35 => .int
  | 36 => .int
  | 37 => .int
  | 38 => .long
  | 39 => .array .int
  | 40 => .array .int
  | 41 => .array .int
  | 42 => .array .int
  | 43 => .array .boolean
  | 44 => .int
  | _ => .boolean
abbrev wsX80 : List Cond := u_ws RX8 TX8 46
theorem nmX8 : ∀ a, a < 46 → ∀ b, b < 46 → a ≠ b → (TX8 a).2.1 ≠ (TX8 b).2.1 := by decide +kernel
theorem tyX8_ok : ∀ k, k < 46 → parseFieldDescriptor (TX8 k).2.2.1 = some (tyX8 k) := by decide +kernel
abbrev cX8_init : ByteArray := prog_10_method_1_code
def yX8_init : MethodName := ⟨RX8, "<init>", "()V"⟩
abbrev cX8_in : ByteArray := prog_10_method_3_code
def yX8_in : MethodName := ⟨RX8, "in", "(JJJ)Z"⟩
abbrev cX8_ones : ByteArray := prog_10_method_4_code
def yX8_ones : MethodName := ⟨RX8, "ones", "(I)I"⟩
abbrev cX8_most : ByteArray := prog_10_method_5_code
def yX8_most : MethodName := ⟨RX8, "most", "(II)I"⟩
abbrev cX8_isNumber : ByteArray := prog_10_method_6_code
def yX8_isNumber : MethodName := ⟨RX8, "isNumber", "(I)Z"⟩
abbrev cX8_isThere : ByteArray := prog_10_method_7_code
def yX8_isThere : MethodName := ⟨RX8, "isThere", "(I)Z"⟩
abbrev cX8_isNine : ByteArray := prog_10_method_8_code
def yX8_isNine : MethodName := ⟨RX8, "isNine", "(I)Z"⟩
abbrev cX8_isHeight : ByteArray := prog_10_method_9_code
def yX8_isHeight : MethodName := ⟨RX8, "isHeight", "(I)Z"⟩
abbrev cX8_person : ByteArray := prog_10_method_10_code
def yX8_person : MethodName := ⟨RX8, "person", "(IIIIZ)I"⟩
abbrev cX8_leave : ByteArray := prog_10_method_11_code
def yX8_leave : MethodName := ⟨RX8, "leave", "(I)I"⟩
abbrev cX8_maySet : ByteArray := prog_10_method_12_code
def yX8_maySet : MethodName := ⟨RX8, "maySet", "(II)Z"⟩
abbrev cX8_toldSet : ByteArray := prog_10_method_13_code
def yX8_toldSet : MethodName := ⟨RX8, "toldSet", "(I)I"⟩
abbrev cX8_set : ByteArray := prog_10_method_14_code
def yX8_set : MethodName := ⟨RX8, "set", "(II)I"⟩
abbrev cX8_say : ByteArray := prog_10_method_15_code
def yX8_say : MethodName := ⟨RX8, "say", "(I)I"⟩
abbrev cX8_wipe : ByteArray := prog_10_method_16_code
def yX8_wipe : MethodName := ⟨RX8, "wipe", "()I"⟩
abbrev cX8_readsDare : ByteArray := prog_10_method_17_code
def yX8_readsDare : MethodName := ⟨RX8, "readsDare", "(II)Z"⟩
abbrev cX8_fault : ByteArray := prog_10_method_18_code
def yX8_fault : MethodName := ⟨RX8, "fault", "()I"⟩
abbrev cX8_oddsOf : ByteArray := prog_10_method_19_code
def yX8_oddsOf : MethodName := ⟨RX8, "oddsOf", "(II)I"⟩
abbrev cX8_draw : ByteArray := prog_10_method_20_code
def yX8_draw : MethodName := ⟨RX8, "draw", "()I"⟩
abbrev cX8_doIt : ByteArray := prog_10_method_21_code
def yX8_doIt : MethodName := ⟨RX8, "doIt", "(II)Z"⟩
abbrev cX8_passNight : ByteArray := prog_10_method_22_code
def yX8_passNight : MethodName := ⟨RX8, "passNight", "()V"⟩
abbrev cX8_whyNot : ByteArray := prog_10_method_23_code
def yX8_whyNot : MethodName := ⟨RX8, "whyNot", "(III)I"⟩
abbrev cX8_happen : ByteArray := prog_10_method_24_code
def yX8_happen : MethodName := ⟨RX8, "happen", "(I)V"⟩
abbrev cX8_keepNow : ByteArray := prog_10_method_25_code
def yX8_keepNow : MethodName := ⟨RX8, "keepNow", "()V"⟩
abbrev cX8_putBack : ByteArray := prog_10_method_26_code
def yX8_putBack : MethodName := ⟨RX8, "putBack", "()V"⟩
abbrev cX8_goSummer : ByteArray := prog_10_method_27_code
def yX8_goSummer : MethodName := ⟨RX8, "goSummer", "()V"⟩
abbrev cX8_judge : ByteArray := prog_10_method_28_code
def yX8_judge : MethodName := ⟨RX8, "judge", "(I)I"⟩
abbrev cX8_stateOf : ByteArray := prog_10_method_29_code
def yX8_stateOf : MethodName := ⟨RX8, "stateOf", "(II)I"⟩
abbrev cX8_state : ByteArray := prog_10_method_30_code
def yX8_state : MethodName := ⟨RX8, "state", "(II)I"⟩
abbrev cX8_behind : ByteArray := prog_10_method_31_code
def yX8_behind : MethodName := ⟨RX8, "behind", "(II)I"⟩
abbrev cX8_done : ByteArray := prog_10_method_32_code
def yX8_done : MethodName := ⟨RX8, "done", "()I"⟩
abbrev cX8_refusal : ByteArray := prog_10_method_33_code
def yX8_refusal : MethodName := ⟨RX8, "refusal", "()I"⟩
abbrev cX8_daresOf : ByteArray := prog_10_method_34_code
def yX8_daresOf : MethodName := ⟨RX8, "daresOf", "(II)I"⟩
abbrev cX8_ties : ByteArray := prog_10_method_35_code
def yX8_ties : MethodName := ⟨RX8, "ties", "(I)I"⟩
abbrev cX8_lowest : ByteArray := prog_10_method_36_code
def yX8_lowest : MethodName := ⟨RX8, "lowest", "(JJI)J"⟩
abbrev cX8_tens : ByteArray := prog_10_method_37_code
def yX8_tens : MethodName := ⟨RX8, "tens", "(I)J"⟩
abbrev cX8_unhurt : ByteArray := prog_10_method_38_code
def yX8_unhurt : MethodName := ⟨RX8, "unhurt", "(I)J"⟩
abbrev cX8_odds : ByteArray := prog_10_method_39_code
def yX8_odds : MethodName := ⟨RX8, "odds", "(II)I"⟩
abbrev cX8_doneBy : ByteArray := prog_10_method_40_code
def yX8_doneBy : MethodName := ⟨RX8, "doneBy", "(III)I"⟩
abbrev cX8_refusedBy : ByteArray := prog_10_method_41_code
def yX8_refusedBy : MethodName := ⟨RX8, "refusedBy", "(II)I"⟩
abbrev cX8_worthDone : ByteArray := prog_10_method_42_code
def yX8_worthDone : MethodName := ⟨RX8, "worthDone", "(II)I"⟩
abbrev cX8_worthRefused : ByteArray := prog_10_method_43_code
def yX8_worthRefused : MethodName := ⟨RX8, "worthRefused", "(II)I"⟩
abbrev cX8_doesBy : ByteArray := prog_10_method_44_code
def yX8_doesBy : MethodName := ⟨RX8, "doesBy", "(III)Z"⟩
abbrev cX8_doesIt : ByteArray := prog_10_method_45_code
def yX8_doesIt : MethodName := ⟨RX8, "doesIt", "(II)Z"⟩
abbrev cX8_worth : ByteArray := prog_10_method_46_code
def yX8_worth : MethodName := ⟨RX8, "worth", "(III)I"⟩
abbrev cX8_does : ByteArray := prog_10_method_47_code
def yX8_does : MethodName := ⟨RX8, "does", "(II)I"⟩
abbrev cX8_nerve : ByteArray := prog_10_method_48_code
def yX8_nerve : MethodName := ⟨RX8, "nerve", "(II)I"⟩
abbrev cX8_climbUp : ByteArray := prog_10_method_49_code
def yX8_climbUp : MethodName := ⟨RX8, "climbUp", "(IIII)V"⟩
abbrev cX8_areTwo : ByteArray := prog_10_method_50_code
def yX8_areTwo : MethodName := ⟨RX8, "areTwo", "(II)Z"⟩
abbrev cX8_isClimb : ByteArray := prog_10_method_51_code
def yX8_isClimb : MethodName := ⟨RX8, "isClimb", "(II)Z"⟩
abbrev cX8_climb : ByteArray := prog_10_method_52_code
def yX8_climb : MethodName := ⟨RX8, "climb", "(IIIII)I"⟩
abbrev cX8_safe : ByteArray := prog_10_method_53_code
def yX8_safe : MethodName := ⟨RX8, "safe", "(IIIII)J"⟩
abbrev cX8_law : ByteArray := prog_10_method_54_code
def yX8_law : MethodName := ⟨RX8, "law", "(IIIII)I"⟩
abbrev cX8_findGame : ByteArray := prog_10_method_55_code
def yX8_findGame : MethodName := ⟨RX8, "findGame", "(III)V"⟩
abbrev cX8_play : ByteArray := prog_10_method_56_code
def yX8_play : MethodName := ⟨RX8, "play", "(IIIIII)V"⟩
abbrev cX8_game : ByteArray := prog_10_method_57_code
def yX8_game : MethodName := ⟨RX8, "game", "(IIIII)I"⟩
abbrev cX8_saidBy : ByteArray := prog_10_method_58_code
def yX8_saidBy : MethodName := ⟨RX8, "saidBy", "(I)I"⟩
abbrev cX8_isHeld : ByteArray := prog_10_method_59_code
def yX8_isHeld : MethodName := ⟨RX8, "isHeld", "(I)Z"⟩
abbrev cX8_enough : ByteArray := prog_10_method_60_code
def yX8_enough : MethodName := ⟨RX8, "enough", "(I)I"⟩
abbrev cX8_holds : ByteArray := prog_10_method_61_code
def yX8_holds : MethodName := ⟨RX8, "holds", "(I)I"⟩
abbrev cX8_without : ByteArray := prog_10_method_62_code
def yX8_without : MethodName := ⟨RX8, "without", "()I"⟩
abbrev cX8_won : ByteArray := prog_10_method_63_code
def yX8_won : MethodName := ⟨RX8, "won", "(I)I"⟩
abbrev cX8_refuser : ByteArray := prog_10_method_64_code
def yX8_refuser : MethodName := ⟨RX8, "refuser", "(II)I"⟩
abbrev cX8_likely : ByteArray := prog_10_method_65_code
def yX8_likely : MethodName := ⟨RX8, "likely", "(II)I"⟩
abbrev cX8_seen : ByteArray := prog_10_method_66_code
def yX8_seen : MethodName := ⟨RX8, "seen", "(III)I"⟩
abbrev cX8_forget : ByteArray := prog_10_method_67_code
def yX8_forget : MethodName := ⟨RX8, "forget", "()I"⟩
abbrev cX8_holdsAll : ByteArray := prog_10_method_68_code
def yX8_holdsAll : MethodName := ⟨RX8, "holdsAll", "(II)Z"⟩
abbrev cX8_prides : ByteArray := prog_10_method_69_code
def yX8_prides : MethodName := ⟨RX8, "prides", "(II)I"⟩
abbrev cX8_year : ByteArray := prog_10_method_70_code
def yX8_year : MethodName := ⟨RX8, "year", "(III)I"⟩
abbrev cX8_pass : ByteArray := prog_10_method_71_code
def yX8_pass : MethodName := ⟨RX8, "pass", "(I)I"⟩
abbrev cX8_passAll : ByteArray := prog_10_method_72_code
def yX8_passAll : MethodName := ⟨RX8, "passAll", "()V"⟩
abbrev cX8_image : ByteArray := prog_10_method_73_code
def yX8_image : MethodName := ⟨RX8, "image", "(I)I"⟩
abbrev cX8_restore : ByteArray := prog_10_method_74_code
def yX8_restore : MethodName := ⟨RX8, "restore", "(I)I"⟩
abbrev cX8_told : ByteArray := prog_10_method_75_code
def yX8_told : MethodName := ⟨RX8, "told", "(I)I"⟩
def RJ6 : String := "java/lang/Integer"
def TJ6 : u_T := fun k => match k with
  | _ => ("", "", "", false)
def tyJ6 : Nat → FieldType := fun k => match k with
  | _ => .int
abbrev wsJ60 : List Cond := u_ws RJ6 TJ6 0
theorem nmJ6 : ∀ a, a < 0 → ∀ b, b < 0 → a ≠ b → (TJ6 a).2.1 ≠ (TJ6 b).2.1 := by decide +kernel
theorem tyJ6_ok : ∀ k, k < 0 → parseFieldDescriptor (TJ6 k).2.2.1 = some (tyJ6 k) := by decide +kernel
abbrev cJ6_bitCount_0f7a4 : ByteArray := prog_11_method_49_code
def yJ6_bitCount_0f7a4 : MethodName := ⟨RJ6, "bitCount", "(I)I"⟩
def RJ9 : String := "java/lang/Math"
def TJ9 : u_T := fun k => match k with
  | _ => ("", "", "", false)
def tyJ9 : Nat → FieldType := fun k => match k with
  | _ => .int
abbrev wsJ90 : List Cond := u_ws RJ9 TJ9 0
theorem nmJ9 : ∀ a, a < 0 → ∀ b, b < 0 → a ≠ b → (TJ9 a).2.1 ≠ (TJ9 b).2.1 := by decide +kernel
theorem tyJ9_ok : ∀ k, k < 0 → parseFieldDescriptor (TJ9 k).2.2.1 = some (tyJ9 k) := by decide +kernel
abbrev cJ9_max_7cf53 : ByteArray := prog_12_method_65_code
def yJ9_max_7cf53 : MethodName := ⟨RJ9, "max", "(II)I"⟩
abbrev cJ9_min_7cf53 : ByteArray := prog_12_method_69_code
def yJ9_min_7cf53 : MethodName := ⟨RJ9, "min", "(II)I"⟩
def RL : String := "DareBridgeLaw"
abbrev cL_law : ByteArray := code
def yL_law : MethodName := ⟨RL, "law", "([I)Z"⟩
def wsX0_init : List Cond := .code yX0_init cX0_init 1 none :: ([.methodLink RX0 1 objectInit, .instanceMethod objectInit, .code objectInit ⟨#[0xb1]⟩ 1 none, .fieldLink RX0 7 "DareBridge$Chance" "upper" "J", .fieldLink RX0 13 "DareBridge$Chance" "lower" "J"] ++ wsX00)
def wsX0_begin : List Cond := .code yX0_begin cX0_begin 1 none :: ([.fieldLink RX0 7 "DareBridge$Chance" "upper" "J", .fieldLink RX0 13 "DareBridge$Chance" "lower" "J"] ++ wsX00)
def wsX0_goesWell : List Cond := .code yX0_goesWell cX0_goesWell 2 none :: ([.fieldLink RX0 7 "DareBridge$Chance" "upper" "J", .fieldLink RX0 13 "DareBridge$Chance" "lower" "J", .constantLong RX0 16 (10)] ++ wsX00)
def wsX0_isAtLeast : List Cond := .code yX0_isAtLeast cX0_isAtLeast 3 (some .boolean) :: ([.fieldLink RX0 7 "DareBridge$Chance" "upper" "J", .fieldLink RX0 13 "DareBridge$Chance" "lower" "J"] ++ wsX00)
def wsX0_lowest : List Cond := .code yX0_lowest cX0_lowest 9 (some .long) :: ([.fieldLink RX0 13 "DareBridge$Chance" "lower" "J", .fieldLink RX0 7 "DareBridge$Chance" "upper" "J"] ++ wsX00)
def wsX1_init : List Cond := .code yX1_init cX1_init 1 none :: ([.methodLink RX1 3 objectInit, .instanceMethod objectInit, .code objectInit ⟨#[0xb1]⟩ 1 none, .classLink RX1 9 RX0, .instantiable RX0 2, .initialized RX0, .fieldLink RX1 12 "DareBridge$Climb" "luck" "LDareBridge$Chance;", .instanceMethod yX0_init, .code yX0_init cX0_init 1 none, .methodLink RX0 1 objectInit, .fieldLink RX0 7 "DareBridge$Chance" "upper" "J", .fieldLink RX0 13 "DareBridge$Chance" "lower" "J"] ++ wsX00 ++ wsX10)
def wsX7_at : List Cond := .code yX7_at cX7_at 2 (some .int) :: ([])
def wsX5_rule : List Cond := .code yX5_rule cX5_rule 2 (some .int) :: ([.fieldLink RX5 9 "DareBridge$Town" "rules" "[I", .static yX7_at, .initialized RX7, .code yX7_at cX7_at 2 (some .int)] ++ wsX50)
def wsX5_prideOf : List Cond := .code yX5_prideOf cX5_prideOf 2 (some .int) :: ([.fieldLink RX5 24 "DareBridge$Town" "pride" "[I", .static yX7_at, .initialized RX7, .code yX7_at cX7_at 2 (some .int)] ++ wsX50)
def wsX5_oddsOf : List Cond := .code yX5_oddsOf cX5_oddsOf 4 (some .int) :: ([.fieldLink RX5 9 "DareBridge$Town" "rules" "[I", .fieldLink RX5 18 "DareBridge$Town" "skill" "[I", .methodLink RX5 67 Lib.Math.min.name, .static Lib.Math.min.name, .initialized "java/lang/Math", .code Lib.Math.min.name Lib.Math.min.code 2 (some .int), .methodLink RX5 73 Lib.Math.max.name, .static Lib.Math.max.name, .code Lib.Math.max.name Lib.Math.max.code 2 (some .int), .static yX7_at, .initialized RX7, .code yX7_at cX7_at 2 (some .int)] ++ wsX50)
def wsX5_worthDone : List Cond := .code yX5_worthDone cX5_worthDone 5 (some .int) :: ([.fieldLink RX5 9 "DareBridge$Town" "rules" "[I", .fieldLink RX5 21 "DareBridge$Town" "fear" "[I", .static yX7_at, .initialized RX7, .code yX7_at cX7_at 2 (some .int), .methodLink RX5 76 yX5_oddsOf, .instanceMethod yX5_oddsOf, .selects RX5 yX5_oddsOf yX5_oddsOf, .initialized RX5, .code yX5_oddsOf cX5_oddsOf 4 (some .int), .fieldLink RX5 18 "DareBridge$Town" "skill" "[I", .methodLink RX5 67 Lib.Math.min.name, .static Lib.Math.min.name, .initialized "java/lang/Math", .code Lib.Math.min.name Lib.Math.min.code 2 (some .int), .methodLink RX5 73 Lib.Math.max.name, .static Lib.Math.max.name, .code Lib.Math.max.name Lib.Math.max.code 2 (some .int)] ++ wsX50)
def wsX5_worthRefused : List Cond := .code yX5_worthRefused cX5_worthRefused 2 (some .int) :: ([])
def wsX5_dares_r1 : List Cond := [Cond.methodLink RX5 79 yX5_worthDone, Cond.instanceMethod yX5_worthDone, Cond.selects RX5 yX5_worthDone yX5_worthDone, Cond.initialized RX5, Cond.code yX5_worthDone cX5_worthDone 5 (some .int), Cond.fieldLink RX5 9 "DareBridge$Town" "rules" "[I", Cond.fieldLink RX5 21 "DareBridge$Town" "fear" "[I", Cond.static yX7_at, Cond.initialized RX7, Cond.code yX7_at cX7_at 2 (some .int), Cond.methodLink RX5 76 yX5_oddsOf, Cond.instanceMethod yX5_oddsOf, Cond.selects RX5 yX5_oddsOf yX5_oddsOf, Cond.code yX5_oddsOf cX5_oddsOf 4 (some .int), Cond.fieldLink RX5 18 "DareBridge$Town" "skill" "[I", Cond.methodLink RX5 67 Lib.Math.min.name, Cond.static Lib.Math.min.name, Cond.initialized "java/lang/Math", Cond.code Lib.Math.min.name Lib.Math.min.code 2 (some .int), Cond.methodLink RX5 73 Lib.Math.max.name, Cond.static Lib.Math.max.name, Cond.code Lib.Math.max.name Lib.Math.max.code 2 (some .int), Cond.methodLink RX5 83 yX5_worthRefused, Cond.static yX5_worthRefused]
def wsX5_dares_r2 : List Cond := [Cond.code yX5_worthRefused cX5_worthRefused 2 (some .int)]
def wsX5_dares : List Cond := .code yX5_dares cX5_dares 4 (some .boolean) :: ((wsX5_dares_r1 ++ wsX5_dares_r2) ++ wsX50)
def wsX1_go_r1 : List Cond := [Cond.fieldLink RX1 12 "DareBridge$Climb" "luck" "LDareBridge$Chance;", Cond.fieldLink RX1 21 "DareBridge$Climb" "done" "I", Cond.fieldLink RX1 25 "DareBridge$Climb" "last" "I", Cond.fieldLink RX1 28 "DareBridge$Climb" "refuser" "I", Cond.methodLink RX1 37 Lib.Math.max.name, Cond.static Lib.Math.max.name, Cond.initialized "java/lang/Math", Cond.code Lib.Math.max.name Lib.Math.max.code 2 (some .int), Cond.methodLink RX1 18 yX0_begin, Cond.instanceMethod yX0_begin, Cond.selects RX0 yX0_begin yX0_begin, Cond.initialized RX0, Cond.code yX0_begin cX0_begin 1 none, Cond.fieldLink RX0 7 "DareBridge$Chance" "upper" "J", Cond.fieldLink RX0 13 "DareBridge$Chance" "lower" "J", Cond.methodLink RX1 31 yX5_rule, Cond.instanceMethod yX5_rule, Cond.selects RX5 yX5_rule yX5_rule, Cond.initialized RX5, Cond.code yX5_rule cX5_rule 2 (some .int), Cond.fieldLink RX5 9 "DareBridge$Town" "rules" "[I", Cond.static yX7_at, Cond.initialized RX7, Cond.code yX7_at cX7_at 2 (some .int)]
def wsX1_go_r2 : List Cond := [Cond.methodLink RX1 43 yX5_prideOf, Cond.instanceMethod yX5_prideOf, Cond.selects RX5 yX5_prideOf yX5_prideOf, Cond.code yX5_prideOf cX5_prideOf 2 (some .int), Cond.fieldLink RX5 24 "DareBridge$Town" "pride" "[I", Cond.methodLink RX1 46 yX5_dares, Cond.instanceMethod yX5_dares, Cond.selects RX5 yX5_dares yX5_dares, Cond.code yX5_dares cX5_dares 4 (some .boolean), Cond.methodLink RX5 79 yX5_worthDone, Cond.instanceMethod yX5_worthDone, Cond.selects RX5 yX5_worthDone yX5_worthDone, Cond.code yX5_worthDone cX5_worthDone 5 (some .int), Cond.fieldLink RX5 21 "DareBridge$Town" "fear" "[I", Cond.methodLink RX5 76 yX5_oddsOf, Cond.instanceMethod yX5_oddsOf, Cond.selects RX5 yX5_oddsOf yX5_oddsOf, Cond.code yX5_oddsOf cX5_oddsOf 4 (some .int), Cond.fieldLink RX5 18 "DareBridge$Town" "skill" "[I", Cond.methodLink RX5 67 Lib.Math.min.name, Cond.static Lib.Math.min.name, Cond.code Lib.Math.min.name Lib.Math.min.code 2 (some .int), Cond.methodLink RX5 73 Lib.Math.max.name, Cond.methodLink RX5 83 yX5_worthRefused]
def wsX1_go_r3 : List Cond := [Cond.static yX5_worthRefused, Cond.code yX5_worthRefused cX5_worthRefused 2 (some .int), Cond.methodLink RX1 50 yX5_oddsOf, Cond.methodLink RX1 53 yX0_goesWell, Cond.instanceMethod yX0_goesWell, Cond.selects RX0 yX0_goesWell yX0_goesWell, Cond.code yX0_goesWell cX0_goesWell 2 none, Cond.constantLong RX0 16 (10)]
def wsX1_go : List Cond := .code yX1_go cX1_go 9 none :: ((wsX1_go_r1 ++ (wsX1_go_r2 ++ wsX1_go_r3)) ++ wsX10 ++ wsX00 ++ wsX50)
def wsX2_init : List Cond := .code yX2_init cX2_init 1 none :: ([.methodLink RX2 3 objectInit, .instanceMethod objectInit, .code objectInit ⟨#[0xb1]⟩ 1 none])
def wsX2_settleFor : List Cond := .code yX2_settleFor cX2_settleFor 4 none :: ([.fieldLink RX2 9 "DareBridge$Game" "choice" "I", .fieldLink RX2 15 "DareBridge$Game" "toDared" "I", .fieldLink RX2 18 "DareBridge$Game" "toDarer" "I"] ++ wsX20)
def wsX2_settle_r1 : List Cond := [Cond.fieldLink RX2 18 "DareBridge$Game" "toDarer" "I", Cond.fieldLink RX2 15 "DareBridge$Game" "toDared" "I", Cond.methodLink RX2 37 yX5_prideOf, Cond.instanceMethod yX5_prideOf, Cond.selects RX5 yX5_prideOf yX5_prideOf, Cond.initialized RX5, Cond.code yX5_prideOf cX5_prideOf 2 (some .int), Cond.fieldLink RX5 24 "DareBridge$Town" "pride" "[I", Cond.static yX7_at, Cond.initialized RX7, Cond.code yX7_at cX7_at 2 (some .int), Cond.methodLink RX2 40 yX5_worthDone, Cond.instanceMethod yX5_worthDone, Cond.selects RX5 yX5_worthDone yX5_worthDone, Cond.code yX5_worthDone cX5_worthDone 5 (some .int), Cond.fieldLink RX5 9 "DareBridge$Town" "rules" "[I", Cond.fieldLink RX5 21 "DareBridge$Town" "fear" "[I", Cond.methodLink RX5 76 yX5_oddsOf, Cond.instanceMethod yX5_oddsOf, Cond.selects RX5 yX5_oddsOf yX5_oddsOf, Cond.code yX5_oddsOf cX5_oddsOf 4 (some .int), Cond.fieldLink RX5 18 "DareBridge$Town" "skill" "[I", Cond.methodLink RX5 67 Lib.Math.min.name, Cond.static Lib.Math.min.name]
def wsX2_settle_r2 : List Cond := [Cond.initialized "java/lang/Math", Cond.code Lib.Math.min.name Lib.Math.min.code 2 (some .int), Cond.methodLink RX5 73 Lib.Math.max.name, Cond.static Lib.Math.max.name, Cond.code Lib.Math.max.name Lib.Math.max.code 2 (some .int), Cond.methodLink RX2 44 yX5_worthRefused, Cond.static yX5_worthRefused, Cond.code yX5_worthRefused cX5_worthRefused 2 (some .int), Cond.methodLink RX2 47 yX2_settleFor, Cond.instanceMethod yX2_settleFor, Cond.selects RX2 yX2_settleFor yX2_settleFor, Cond.initialized RX2, Cond.code yX2_settleFor cX2_settleFor 4 none, Cond.fieldLink RX2 9 "DareBridge$Game" "choice" "I"]
def wsX2_settle : List Cond := .code yX2_settle cX2_settle 13 none :: ((wsX2_settle_r1 ++ wsX2_settle_r2) ++ wsX20 ++ wsX50)
def wsX2_solve_r1 : List Cond := [Cond.fieldLink RX2 9 "DareBridge$Game" "choice" "I", Cond.fieldLink RX2 15 "DareBridge$Game" "toDared" "I", Cond.fieldLink RX2 18 "DareBridge$Game" "toDarer" "I", Cond.methodLink RX2 27 Lib.Math.max.name, Cond.static Lib.Math.max.name, Cond.initialized "java/lang/Math", Cond.code Lib.Math.max.name Lib.Math.max.code 2 (some .int), Cond.methodLink RX2 21 yX5_rule, Cond.instanceMethod yX5_rule, Cond.selects RX5 yX5_rule yX5_rule, Cond.initialized RX5, Cond.code yX5_rule cX5_rule 2 (some .int), Cond.fieldLink RX5 9 "DareBridge$Town" "rules" "[I", Cond.static yX7_at, Cond.initialized RX7, Cond.code yX7_at cX7_at 2 (some .int), Cond.methodLink RX2 33 yX2_settle, Cond.instanceMethod yX2_settle, Cond.selects RX2 yX2_settle yX2_settle, Cond.initialized RX2, Cond.code yX2_settle cX2_settle 13 none, Cond.methodLink RX2 37 yX5_prideOf, Cond.instanceMethod yX5_prideOf, Cond.selects RX5 yX5_prideOf yX5_prideOf]
def wsX2_solve_r2 : List Cond := [Cond.code yX5_prideOf cX5_prideOf 2 (some .int), Cond.fieldLink RX5 24 "DareBridge$Town" "pride" "[I", Cond.methodLink RX2 40 yX5_worthDone, Cond.instanceMethod yX5_worthDone, Cond.selects RX5 yX5_worthDone yX5_worthDone, Cond.code yX5_worthDone cX5_worthDone 5 (some .int), Cond.fieldLink RX5 21 "DareBridge$Town" "fear" "[I", Cond.methodLink RX5 76 yX5_oddsOf, Cond.instanceMethod yX5_oddsOf, Cond.selects RX5 yX5_oddsOf yX5_oddsOf, Cond.code yX5_oddsOf cX5_oddsOf 4 (some .int), Cond.fieldLink RX5 18 "DareBridge$Town" "skill" "[I", Cond.methodLink RX5 67 Lib.Math.min.name, Cond.static Lib.Math.min.name, Cond.code Lib.Math.min.name Lib.Math.min.code 2 (some .int), Cond.methodLink RX5 73 Lib.Math.max.name, Cond.methodLink RX2 44 yX5_worthRefused, Cond.static yX5_worthRefused, Cond.code yX5_worthRefused cX5_worthRefused 2 (some .int), Cond.methodLink RX2 47 yX2_settleFor, Cond.instanceMethod yX2_settleFor, Cond.selects RX2 yX2_settleFor yX2_settleFor, Cond.code yX2_settleFor cX2_settleFor 4 none]
def wsX2_solve : List Cond := .code yX2_solve cX2_solve 10 none :: ((wsX2_solve_r1 ++ wsX2_solve_r2) ++ wsX20 ++ wsX50)
def wsX3_init : List Cond := .code yX3_init cX3_init 1 none :: ([.methodLink RX3 3 objectInit, .instanceMethod objectInit, .code objectInit ⟨#[0xb1]⟩ 1 none, .arrayClass .int, .fieldLink RX3 9 "DareBridge$Pad" "signs" "[I", .fieldLink RX3 15 "DareBridge$Pad" "count" "I"] ++ wsX30)
def wsX7_put : List Cond := .code yX7_put cX7_put 3 none :: ([])
def wsX3_add : List Cond := .code yX3_add cX3_add 2 (some .boolean) :: ([.fieldLink RX3 15 "DareBridge$Pad" "count" "I", .fieldLink RX3 9 "DareBridge$Pad" "signs" "[I", .static yX7_put, .initialized RX7, .code yX7_put cX7_put 3 none] ++ wsX30)
def wsX3_clear : List Cond := .code yX3_clear cX3_clear 1 none :: ([.fieldLink RX3 15 "DareBridge$Pad" "count" "I"] ++ wsX30)
def wsX7_within : List Cond := .code yX7_within cX7_within 3 (some .boolean) :: ([])
def wsX3_isLetter : List Cond := .code yX3_isLetter cX3_isLetter 1 (some .boolean) :: ([.static yX7_within, .initialized RX7, .code yX7_within cX7_within 3 (some .boolean)])
def wsX3_canStand : List Cond := .code yX3_canStand cX3_canStand 3 (some .boolean) :: ([.methodLink RX3 31 yX3_isLetter, .static yX3_isLetter, .initialized RX3, .code yX3_isLetter cX3_isLetter 1 (some .boolean), .static yX7_within, .initialized RX7, .code yX7_within cX7_within 3 (some .boolean)])
def wsX3_faultAt : List Cond := .code yX3_faultAt cX3_faultAt 4 (some .int) :: ([.fieldLink RX3 15 "DareBridge$Pad" "count" "I", .fieldLink RX3 9 "DareBridge$Pad" "signs" "[I", .static yX7_at, .initialized RX7, .code yX7_at cX7_at 2 (some .int), .methodLink RX3 27 yX3_canStand, .static yX3_canStand, .initialized RX3, .code yX3_canStand cX3_canStand 3 (some .boolean), .methodLink RX3 31 yX3_isLetter, .static yX3_isLetter, .code yX3_isLetter cX3_isLetter 1 (some .boolean), .static yX7_within, .code yX7_within cX7_within 3 (some .boolean)] ++ wsX30)
def wsX7_copyRow : List Cond := .code yX7_copyRow cX7_copyRow 3 none :: ([.methodLink RX7 94 yX7_at, .static yX7_at, .initialized RX7, .code yX7_at cX7_at 2 (some .int), .methodLink RX7 107 yX7_put, .static yX7_put, .code yX7_put cX7_put 3 none])
def wsX5_init_r1 : List Cond := [Cond.methodLink RX5 3 objectInit, Cond.instanceMethod objectInit, Cond.code objectInit ⟨#[0xb1]⟩ 1 none, Cond.arrayClass .int, Cond.fieldLink RX5 9 "DareBridge$Town" "rules" "[I", Cond.fieldLink RX5 15 "DareBridge$Town" "there" "[I", Cond.fieldLink RX5 18 "DareBridge$Town" "skill" "[I", Cond.fieldLink RX5 21 "DareBridge$Town" "fear" "[I", Cond.fieldLink RX5 24 "DareBridge$Town" "pride" "[I", Cond.fieldLink RX5 27 "DareBridge$Town" "wish" "[I", Cond.fieldLink RX5 30 "DareBridge$Town" "high" "[I", Cond.fieldLink RX5 33 "DareBridge$Town" "fame" "[I", Cond.fieldLink RX5 36 "DareBridge$Town" "plaster" "[I", Cond.fieldLink RX5 39 "DareBridge$Town" "sightOf" "[I", Cond.fieldLink RX5 42 "DareBridge$Town" "sightHeight" "[I", Cond.fieldLink RX5 45 "DareBridge$Town" "sightDid" "[I", Cond.fieldLink RX5 48 "DareBridge$Town" "sights" "I", Cond.static yX7_copyRow, Cond.initialized RX7, Cond.code yX7_copyRow cX7_copyRow 3 none, Cond.methodLink RX7 94 yX7_at, Cond.static yX7_at, Cond.code yX7_at cX7_at 2 (some .int), Cond.methodLink RX7 107 yX7_put]
def wsX5_init_r2 : List Cond := [Cond.static yX7_put, Cond.code yX7_put cX7_put 3 none]
def wsX5_init : List Cond := .code yX5_init cX5_init 1 none :: ((wsX5_init_r1 ++ wsX5_init_r2) ++ wsX50)
def wsX4_init_r1 : List Cond := [Cond.methodLink RX4 3 objectInit, Cond.instanceMethod objectInit, Cond.code objectInit ⟨#[0xb1]⟩ 1 none, Cond.classLink RX4 9 RX5, Cond.instantiable RX5 13, Cond.initialized RX5, Cond.fieldLink RX4 12 "DareBridge$Summer" "after" "LDareBridge$Town;", Cond.arrayClass .int, Cond.fieldLink RX4 18 "DareBridge$Summer" "ties" "[I", Cond.classLink RX4 22 RX0, Cond.instantiable RX0 2, Cond.initialized RX0, Cond.fieldLink RX4 25 "DareBridge$Summer" "luck" "LDareBridge$Chance;", Cond.methodLink RX4 11 yX5_init, Cond.instanceMethod yX5_init, Cond.code yX5_init cX5_init 1 none, Cond.methodLink RX5 3 objectInit, Cond.fieldLink RX5 9 "DareBridge$Town" "rules" "[I", Cond.fieldLink RX5 15 "DareBridge$Town" "there" "[I", Cond.fieldLink RX5 18 "DareBridge$Town" "skill" "[I", Cond.fieldLink RX5 21 "DareBridge$Town" "fear" "[I", Cond.fieldLink RX5 24 "DareBridge$Town" "pride" "[I", Cond.fieldLink RX5 27 "DareBridge$Town" "wish" "[I", Cond.fieldLink RX5 30 "DareBridge$Town" "high" "[I"]
def wsX4_init_r2 : List Cond := [Cond.fieldLink RX5 33 "DareBridge$Town" "fame" "[I", Cond.fieldLink RX5 36 "DareBridge$Town" "plaster" "[I", Cond.fieldLink RX5 39 "DareBridge$Town" "sightOf" "[I", Cond.fieldLink RX5 42 "DareBridge$Town" "sightHeight" "[I", Cond.fieldLink RX5 45 "DareBridge$Town" "sightDid" "[I", Cond.fieldLink RX5 48 "DareBridge$Town" "sights" "I", Cond.static yX7_copyRow, Cond.initialized RX7, Cond.code yX7_copyRow cX7_copyRow 3 none, Cond.methodLink RX7 94 yX7_at, Cond.static yX7_at, Cond.code yX7_at cX7_at 2 (some .int), Cond.methodLink RX7 107 yX7_put, Cond.static yX7_put, Cond.code yX7_put cX7_put 3 none, Cond.instanceMethod yX0_init, Cond.code yX0_init cX0_init 1 none, Cond.methodLink RX0 1 objectInit, Cond.fieldLink RX0 7 "DareBridge$Chance" "upper" "J", Cond.fieldLink RX0 13 "DareBridge$Chance" "lower" "J"]
def wsX4_init : List Cond := .code yX4_init cX4_init 1 none :: ((wsX4_init_r1 ++ wsX4_init_r2) ++ wsX50 ++ wsX40 ++ wsX00)
def wsX5_copyFrom : List Cond := .code yX5_copyFrom cX5_copyFrom 2 none :: ([.fieldLink RX5 9 "DareBridge$Town" "rules" "[I", .fieldLink RX5 15 "DareBridge$Town" "there" "[I", .fieldLink RX5 18 "DareBridge$Town" "skill" "[I", .fieldLink RX5 21 "DareBridge$Town" "fear" "[I", .fieldLink RX5 24 "DareBridge$Town" "pride" "[I", .fieldLink RX5 27 "DareBridge$Town" "wish" "[I", .fieldLink RX5 30 "DareBridge$Town" "high" "[I", .fieldLink RX5 33 "DareBridge$Town" "fame" "[I", .fieldLink RX5 36 "DareBridge$Town" "plaster" "[I", .fieldLink RX5 39 "DareBridge$Town" "sightOf" "[I", .fieldLink RX5 42 "DareBridge$Town" "sightHeight" "[I", .fieldLink RX5 45 "DareBridge$Town" "sightDid" "[I", .fieldLink RX5 48 "DareBridge$Town" "sights" "I", .static yX7_copyRow, .initialized RX7, .code yX7_copyRow cX7_copyRow 3 none, .methodLink RX7 94 yX7_at, .static yX7_at, .code yX7_at cX7_at 2 (some .int), .methodLink RX7 107 yX7_put, .static yX7_put, .code yX7_put cX7_put 3 none] ++ wsX50)
def wsX4_begin_r1 : List Cond := [Cond.fieldLink RX4 12 "DareBridge$Summer" "after" "LDareBridge$Town;", Cond.fieldLink RX4 18 "DareBridge$Summer" "ties" "[I", Cond.fieldLink RX4 25 "DareBridge$Summer" "luck" "LDareBridge$Chance;", Cond.fieldLink RX4 56 "DareBridge$Summer" "events" "I", Cond.fieldLink RX4 53 "DareBridge$Summer" "why" "I", Cond.fieldLink RX4 68 "DareBridge$Summer" "done" "I", Cond.fieldLink RX4 71 "DareBridge$Summer" "refused" "I", Cond.fieldLink RX4 74 "DareBridge$Summer" "doubled" "I", Cond.fieldLink RX4 77 "DareBridge$Summer" "heights" "I", Cond.methodLink RX4 59 yX5_copyFrom, Cond.instanceMethod yX5_copyFrom, Cond.selects RX5 yX5_copyFrom yX5_copyFrom, Cond.initialized RX5, Cond.code yX5_copyFrom cX5_copyFrom 2 none, Cond.fieldLink RX5 9 "DareBridge$Town" "rules" "[I", Cond.fieldLink RX5 15 "DareBridge$Town" "there" "[I", Cond.fieldLink RX5 18 "DareBridge$Town" "skill" "[I", Cond.fieldLink RX5 21 "DareBridge$Town" "fear" "[I", Cond.fieldLink RX5 24 "DareBridge$Town" "pride" "[I", Cond.fieldLink RX5 27 "DareBridge$Town" "wish" "[I", Cond.fieldLink RX5 30 "DareBridge$Town" "high" "[I", Cond.fieldLink RX5 33 "DareBridge$Town" "fame" "[I", Cond.fieldLink RX5 36 "DareBridge$Town" "plaster" "[I", Cond.fieldLink RX5 39 "DareBridge$Town" "sightOf" "[I"]
def wsX4_begin_r2 : List Cond := [Cond.fieldLink RX5 42 "DareBridge$Town" "sightHeight" "[I", Cond.fieldLink RX5 45 "DareBridge$Town" "sightDid" "[I", Cond.fieldLink RX5 48 "DareBridge$Town" "sights" "I", Cond.static yX7_copyRow, Cond.initialized RX7, Cond.code yX7_copyRow cX7_copyRow 3 none, Cond.methodLink RX7 94 yX7_at, Cond.static yX7_at, Cond.code yX7_at cX7_at 2 (some .int), Cond.methodLink RX7 107 yX7_put, Cond.static yX7_put, Cond.code yX7_put cX7_put 3 none, Cond.methodLink RX4 66 yX0_begin, Cond.instanceMethod yX0_begin, Cond.selects RX0 yX0_begin yX0_begin, Cond.initialized RX0, Cond.code yX0_begin cX0_begin 1 none, Cond.fieldLink RX0 7 "DareBridge$Chance" "upper" "J", Cond.fieldLink RX0 13 "DareBridge$Chance" "lower" "J"]
def wsX4_begin : List Cond := .code yX4_begin cX4_begin 3 none :: ((wsX4_begin_r1 ++ wsX4_begin_r2) ++ wsX40 ++ wsX50 ++ wsX00)
def wsX5_night : List Cond := .code yX5_night cX5_night 4 none :: ([.fieldLink RX5 9 "DareBridge$Town" "rules" "[I", .fieldLink RX5 33 "DareBridge$Town" "fame" "[I", .methodLink RX5 73 Lib.Math.max.name, .static Lib.Math.max.name, .initialized "java/lang/Math", .code Lib.Math.max.name Lib.Math.max.code 2 (some .int), .methodLink RX5 67 Lib.Math.min.name, .static Lib.Math.min.name, .code Lib.Math.min.name Lib.Math.min.code 2 (some .int), .fieldLink RX5 36 "DareBridge$Town" "plaster" "[I", .static yX7_at, .initialized RX7, .code yX7_at cX7_at 2 (some .int), .static yX7_put, .code yX7_put cX7_put 3 none] ++ wsX50)
def wsX5_isThere : List Cond := .code yX5_isThere cX5_isThere 2 (some .boolean) :: ([.fieldLink RX5 15 "DareBridge$Town" "there" "[I", .static yX7_at, .initialized RX7, .code yX7_at cX7_at 2 (some .int)] ++ wsX50)
def wsX5_whyNot : List Cond := .code yX5_whyNot cX5_whyNot 4 (some .int) :: ([.fieldLink RX5 36 "DareBridge$Town" "plaster" "[I", .fieldLink RX5 30 "DareBridge$Town" "high" "[I", .fieldLink RX5 9 "DareBridge$Town" "rules" "[I", .methodLink RX5 90 yX5_isThere, .instanceMethod yX5_isThere, .selects RX5 yX5_isThere yX5_isThere, .initialized RX5, .code yX5_isThere cX5_isThere 2 (some .boolean), .fieldLink RX5 15 "DareBridge$Town" "there" "[I", .static yX7_at, .initialized RX7, .code yX7_at cX7_at 2 (some .int)] ++ wsX50)
def wsX4_reckon_r1 : List Cond := [Cond.fieldLink RX4 77 "DareBridge$Summer" "heights" "I", Cond.fieldLink RX4 25 "DareBridge$Summer" "luck" "LDareBridge$Chance;", Cond.fieldLink RX4 12 "DareBridge$Summer" "after" "LDareBridge$Town;", Cond.methodLink RX4 95 yX5_oddsOf, Cond.instanceMethod yX5_oddsOf, Cond.selects RX5 yX5_oddsOf yX5_oddsOf, Cond.initialized RX5, Cond.code yX5_oddsOf cX5_oddsOf 4 (some .int), Cond.fieldLink RX5 9 "DareBridge$Town" "rules" "[I", Cond.fieldLink RX5 18 "DareBridge$Town" "skill" "[I", Cond.methodLink RX5 67 Lib.Math.min.name, Cond.static Lib.Math.min.name, Cond.initialized "java/lang/Math", Cond.code Lib.Math.min.name Lib.Math.min.code 2 (some .int), Cond.methodLink RX5 73 Lib.Math.max.name, Cond.static Lib.Math.max.name, Cond.code Lib.Math.max.name Lib.Math.max.code 2 (some .int), Cond.static yX7_at, Cond.initialized RX7, Cond.code yX7_at cX7_at 2 (some .int), Cond.methodLink RX4 99 yX0_goesWell, Cond.instanceMethod yX0_goesWell, Cond.selects RX0 yX0_goesWell yX0_goesWell, Cond.initialized RX0]
def wsX4_reckon_r2 : List Cond := [Cond.code yX0_goesWell cX0_goesWell 2 none, Cond.fieldLink RX0 7 "DareBridge$Chance" "upper" "J", Cond.fieldLink RX0 13 "DareBridge$Chance" "lower" "J", Cond.constantLong RX0 16 (10)]
def wsX4_reckon : List Cond := .code yX4_reckon cX4_reckon 3 none :: ((wsX4_reckon_r1 ++ wsX4_reckon_r2) ++ wsX40 ++ wsX50 ++ wsX00)
def wsX7_drawAfter : List Cond := .code yX7_drawAfter cX7_drawAfter 1 (some .int) :: ([.constant RX7 284 (65537)])
def wsX5_perform_r1 : List Cond := [Cond.fieldLink RX5 30 "DareBridge$Town" "high" "[I", Cond.methodLink RX5 73 Lib.Math.max.name, Cond.static Lib.Math.max.name, Cond.initialized "java/lang/Math", Cond.code Lib.Math.max.name Lib.Math.max.code 2 (some .int), Cond.fieldLink RX5 33 "DareBridge$Town" "fame" "[I", Cond.fieldLink RX5 9 "DareBridge$Town" "rules" "[I", Cond.fieldLink RX5 36 "DareBridge$Town" "plaster" "[I", Cond.static yX7_at, Cond.initialized RX7, Cond.code yX7_at cX7_at 2 (some .int), Cond.static yX7_put, Cond.code yX7_put cX7_put 3 none, Cond.static yX7_drawAfter, Cond.code yX7_drawAfter cX7_drawAfter 1 (some .int), Cond.constant RX7 284 (65537), Cond.methodLink RX5 76 yX5_oddsOf, Cond.instanceMethod yX5_oddsOf, Cond.selects RX5 yX5_oddsOf yX5_oddsOf, Cond.initialized RX5, Cond.code yX5_oddsOf cX5_oddsOf 4 (some .int), Cond.fieldLink RX5 18 "DareBridge$Town" "skill" "[I", Cond.methodLink RX5 67 Lib.Math.min.name, Cond.static Lib.Math.min.name]
def wsX5_perform_r2 : List Cond := [Cond.code Lib.Math.min.name Lib.Math.min.code 2 (some .int)]
def wsX5_perform : List Cond := .code yX5_perform cX5_perform 4 (some .boolean) :: ((wsX5_perform_r1 ++ wsX5_perform_r2) ++ wsX50)
def wsX5_refuse : List Cond := .code yX5_refuse cX5_refuse 3 none :: ([.fieldLink RX5 33 "DareBridge$Town" "fame" "[I", .static yX7_at, .initialized RX7, .code yX7_at cX7_at 2 (some .int), .static yX7_put, .code yX7_put cX7_put 3 none] ++ wsX50)
def wsX4_playDare_r1 : List Cond := [Cond.fieldLink RX4 12 "DareBridge$Summer" "after" "LDareBridge$Town;", Cond.fieldLink RX4 53 "DareBridge$Summer" "why" "I", Cond.fieldLink RX4 18 "DareBridge$Summer" "ties" "[I", Cond.fieldLink RX4 68 "DareBridge$Summer" "done" "I", Cond.fieldLink RX4 71 "DareBridge$Summer" "refused" "I", Cond.fieldLink RX4 74 "DareBridge$Summer" "doubled" "I", Cond.static yX7_at, Cond.initialized RX7, Cond.code yX7_at cX7_at 2 (some .int), Cond.methodLink RX4 80 yX5_whyNot, Cond.instanceMethod yX5_whyNot, Cond.selects RX5 yX5_whyNot yX5_whyNot, Cond.initialized RX5, Cond.code yX5_whyNot cX5_whyNot 4 (some .int), Cond.fieldLink RX5 36 "DareBridge$Town" "plaster" "[I", Cond.fieldLink RX5 30 "DareBridge$Town" "high" "[I", Cond.fieldLink RX5 9 "DareBridge$Town" "rules" "[I", Cond.methodLink RX5 90 yX5_isThere, Cond.instanceMethod yX5_isThere, Cond.selects RX5 yX5_isThere yX5_isThere, Cond.code yX5_isThere cX5_isThere 2 (some .boolean), Cond.fieldLink RX5 15 "DareBridge$Town" "there" "[I", Cond.static yX7_put, Cond.code yX7_put cX7_put 3 none]
def wsX4_playDare_r2 : List Cond := [Cond.methodLink RX4 84 yX4_reckon, Cond.instanceMethod yX4_reckon, Cond.selects RX4 yX4_reckon yX4_reckon, Cond.initialized RX4, Cond.code yX4_reckon cX4_reckon 3 none, Cond.fieldLink RX4 77 "DareBridge$Summer" "heights" "I", Cond.fieldLink RX4 25 "DareBridge$Summer" "luck" "LDareBridge$Chance;", Cond.methodLink RX4 95 yX5_oddsOf, Cond.instanceMethod yX5_oddsOf, Cond.selects RX5 yX5_oddsOf yX5_oddsOf, Cond.code yX5_oddsOf cX5_oddsOf 4 (some .int), Cond.fieldLink RX5 18 "DareBridge$Town" "skill" "[I", Cond.methodLink RX5 67 Lib.Math.min.name, Cond.static Lib.Math.min.name, Cond.initialized "java/lang/Math", Cond.code Lib.Math.min.name Lib.Math.min.code 2 (some .int), Cond.methodLink RX5 73 Lib.Math.max.name, Cond.static Lib.Math.max.name, Cond.code Lib.Math.max.name Lib.Math.max.code 2 (some .int), Cond.methodLink RX4 99 yX0_goesWell, Cond.instanceMethod yX0_goesWell, Cond.selects RX0 yX0_goesWell yX0_goesWell, Cond.initialized RX0, Cond.code yX0_goesWell cX0_goesWell 2 none]
def wsX4_playDare_r3 : List Cond := [Cond.fieldLink RX0 7 "DareBridge$Chance" "upper" "J", Cond.fieldLink RX0 13 "DareBridge$Chance" "lower" "J", Cond.constantLong RX0 16 (10), Cond.methodLink RX4 88 yX5_perform, Cond.instanceMethod yX5_perform, Cond.selects RX5 yX5_perform yX5_perform, Cond.code yX5_perform cX5_perform 4 (some .boolean), Cond.fieldLink RX5 33 "DareBridge$Town" "fame" "[I", Cond.static yX7_drawAfter, Cond.code yX7_drawAfter cX7_drawAfter 1 (some .int), Cond.constant RX7 284 (65537), Cond.methodLink RX5 76 yX5_oddsOf, Cond.methodLink RX4 92 yX5_refuse, Cond.instanceMethod yX5_refuse, Cond.selects RX5 yX5_refuse yX5_refuse, Cond.code yX5_refuse cX5_refuse 3 none]
def wsX4_playDare : List Cond := .code yX4_playDare cX4_playDare 7 none :: ((wsX4_playDare_r1 ++ (wsX4_playDare_r2 ++ wsX4_playDare_r3)) ++ wsX40 ++ wsX50 ++ wsX00)
def wsX4_play_r1 : List Cond := [Cond.fieldLink RX4 33 "DareBridge$Pad" "count" "I", Cond.fieldLink RX4 39 "DareBridge$Pad" "signs" "[I", Cond.fieldLink RX4 12 "DareBridge$Summer" "after" "LDareBridge$Town;", Cond.fieldLink RX4 53 "DareBridge$Summer" "why" "I", Cond.fieldLink RX4 56 "DareBridge$Summer" "events" "I", Cond.methodLink RX4 29 yX4_begin, Cond.instanceMethod yX4_begin, Cond.selects RX4 yX4_begin yX4_begin, Cond.initialized RX4, Cond.code yX4_begin cX4_begin 3 none, Cond.fieldLink RX4 18 "DareBridge$Summer" "ties" "[I", Cond.fieldLink RX4 25 "DareBridge$Summer" "luck" "LDareBridge$Chance;", Cond.fieldLink RX4 68 "DareBridge$Summer" "done" "I", Cond.fieldLink RX4 71 "DareBridge$Summer" "refused" "I", Cond.fieldLink RX4 74 "DareBridge$Summer" "doubled" "I", Cond.fieldLink RX4 77 "DareBridge$Summer" "heights" "I", Cond.methodLink RX4 59 yX5_copyFrom, Cond.instanceMethod yX5_copyFrom, Cond.selects RX5 yX5_copyFrom yX5_copyFrom, Cond.initialized RX5, Cond.code yX5_copyFrom cX5_copyFrom 2 none, Cond.fieldLink RX5 9 "DareBridge$Town" "rules" "[I", Cond.fieldLink RX5 15 "DareBridge$Town" "there" "[I", Cond.fieldLink RX5 18 "DareBridge$Town" "skill" "[I"]
def wsX4_play_r2 : List Cond := [Cond.fieldLink RX5 21 "DareBridge$Town" "fear" "[I", Cond.fieldLink RX5 24 "DareBridge$Town" "pride" "[I", Cond.fieldLink RX5 27 "DareBridge$Town" "wish" "[I", Cond.fieldLink RX5 30 "DareBridge$Town" "high" "[I", Cond.fieldLink RX5 33 "DareBridge$Town" "fame" "[I", Cond.fieldLink RX5 36 "DareBridge$Town" "plaster" "[I", Cond.fieldLink RX5 39 "DareBridge$Town" "sightOf" "[I", Cond.fieldLink RX5 42 "DareBridge$Town" "sightHeight" "[I", Cond.fieldLink RX5 45 "DareBridge$Town" "sightDid" "[I", Cond.fieldLink RX5 48 "DareBridge$Town" "sights" "I", Cond.static yX7_copyRow, Cond.initialized RX7, Cond.code yX7_copyRow cX7_copyRow 3 none, Cond.methodLink RX7 94 yX7_at, Cond.static yX7_at, Cond.code yX7_at cX7_at 2 (some .int), Cond.methodLink RX7 107 yX7_put, Cond.static yX7_put, Cond.code yX7_put cX7_put 3 none, Cond.methodLink RX4 66 yX0_begin, Cond.instanceMethod yX0_begin, Cond.selects RX0 yX0_begin yX0_begin, Cond.initialized RX0, Cond.code yX0_begin cX0_begin 1 none]
def wsX4_play_r3 : List Cond := [Cond.fieldLink RX0 7 "DareBridge$Chance" "upper" "J", Cond.fieldLink RX0 13 "DareBridge$Chance" "lower" "J", Cond.methodLink RX4 46 yX5_night, Cond.instanceMethod yX5_night, Cond.selects RX5 yX5_night yX5_night, Cond.code yX5_night cX5_night 4 none, Cond.methodLink RX5 73 Lib.Math.max.name, Cond.static Lib.Math.max.name, Cond.initialized "java/lang/Math", Cond.code Lib.Math.max.name Lib.Math.max.code 2 (some .int), Cond.methodLink RX5 67 Lib.Math.min.name, Cond.static Lib.Math.min.name, Cond.code Lib.Math.min.name Lib.Math.min.code 2 (some .int), Cond.methodLink RX4 49 yX4_playDare, Cond.instanceMethod yX4_playDare, Cond.selects RX4 yX4_playDare yX4_playDare, Cond.code yX4_playDare cX4_playDare 7 none, Cond.methodLink RX4 80 yX5_whyNot, Cond.instanceMethod yX5_whyNot, Cond.selects RX5 yX5_whyNot yX5_whyNot, Cond.code yX5_whyNot cX5_whyNot 4 (some .int), Cond.methodLink RX5 90 yX5_isThere, Cond.instanceMethod yX5_isThere, Cond.selects RX5 yX5_isThere yX5_isThere]
def wsX4_play_r4 : List Cond := [Cond.code yX5_isThere cX5_isThere 2 (some .boolean), Cond.methodLink RX4 84 yX4_reckon, Cond.instanceMethod yX4_reckon, Cond.selects RX4 yX4_reckon yX4_reckon, Cond.code yX4_reckon cX4_reckon 3 none, Cond.methodLink RX4 95 yX5_oddsOf, Cond.instanceMethod yX5_oddsOf, Cond.selects RX5 yX5_oddsOf yX5_oddsOf, Cond.code yX5_oddsOf cX5_oddsOf 4 (some .int), Cond.methodLink RX4 99 yX0_goesWell, Cond.instanceMethod yX0_goesWell, Cond.selects RX0 yX0_goesWell yX0_goesWell, Cond.code yX0_goesWell cX0_goesWell 2 none, Cond.constantLong RX0 16 (10), Cond.methodLink RX4 88 yX5_perform, Cond.instanceMethod yX5_perform, Cond.selects RX5 yX5_perform yX5_perform, Cond.code yX5_perform cX5_perform 4 (some .boolean), Cond.static yX7_drawAfter, Cond.code yX7_drawAfter cX7_drawAfter 1 (some .int), Cond.constant RX7 284 (65537), Cond.methodLink RX5 76 yX5_oddsOf, Cond.methodLink RX4 92 yX5_refuse, Cond.instanceMethod yX5_refuse]
def wsX4_play_r5 : List Cond := [Cond.selects RX5 yX5_refuse yX5_refuse, Cond.code yX5_refuse cX5_refuse 3 none]
def wsX4_play : List Cond := .code yX4_play cX4_play 4 none :: ((wsX4_play_r1 ++ (wsX4_play_r2 ++ (wsX4_play_r3 ++ (wsX4_play_r4 ++ wsX4_play_r5)))) ++ wsX30 ++ wsX40 ++ wsX50 ++ wsX00)
def wsX4_closest : List Cond := .code yX4_closest cX4_closest 4 (some .int) :: ([.fieldLink RX4 18 "DareBridge$Summer" "ties" "[I", .static yX7_at, .initialized RX7, .code yX7_at cX7_at 2 (some .int)] ++ wsX40)
def wsX5_bits : List Cond := .code yX5_bits cX5_bits 3 (some .int) :: ([.fieldLink RX5 15 "DareBridge$Town" "there" "[I", .static yX7_at, .initialized RX7, .code yX7_at cX7_at 2 (some .int)] ++ wsX50)
def wsX5_come : List Cond := .code yX5_come cX5_come 6 none :: ([.fieldLink RX5 15 "DareBridge$Town" "there" "[I", .fieldLink RX5 18 "DareBridge$Town" "skill" "[I", .fieldLink RX5 21 "DareBridge$Town" "fear" "[I", .fieldLink RX5 24 "DareBridge$Town" "pride" "[I", .fieldLink RX5 27 "DareBridge$Town" "wish" "[I", .fieldLink RX5 30 "DareBridge$Town" "high" "[I", .fieldLink RX5 9 "DareBridge$Town" "rules" "[I", .fieldLink RX5 33 "DareBridge$Town" "fame" "[I", .fieldLink RX5 36 "DareBridge$Town" "plaster" "[I", .static yX7_put, .initialized RX7, .code yX7_put cX7_put 3 none, .static yX7_at, .code yX7_at cX7_at 2 (some .int)] ++ wsX50)
def wsX5_go : List Cond := .code yX5_go cX5_go 2 none :: ([.fieldLink RX5 15 "DareBridge$Town" "there" "[I", .static yX7_put, .initialized RX7, .code yX7_put cX7_put 3 none] ++ wsX50)
def wsX5_standing : List Cond := .code yX5_standing cX5_standing 3 (some .int) :: ([.fieldLink RX5 33 "DareBridge$Town" "fame" "[I", .fieldLink RX5 30 "DareBridge$Town" "high" "[I", .fieldLink RX5 36 "DareBridge$Town" "plaster" "[I", .static yX7_at, .initialized RX7, .code yX7_at cX7_at 2 (some .int)] ++ wsX50)
def wsX5_leastRefused_r1 : List Cond := [Cond.fieldLink RX5 24 "DareBridge$Town" "pride" "[I", Cond.static yX7_at, Cond.initialized RX7, Cond.code yX7_at cX7_at 2 (some .int), Cond.methodLink RX5 86 yX5_dares, Cond.instanceMethod yX5_dares, Cond.selects RX5 yX5_dares yX5_dares, Cond.initialized RX5, Cond.code yX5_dares cX5_dares 4 (some .boolean), Cond.methodLink RX5 79 yX5_worthDone, Cond.instanceMethod yX5_worthDone, Cond.selects RX5 yX5_worthDone yX5_worthDone, Cond.code yX5_worthDone cX5_worthDone 5 (some .int), Cond.fieldLink RX5 9 "DareBridge$Town" "rules" "[I", Cond.fieldLink RX5 21 "DareBridge$Town" "fear" "[I", Cond.methodLink RX5 76 yX5_oddsOf, Cond.instanceMethod yX5_oddsOf, Cond.selects RX5 yX5_oddsOf yX5_oddsOf, Cond.code yX5_oddsOf cX5_oddsOf 4 (some .int), Cond.fieldLink RX5 18 "DareBridge$Town" "skill" "[I", Cond.methodLink RX5 67 Lib.Math.min.name, Cond.static Lib.Math.min.name, Cond.initialized "java/lang/Math", Cond.code Lib.Math.min.name Lib.Math.min.code 2 (some .int)]
def wsX5_leastRefused_r2 : List Cond := [Cond.methodLink RX5 73 Lib.Math.max.name, Cond.static Lib.Math.max.name, Cond.code Lib.Math.max.name Lib.Math.max.code 2 (some .int), Cond.methodLink RX5 83 yX5_worthRefused, Cond.static yX5_worthRefused, Cond.code yX5_worthRefused cX5_worthRefused 2 (some .int)]
def wsX5_leastRefused : List Cond := .code yX5_leastRefused cX5_leastRefused 3 (some .int) :: ((wsX5_leastRefused_r1 ++ wsX5_leastRefused_r2) ++ wsX50)
def wsX5_surest : List Cond := .code yX5_surest cX5_surest 3 (some .int) :: ([.methodLink RX5 76 yX5_oddsOf, .instanceMethod yX5_oddsOf, .selects RX5 yX5_oddsOf yX5_oddsOf, .initialized RX5, .code yX5_oddsOf cX5_oddsOf 4 (some .int), .fieldLink RX5 9 "DareBridge$Town" "rules" "[I", .fieldLink RX5 18 "DareBridge$Town" "skill" "[I", .methodLink RX5 67 Lib.Math.min.name, .static Lib.Math.min.name, .initialized "java/lang/Math", .code Lib.Math.min.name Lib.Math.min.code 2 (some .int), .methodLink RX5 73 Lib.Math.max.name, .static Lib.Math.max.name, .code Lib.Math.max.name Lib.Math.max.code 2 (some .int), .static yX7_at, .initialized RX7, .code yX7_at cX7_at 2 (some .int)] ++ wsX50)
def wsX5_wouldRefuse_r1 : List Cond := [Cond.fieldLink RX5 36 "DareBridge$Town" "plaster" "[I", Cond.fieldLink RX5 30 "DareBridge$Town" "high" "[I", Cond.fieldLink RX5 24 "DareBridge$Town" "pride" "[I", Cond.methodLink RX5 90 yX5_isThere, Cond.instanceMethod yX5_isThere, Cond.selects RX5 yX5_isThere yX5_isThere, Cond.initialized RX5, Cond.code yX5_isThere cX5_isThere 2 (some .boolean), Cond.fieldLink RX5 15 "DareBridge$Town" "there" "[I", Cond.static yX7_at, Cond.initialized RX7, Cond.code yX7_at cX7_at 2 (some .int), Cond.methodLink RX5 86 yX5_dares, Cond.instanceMethod yX5_dares, Cond.selects RX5 yX5_dares yX5_dares, Cond.code yX5_dares cX5_dares 4 (some .boolean), Cond.methodLink RX5 79 yX5_worthDone, Cond.instanceMethod yX5_worthDone, Cond.selects RX5 yX5_worthDone yX5_worthDone, Cond.code yX5_worthDone cX5_worthDone 5 (some .int), Cond.fieldLink RX5 9 "DareBridge$Town" "rules" "[I", Cond.fieldLink RX5 21 "DareBridge$Town" "fear" "[I", Cond.methodLink RX5 76 yX5_oddsOf, Cond.instanceMethod yX5_oddsOf]
def wsX5_wouldRefuse_r2 : List Cond := [Cond.selects RX5 yX5_oddsOf yX5_oddsOf, Cond.code yX5_oddsOf cX5_oddsOf 4 (some .int), Cond.fieldLink RX5 18 "DareBridge$Town" "skill" "[I", Cond.methodLink RX5 67 Lib.Math.min.name, Cond.static Lib.Math.min.name, Cond.initialized "java/lang/Math", Cond.code Lib.Math.min.name Lib.Math.min.code 2 (some .int), Cond.methodLink RX5 73 Lib.Math.max.name, Cond.static Lib.Math.max.name, Cond.code Lib.Math.max.name Lib.Math.max.code 2 (some .int), Cond.methodLink RX5 83 yX5_worthRefused, Cond.static yX5_worthRefused, Cond.code yX5_worthRefused cX5_worthRefused 2 (some .int)]
def wsX5_wouldRefuse : List Cond := .code yX5_wouldRefuse cX5_wouldRefuse 3 (some .boolean) :: ((wsX5_wouldRefuse_r1 ++ wsX5_wouldRefuse_r2) ++ wsX50)
def wsJ6_bitCount_0f7a4 : List Cond := .code yJ6_bitCount_0f7a4 cJ6_bitCount_0f7a4 1 (some .int) :: ([.constant RJ6 265 (1431655765), .constant RJ6 266 (858993459), .constant RJ6 267 (252645135)])
def wsX5_joinedInRound : List Cond := .code yX5_joinedInRound cX5_joinedInRound 5 (some .int) :: ([.fieldLink RX5 27 "DareBridge$Town" "wish" "[I", .fieldLink RX5 24 "DareBridge$Town" "pride" "[I", .methodLink RX5 101 yJ6_bitCount_0f7a4, .static yJ6_bitCount_0f7a4, .initialized RJ6, .code yJ6_bitCount_0f7a4 cJ6_bitCount_0f7a4 1 (some .int), .constant RJ6 265 (1431655765), .constant RJ6 266 (858993459), .constant RJ6 267 (252645135), .methodLink RX5 90 yX5_isThere, .instanceMethod yX5_isThere, .selects RX5 yX5_isThere yX5_isThere, .initialized RX5, .code yX5_isThere cX5_isThere 2 (some .boolean), .fieldLink RX5 15 "DareBridge$Town" "there" "[I", .static yX7_at, .initialized RX7, .code yX7_at cX7_at 2 (some .int)] ++ wsX50)
def wsX5_joined : List Cond := .code yX5_joined cX5_joined 4 (some .int) :: ([.methodLink RX5 98 yX5_joinedInRound, .instanceMethod yX5_joinedInRound, .selects RX5 yX5_joinedInRound yX5_joinedInRound, .initialized RX5, .code yX5_joinedInRound cX5_joinedInRound 5 (some .int), .fieldLink RX5 27 "DareBridge$Town" "wish" "[I", .fieldLink RX5 24 "DareBridge$Town" "pride" "[I", .methodLink RX5 101 yJ6_bitCount_0f7a4, .static yJ6_bitCount_0f7a4, .initialized RJ6, .code yJ6_bitCount_0f7a4 cJ6_bitCount_0f7a4 1 (some .int), .constant RJ6 265 (1431655765), .constant RJ6 266 (858993459), .constant RJ6 267 (252645135), .methodLink RX5 90 yX5_isThere, .instanceMethod yX5_isThere, .selects RX5 yX5_isThere yX5_isThere, .code yX5_isThere cX5_isThere 2 (some .boolean), .fieldLink RX5 15 "DareBridge$Town" "there" "[I", .static yX7_at, .initialized RX7, .code yX7_at cX7_at 2 (some .int)] ++ wsX50)
def wsX5_isMost : List Cond := .code yX5_isMost cX5_isMost 2 (some .boolean) :: ([.methodLink RX5 101 yJ6_bitCount_0f7a4, .static yJ6_bitCount_0f7a4, .initialized RJ6, .code yJ6_bitCount_0f7a4 cJ6_bitCount_0f7a4 1 (some .int), .constant RJ6 265 (1431655765), .constant RJ6 266 (858993459), .constant RJ6 267 (252645135), .methodLink RX5 106 yX5_bits, .instanceMethod yX5_bits, .selects RX5 yX5_bits yX5_bits, .initialized RX5, .code yX5_bits cX5_bits 3 (some .int), .fieldLink RX5 15 "DareBridge$Town" "there" "[I", .static yX7_at, .initialized RX7, .code yX7_at cX7_at 2 (some .int)] ++ wsX50)
def wsX5_fewestToHold_r1 : List Cond := [Cond.fieldLink RX5 27 "DareBridge$Town" "wish" "[I", Cond.methodLink RX5 90 yX5_isThere, Cond.instanceMethod yX5_isThere, Cond.selects RX5 yX5_isThere yX5_isThere, Cond.initialized RX5, Cond.code yX5_isThere cX5_isThere 2 (some .boolean), Cond.fieldLink RX5 15 "DareBridge$Town" "there" "[I", Cond.static yX7_at, Cond.initialized RX7, Cond.code yX7_at cX7_at 2 (some .int), Cond.methodLink RX5 101 yJ6_bitCount_0f7a4, Cond.static yJ6_bitCount_0f7a4, Cond.initialized RJ6, Cond.code yJ6_bitCount_0f7a4 cJ6_bitCount_0f7a4 1 (some .int), Cond.constant RJ6 265 (1431655765), Cond.constant RJ6 266 (858993459), Cond.constant RJ6 267 (252645135), Cond.methodLink RX5 110 yX5_joined, Cond.instanceMethod yX5_joined, Cond.selects RX5 yX5_joined yX5_joined, Cond.code yX5_joined cX5_joined 4 (some .int), Cond.methodLink RX5 98 yX5_joinedInRound, Cond.instanceMethod yX5_joinedInRound, Cond.selects RX5 yX5_joinedInRound yX5_joinedInRound]
def wsX5_fewestToHold_r2 : List Cond := [Cond.code yX5_joinedInRound cX5_joinedInRound 5 (some .int), Cond.fieldLink RX5 24 "DareBridge$Town" "pride" "[I", Cond.methodLink RX5 113 yX5_isMost, Cond.instanceMethod yX5_isMost, Cond.selects RX5 yX5_isMost yX5_isMost, Cond.code yX5_isMost cX5_isMost 2 (some .boolean), Cond.methodLink RX5 106 yX5_bits, Cond.instanceMethod yX5_bits, Cond.selects RX5 yX5_bits yX5_bits, Cond.code yX5_bits cX5_bits 3 (some .int)]
def wsX5_fewestToHold : List Cond := .code yX5_fewestToHold cX5_fewestToHold 5 (some .int) :: ((wsX5_fewestToHold_r1 ++ wsX5_fewestToHold_r2) ++ wsX50)
def wsX5_see : List Cond := .code yX5_see cX5_see 4 (some .boolean) :: ([.fieldLink RX5 48 "DareBridge$Town" "sights" "I", .fieldLink RX5 39 "DareBridge$Town" "sightOf" "[I", .fieldLink RX5 42 "DareBridge$Town" "sightHeight" "[I", .fieldLink RX5 45 "DareBridge$Town" "sightDid" "[I", .static yX7_put, .initialized RX7, .code yX7_put cX7_put 3 none] ++ wsX50)
def wsX5_fitsSights_r1 : List Cond := [Cond.fieldLink RX5 48 "DareBridge$Town" "sights" "I", Cond.fieldLink RX5 45 "DareBridge$Town" "sightDid" "[I", Cond.fieldLink RX5 39 "DareBridge$Town" "sightOf" "[I", Cond.fieldLink RX5 42 "DareBridge$Town" "sightHeight" "[I", Cond.static yX7_at, Cond.initialized RX7, Cond.code yX7_at cX7_at 2 (some .int), Cond.methodLink RX5 86 yX5_dares, Cond.instanceMethod yX5_dares, Cond.selects RX5 yX5_dares yX5_dares, Cond.initialized RX5, Cond.code yX5_dares cX5_dares 4 (some .boolean), Cond.methodLink RX5 79 yX5_worthDone, Cond.instanceMethod yX5_worthDone, Cond.selects RX5 yX5_worthDone yX5_worthDone, Cond.code yX5_worthDone cX5_worthDone 5 (some .int), Cond.fieldLink RX5 9 "DareBridge$Town" "rules" "[I", Cond.fieldLink RX5 21 "DareBridge$Town" "fear" "[I", Cond.methodLink RX5 76 yX5_oddsOf, Cond.instanceMethod yX5_oddsOf, Cond.selects RX5 yX5_oddsOf yX5_oddsOf, Cond.code yX5_oddsOf cX5_oddsOf 4 (some .int), Cond.fieldLink RX5 18 "DareBridge$Town" "skill" "[I", Cond.methodLink RX5 67 Lib.Math.min.name]
def wsX5_fitsSights_r2 : List Cond := [Cond.static Lib.Math.min.name, Cond.initialized "java/lang/Math", Cond.code Lib.Math.min.name Lib.Math.min.code 2 (some .int), Cond.methodLink RX5 73 Lib.Math.max.name, Cond.static Lib.Math.max.name, Cond.code Lib.Math.max.name Lib.Math.max.code 2 (some .int), Cond.methodLink RX5 83 yX5_worthRefused, Cond.static yX5_worthRefused, Cond.code yX5_worthRefused cX5_worthRefused 2 (some .int)]
def wsX5_fitsSights : List Cond := .code yX5_fitsSights cX5_fitsSights 5 (some .boolean) :: ((wsX5_fitsSights_r1 ++ wsX5_fitsSights_r2) ++ wsX50)
def wsX6_init_r1 : List Cond := [Cond.methodLink RX6 3 objectInit, Cond.instanceMethod objectInit, Cond.code objectInit ⟨#[0xb1]⟩ 1 none, Cond.classLink RX6 9 RX5, Cond.instantiable RX5 13, Cond.initialized RX5, Cond.fieldLink RX6 12 "DareBridge$Year" "town" "LDareBridge$Town;", Cond.methodLink RX6 11 yX5_init, Cond.instanceMethod yX5_init, Cond.code yX5_init cX5_init 1 none, Cond.methodLink RX5 3 objectInit, Cond.arrayClass .int, Cond.fieldLink RX5 9 "DareBridge$Town" "rules" "[I", Cond.fieldLink RX5 15 "DareBridge$Town" "there" "[I", Cond.fieldLink RX5 18 "DareBridge$Town" "skill" "[I", Cond.fieldLink RX5 21 "DareBridge$Town" "fear" "[I", Cond.fieldLink RX5 24 "DareBridge$Town" "pride" "[I", Cond.fieldLink RX5 27 "DareBridge$Town" "wish" "[I", Cond.fieldLink RX5 30 "DareBridge$Town" "high" "[I", Cond.fieldLink RX5 33 "DareBridge$Town" "fame" "[I", Cond.fieldLink RX5 36 "DareBridge$Town" "plaster" "[I", Cond.fieldLink RX5 39 "DareBridge$Town" "sightOf" "[I", Cond.fieldLink RX5 42 "DareBridge$Town" "sightHeight" "[I", Cond.fieldLink RX5 45 "DareBridge$Town" "sightDid" "[I"]
def wsX6_init_r2 : List Cond := [Cond.fieldLink RX5 48 "DareBridge$Town" "sights" "I", Cond.static yX7_copyRow, Cond.initialized RX7, Cond.code yX7_copyRow cX7_copyRow 3 none, Cond.methodLink RX7 94 yX7_at, Cond.static yX7_at, Cond.code yX7_at cX7_at 2 (some .int), Cond.methodLink RX7 107 yX7_put, Cond.static yX7_put, Cond.code yX7_put cX7_put 3 none]
def wsX6_init : List Cond := .code yX6_init cX6_init 1 none :: ((wsX6_init_r1 ++ wsX6_init_r2) ++ wsX50 ++ wsX60)
def wsX6_dare_r1 : List Cond := [Cond.fieldLink RX6 12 "DareBridge$Year" "town" "LDareBridge$Town;", Cond.fieldLink RX6 43 "DareBridge$Town" "high" "[I", Cond.methodLink RX6 54 Lib.Math.min.name, Cond.static Lib.Math.min.name, Cond.initialized "java/lang/Math", Cond.code Lib.Math.min.name Lib.Math.min.code 2 (some .int), Cond.fieldLink RX6 26 "DareBridge$Year" "refused" "I", Cond.fieldLink RX6 22 "DareBridge$Year" "done" "I", Cond.fieldLink RX6 29 "DareBridge$Year" "hurt" "I", Cond.static yX7_at, Cond.initialized RX7, Cond.code yX7_at cX7_at 2 (some .int), Cond.methodLink RX6 51 yX5_rule, Cond.instanceMethod yX5_rule, Cond.selects RX5 yX5_rule yX5_rule, Cond.initialized RX5, Cond.code yX5_rule cX5_rule 2 (some .int), Cond.fieldLink RX5 9 "DareBridge$Town" "rules" "[I", Cond.methodLink RX6 60 yX5_whyNot, Cond.instanceMethod yX5_whyNot, Cond.selects RX5 yX5_whyNot yX5_whyNot, Cond.code yX5_whyNot cX5_whyNot 4 (some .int), Cond.fieldLink RX5 36 "DareBridge$Town" "plaster" "[I", Cond.fieldLink RX5 30 "DareBridge$Town" "high" "[I"]
def wsX6_dare_r2 : List Cond := [Cond.methodLink RX5 90 yX5_isThere, Cond.instanceMethod yX5_isThere, Cond.selects RX5 yX5_isThere yX5_isThere, Cond.code yX5_isThere cX5_isThere 2 (some .boolean), Cond.fieldLink RX5 15 "DareBridge$Town" "there" "[I", Cond.methodLink RX6 64 yX5_prideOf, Cond.instanceMethod yX5_prideOf, Cond.selects RX5 yX5_prideOf yX5_prideOf, Cond.code yX5_prideOf cX5_prideOf 2 (some .int), Cond.fieldLink RX5 24 "DareBridge$Town" "pride" "[I", Cond.methodLink RX6 67 yX5_dares, Cond.instanceMethod yX5_dares, Cond.selects RX5 yX5_dares yX5_dares, Cond.code yX5_dares cX5_dares 4 (some .boolean), Cond.methodLink RX5 79 yX5_worthDone, Cond.instanceMethod yX5_worthDone, Cond.selects RX5 yX5_worthDone yX5_worthDone, Cond.code yX5_worthDone cX5_worthDone 5 (some .int), Cond.fieldLink RX5 21 "DareBridge$Town" "fear" "[I", Cond.methodLink RX5 76 yX5_oddsOf, Cond.instanceMethod yX5_oddsOf, Cond.selects RX5 yX5_oddsOf yX5_oddsOf, Cond.code yX5_oddsOf cX5_oddsOf 4 (some .int), Cond.fieldLink RX5 18 "DareBridge$Town" "skill" "[I"]
def wsX6_dare_r3 : List Cond := [Cond.methodLink RX5 67 Lib.Math.min.name, Cond.methodLink RX5 73 Lib.Math.max.name, Cond.static Lib.Math.max.name, Cond.code Lib.Math.max.name Lib.Math.max.code 2 (some .int), Cond.methodLink RX5 83 yX5_worthRefused, Cond.static yX5_worthRefused, Cond.code yX5_worthRefused cX5_worthRefused 2 (some .int), Cond.methodLink RX6 71 yX5_refuse, Cond.instanceMethod yX5_refuse, Cond.selects RX5 yX5_refuse yX5_refuse, Cond.code yX5_refuse cX5_refuse 3 none, Cond.fieldLink RX5 33 "DareBridge$Town" "fame" "[I", Cond.static yX7_put, Cond.code yX7_put cX7_put 3 none, Cond.methodLink RX6 74 yX5_perform, Cond.instanceMethod yX5_perform, Cond.selects RX5 yX5_perform yX5_perform, Cond.code yX5_perform cX5_perform 4 (some .boolean), Cond.static yX7_drawAfter, Cond.code yX7_drawAfter cX7_drawAfter 1 (some .int), Cond.constant RX7 284 (65537)]
def wsX6_dare : List Cond := .code yX6_dare cX6_dare 4 none :: ((wsX6_dare_r1 ++ (wsX6_dare_r2 ++ wsX6_dare_r3)) ++ wsX60 ++ wsX50)
def wsX6_pass_r1 : List Cond := [Cond.fieldLink RX6 12 "DareBridge$Year" "town" "LDareBridge$Town;", Cond.fieldLink RX6 22 "DareBridge$Year" "done" "I", Cond.fieldLink RX6 26 "DareBridge$Year" "refused" "I", Cond.fieldLink RX6 29 "DareBridge$Year" "hurt" "I", Cond.methodLink RX6 18 yX5_copyFrom, Cond.instanceMethod yX5_copyFrom, Cond.selects RX5 yX5_copyFrom yX5_copyFrom, Cond.initialized RX5, Cond.code yX5_copyFrom cX5_copyFrom 2 none, Cond.fieldLink RX5 9 "DareBridge$Town" "rules" "[I", Cond.fieldLink RX5 15 "DareBridge$Town" "there" "[I", Cond.fieldLink RX5 18 "DareBridge$Town" "skill" "[I", Cond.fieldLink RX5 21 "DareBridge$Town" "fear" "[I", Cond.fieldLink RX5 24 "DareBridge$Town" "pride" "[I", Cond.fieldLink RX5 27 "DareBridge$Town" "wish" "[I", Cond.fieldLink RX5 30 "DareBridge$Town" "high" "[I", Cond.fieldLink RX5 33 "DareBridge$Town" "fame" "[I", Cond.fieldLink RX5 36 "DareBridge$Town" "plaster" "[I", Cond.fieldLink RX5 39 "DareBridge$Town" "sightOf" "[I", Cond.fieldLink RX5 42 "DareBridge$Town" "sightHeight" "[I", Cond.fieldLink RX5 45 "DareBridge$Town" "sightDid" "[I", Cond.fieldLink RX5 48 "DareBridge$Town" "sights" "I", Cond.static yX7_copyRow, Cond.initialized RX7]
def wsX6_pass_r2 : List Cond := [Cond.code yX7_copyRow cX7_copyRow 3 none, Cond.methodLink RX7 94 yX7_at, Cond.static yX7_at, Cond.code yX7_at cX7_at 2 (some .int), Cond.methodLink RX7 107 yX7_put, Cond.static yX7_put, Cond.code yX7_put cX7_put 3 none, Cond.static yX7_drawAfter, Cond.code yX7_drawAfter cX7_drawAfter 1 (some .int), Cond.constant RX7 284 (65537), Cond.methodLink RX6 36 yX6_dare, Cond.instanceMethod yX6_dare, Cond.selects RX6 yX6_dare yX6_dare, Cond.initialized RX6, Cond.code yX6_dare cX6_dare 4 none, Cond.fieldLink RX6 43 "DareBridge$Town" "high" "[I", Cond.methodLink RX6 54 Lib.Math.min.name, Cond.static Lib.Math.min.name, Cond.initialized "java/lang/Math", Cond.code Lib.Math.min.name Lib.Math.min.code 2 (some .int), Cond.methodLink RX6 51 yX5_rule, Cond.instanceMethod yX5_rule, Cond.selects RX5 yX5_rule yX5_rule, Cond.code yX5_rule cX5_rule 2 (some .int)]
def wsX6_pass_r3 : List Cond := [Cond.methodLink RX6 60 yX5_whyNot, Cond.instanceMethod yX5_whyNot, Cond.selects RX5 yX5_whyNot yX5_whyNot, Cond.code yX5_whyNot cX5_whyNot 4 (some .int), Cond.methodLink RX5 90 yX5_isThere, Cond.instanceMethod yX5_isThere, Cond.selects RX5 yX5_isThere yX5_isThere, Cond.code yX5_isThere cX5_isThere 2 (some .boolean), Cond.methodLink RX6 64 yX5_prideOf, Cond.instanceMethod yX5_prideOf, Cond.selects RX5 yX5_prideOf yX5_prideOf, Cond.code yX5_prideOf cX5_prideOf 2 (some .int), Cond.methodLink RX6 67 yX5_dares, Cond.instanceMethod yX5_dares, Cond.selects RX5 yX5_dares yX5_dares, Cond.code yX5_dares cX5_dares 4 (some .boolean), Cond.methodLink RX5 79 yX5_worthDone, Cond.instanceMethod yX5_worthDone, Cond.selects RX5 yX5_worthDone yX5_worthDone, Cond.code yX5_worthDone cX5_worthDone 5 (some .int), Cond.methodLink RX5 76 yX5_oddsOf, Cond.instanceMethod yX5_oddsOf, Cond.selects RX5 yX5_oddsOf yX5_oddsOf, Cond.code yX5_oddsOf cX5_oddsOf 4 (some .int)]
def wsX6_pass_r4 : List Cond := [Cond.methodLink RX5 67 Lib.Math.min.name, Cond.methodLink RX5 73 Lib.Math.max.name, Cond.static Lib.Math.max.name, Cond.code Lib.Math.max.name Lib.Math.max.code 2 (some .int), Cond.methodLink RX5 83 yX5_worthRefused, Cond.static yX5_worthRefused, Cond.code yX5_worthRefused cX5_worthRefused 2 (some .int), Cond.methodLink RX6 71 yX5_refuse, Cond.instanceMethod yX5_refuse, Cond.selects RX5 yX5_refuse yX5_refuse, Cond.code yX5_refuse cX5_refuse 3 none, Cond.methodLink RX6 74 yX5_perform, Cond.instanceMethod yX5_perform, Cond.selects RX5 yX5_perform yX5_perform, Cond.code yX5_perform cX5_perform 4 (some .boolean), Cond.methodLink RX6 40 yX5_night, Cond.instanceMethod yX5_night, Cond.selects RX5 yX5_night yX5_night, Cond.code yX5_night cX5_night 4 none]
def wsX6_pass : List Cond := .code yX6_pass cX6_pass 6 none :: ((wsX6_pass_r1 ++ (wsX6_pass_r2 ++ (wsX6_pass_r3 ++ wsX6_pass_r4))) ++ wsX60 ++ wsX50)
def wsX7_init_r1 : List Cond := [Cond.methodLink RX7 1 objectInit, Cond.instanceMethod objectInit, Cond.code objectInit ⟨#[0xb1]⟩ 1 none, Cond.classLink RX7 7 RX5, Cond.instantiable RX5 13, Cond.initialized RX5, Cond.fieldLink RX7 10 "DareBridge" "now" "LDareBridge$Town;", Cond.fieldLink RX7 16 "DareBridge" "firstImage" "LDareBridge$Town;", Cond.fieldLink RX7 19 "DareBridge" "secondImage" "LDareBridge$Town;", Cond.fieldLink RX7 22 "DareBridge" "firstKept" "Z", Cond.fieldLink RX7 26 "DareBridge" "secondKept" "Z", Cond.classLink RX7 29 RX3, Cond.instantiable RX3 2, Cond.initialized RX3, Cond.fieldLink RX7 32 "DareBridge" "pad" "LDareBridge$Pad;", Cond.classLink RX7 36 RX4, Cond.instantiable RX4 9, Cond.initialized RX4, Cond.fieldLink RX7 39 "DareBridge" "summer" "LDareBridge$Summer;", Cond.classLink RX7 43 RX1, Cond.instantiable RX1 4, Cond.initialized RX1, Cond.fieldLink RX7 46 "DareBridge" "climbing" "LDareBridge$Climb;", Cond.classLink RX7 50 RX2]
def wsX7_init_r2 : List Cond := [Cond.instantiable RX2 3, Cond.initialized RX2, Cond.fieldLink RX7 53 "DareBridge" "doubling" "LDareBridge$Game;", Cond.classLink RX7 57 RX6, Cond.instantiable RX6 4, Cond.initialized RX6, Cond.fieldLink RX7 60 "DareBridge" "years" "LDareBridge$Year;", Cond.methodLink RX7 9 yX5_init, Cond.instanceMethod yX5_init, Cond.code yX5_init cX5_init 1 none, Cond.methodLink RX5 3 objectInit, Cond.arrayClass .int, Cond.fieldLink RX5 9 "DareBridge$Town" "rules" "[I", Cond.fieldLink RX5 15 "DareBridge$Town" "there" "[I", Cond.fieldLink RX5 18 "DareBridge$Town" "skill" "[I", Cond.fieldLink RX5 21 "DareBridge$Town" "fear" "[I", Cond.fieldLink RX5 24 "DareBridge$Town" "pride" "[I", Cond.fieldLink RX5 27 "DareBridge$Town" "wish" "[I", Cond.fieldLink RX5 30 "DareBridge$Town" "high" "[I", Cond.fieldLink RX5 33 "DareBridge$Town" "fame" "[I", Cond.fieldLink RX5 36 "DareBridge$Town" "plaster" "[I", Cond.fieldLink RX5 39 "DareBridge$Town" "sightOf" "[I", Cond.fieldLink RX5 42 "DareBridge$Town" "sightHeight" "[I", Cond.fieldLink RX5 45 "DareBridge$Town" "sightDid" "[I"]
def wsX7_init_r3 : List Cond := [Cond.fieldLink RX5 48 "DareBridge$Town" "sights" "I", Cond.static yX7_copyRow, Cond.initialized RX7, Cond.code yX7_copyRow cX7_copyRow 3 none, Cond.methodLink RX7 94 yX7_at, Cond.static yX7_at, Cond.code yX7_at cX7_at 2 (some .int), Cond.methodLink RX7 107 yX7_put, Cond.static yX7_put, Cond.code yX7_put cX7_put 3 none, Cond.instanceMethod yX3_init, Cond.code yX3_init cX3_init 1 none, Cond.methodLink RX3 3 objectInit, Cond.fieldLink RX3 9 "DareBridge$Pad" "signs" "[I", Cond.fieldLink RX3 15 "DareBridge$Pad" "count" "I", Cond.instanceMethod yX4_init, Cond.code yX4_init cX4_init 1 none, Cond.methodLink RX4 3 objectInit, Cond.classLink RX4 9 RX5, Cond.fieldLink RX4 12 "DareBridge$Summer" "after" "LDareBridge$Town;", Cond.fieldLink RX4 18 "DareBridge$Summer" "ties" "[I", Cond.classLink RX4 22 RX0, Cond.instantiable RX0 2, Cond.initialized RX0]
def wsX7_init_r4 : List Cond := [Cond.fieldLink RX4 25 "DareBridge$Summer" "luck" "LDareBridge$Chance;", Cond.methodLink RX4 11 yX5_init, Cond.instanceMethod yX0_init, Cond.code yX0_init cX0_init 1 none, Cond.methodLink RX0 1 objectInit, Cond.fieldLink RX0 7 "DareBridge$Chance" "upper" "J", Cond.fieldLink RX0 13 "DareBridge$Chance" "lower" "J", Cond.instanceMethod yX1_init, Cond.code yX1_init cX1_init 1 none, Cond.methodLink RX1 3 objectInit, Cond.classLink RX1 9 RX0, Cond.fieldLink RX1 12 "DareBridge$Climb" "luck" "LDareBridge$Chance;", Cond.instanceMethod yX2_init, Cond.code yX2_init cX2_init 1 none, Cond.methodLink RX2 3 objectInit, Cond.instanceMethod yX6_init, Cond.code yX6_init cX6_init 1 none, Cond.methodLink RX6 3 objectInit, Cond.classLink RX6 9 RX5, Cond.fieldLink RX6 12 "DareBridge$Year" "town" "LDareBridge$Town;", Cond.methodLink RX6 11 yX5_init]
def wsX7_init : List Cond := .code yX7_init cX7_init 1 none :: ((wsX7_init_r1 ++ (wsX7_init_r2 ++ (wsX7_init_r3 ++ wsX7_init_r4))) ++ wsX50 ++ wsX70 ++ wsX30 ++ wsX40 ++ wsX10 ++ wsX20 ++ wsX60 ++ wsX00)
def wsX7_person_r1 : List Cond := [Cond.fieldLink RX7 10 "DareBridge" "now" "LDareBridge$Town;", Cond.methodLink RX7 64 yX7_within, Cond.static yX7_within, Cond.initialized RX7, Cond.code yX7_within cX7_within 3 (some .boolean), Cond.methodLink RX7 68 yX5_come, Cond.instanceMethod yX5_come, Cond.selects RX5 yX5_come yX5_come, Cond.initialized RX5, Cond.code yX5_come cX5_come 6 none, Cond.fieldLink RX5 15 "DareBridge$Town" "there" "[I", Cond.fieldLink RX5 18 "DareBridge$Town" "skill" "[I", Cond.fieldLink RX5 21 "DareBridge$Town" "fear" "[I", Cond.fieldLink RX5 24 "DareBridge$Town" "pride" "[I", Cond.fieldLink RX5 27 "DareBridge$Town" "wish" "[I", Cond.fieldLink RX5 30 "DareBridge$Town" "high" "[I", Cond.fieldLink RX5 9 "DareBridge$Town" "rules" "[I", Cond.fieldLink RX5 33 "DareBridge$Town" "fame" "[I", Cond.fieldLink RX5 36 "DareBridge$Town" "plaster" "[I", Cond.static yX7_put, Cond.code yX7_put cX7_put 3 none, Cond.static yX7_at, Cond.code yX7_at cX7_at 2 (some .int), Cond.methodLink RX7 72 yX5_bits]
def wsX7_person_r2 : List Cond := [Cond.instanceMethod yX5_bits, Cond.selects RX5 yX5_bits yX5_bits, Cond.code yX5_bits cX5_bits 3 (some .int), Cond.methodLink RX7 76 yJ6_bitCount_0f7a4, Cond.static yJ6_bitCount_0f7a4, Cond.initialized RJ6, Cond.code yJ6_bitCount_0f7a4 cJ6_bitCount_0f7a4 1 (some .int), Cond.constant RJ6 265 (1431655765), Cond.constant RJ6 266 (858993459), Cond.constant RJ6 267 (252645135)]
def wsX7_person : List Cond := .code yX7_person cX7_person 6 (some .int) :: ((wsX7_person_r1 ++ wsX7_person_r2) ++ wsX70 ++ wsX50)
def wsX7_leave_r1 : List Cond := [Cond.fieldLink RX7 10 "DareBridge" "now" "LDareBridge$Town;", Cond.methodLink RX7 82 yX5_isThere, Cond.instanceMethod yX5_isThere, Cond.selects RX5 yX5_isThere yX5_isThere, Cond.initialized RX5, Cond.code yX5_isThere cX5_isThere 2 (some .boolean), Cond.fieldLink RX5 15 "DareBridge$Town" "there" "[I", Cond.static yX7_at, Cond.initialized RX7, Cond.code yX7_at cX7_at 2 (some .int), Cond.methodLink RX7 86 yX5_go, Cond.instanceMethod yX5_go, Cond.selects RX5 yX5_go yX5_go, Cond.code yX5_go cX5_go 2 none, Cond.static yX7_put, Cond.code yX7_put cX7_put 3 none, Cond.methodLink RX7 72 yX5_bits, Cond.instanceMethod yX5_bits, Cond.selects RX5 yX5_bits yX5_bits, Cond.code yX5_bits cX5_bits 3 (some .int), Cond.methodLink RX7 76 yJ6_bitCount_0f7a4, Cond.static yJ6_bitCount_0f7a4, Cond.initialized RJ6, Cond.code yJ6_bitCount_0f7a4 cJ6_bitCount_0f7a4 1 (some .int)]
def wsX7_leave_r2 : List Cond := [Cond.constant RJ6 265 (1431655765), Cond.constant RJ6 266 (858993459), Cond.constant RJ6 267 (252645135)]
def wsX7_leave : List Cond := .code yX7_leave cX7_leave 2 (some .int) :: ((wsX7_leave_r1 ++ wsX7_leave_r2) ++ wsX70 ++ wsX50)
def wsX7_set : List Cond := .code yX7_set cX7_set 4 (some .int) :: ([.fieldLink RX7 90 "DareBridge" "RULE_LEAST" "[I", .fieldLink RX7 98 "DareBridge" "RULE_MOST" "[I", .fieldLink RX7 10 "DareBridge" "now" "LDareBridge$Town;", .fieldLink RX7 104 "DareBridge$Town" "rules" "[I", .methodLink RX7 64 yX7_within, .static yX7_within, .initialized RX7, .code yX7_within cX7_within 3 (some .boolean), .methodLink RX7 94 yX7_at, .static yX7_at, .code yX7_at cX7_at 2 (some .int), .methodLink RX7 101 yX5_rule, .instanceMethod yX5_rule, .selects RX5 yX5_rule yX5_rule, .initialized RX5, .code yX5_rule cX5_rule 2 (some .int), .fieldLink RX5 9 "DareBridge$Town" "rules" "[I", .methodLink RX7 107 yX7_put, .static yX7_put, .code yX7_put cX7_put 3 none] ++ wsX70 ++ wsX50)
def wsX7_say : List Cond := .code yX7_say cX7_say 2 (some .int) :: ([.fieldLink RX7 32 "DareBridge" "pad" "LDareBridge$Pad;", .fieldLink RX7 114 "DareBridge$Pad" "count" "I", .methodLink RX7 64 yX7_within, .static yX7_within, .initialized RX7, .code yX7_within cX7_within 3 (some .boolean), .methodLink RX7 111 yX3_add, .instanceMethod yX3_add, .selects RX3 yX3_add yX3_add, .initialized RX3, .code yX3_add cX3_add 2 (some .boolean), .fieldLink RX3 15 "DareBridge$Pad" "count" "I", .fieldLink RX3 9 "DareBridge$Pad" "signs" "[I", .static yX7_put, .code yX7_put cX7_put 3 none] ++ wsX70 ++ wsX30)
def wsX7_wipe : List Cond := .code yX7_wipe cX7_wipe 2 (some .int) :: ([.fieldLink RX7 32 "DareBridge" "pad" "LDareBridge$Pad;", .fieldLink RX7 114 "DareBridge$Pad" "count" "I", .methodLink RX7 118 yX3_clear, .instanceMethod yX3_clear, .selects RX3 yX3_clear yX3_clear, .initialized RX3, .code yX3_clear cX3_clear 1 none, .fieldLink RX3 15 "DareBridge$Pad" "count" "I"] ++ wsX70 ++ wsX30)
def wsX7_fault : List Cond := .code yX7_fault cX7_fault 1 (some .int) :: ([.fieldLink RX7 32 "DareBridge" "pad" "LDareBridge$Pad;", .methodLink RX7 121 yX3_faultAt, .instanceMethod yX3_faultAt, .selects RX3 yX3_faultAt yX3_faultAt, .initialized RX3, .code yX3_faultAt cX3_faultAt 4 (some .int), .fieldLink RX3 15 "DareBridge$Pad" "count" "I", .fieldLink RX3 9 "DareBridge$Pad" "signs" "[I", .static yX7_at, .initialized RX7, .code yX7_at cX7_at 2 (some .int), .methodLink RX3 27 yX3_canStand, .static yX3_canStand, .code yX3_canStand cX3_canStand 3 (some .boolean), .methodLink RX3 31 yX3_isLetter, .static yX3_isLetter, .code yX3_isLetter cX3_isLetter 1 (some .boolean), .static yX7_within, .code yX7_within cX7_within 3 (some .boolean)] ++ wsX70 ++ wsX30)
def wsX7_playSummer_r1 : List Cond := [Cond.fieldLink RX7 32 "DareBridge" "pad" "LDareBridge$Pad;", Cond.fieldLink RX7 39 "DareBridge" "summer" "LDareBridge$Summer;", Cond.fieldLink RX7 10 "DareBridge" "now" "LDareBridge$Town;", Cond.fieldLink RX7 130 "DareBridge$Summer" "why" "I", Cond.methodLink RX7 121 yX3_faultAt, Cond.instanceMethod yX3_faultAt, Cond.selects RX3 yX3_faultAt yX3_faultAt, Cond.initialized RX3, Cond.code yX3_faultAt cX3_faultAt 4 (some .int), Cond.fieldLink RX3 15 "DareBridge$Pad" "count" "I", Cond.fieldLink RX3 9 "DareBridge$Pad" "signs" "[I", Cond.static yX7_at, Cond.initialized RX7, Cond.code yX7_at cX7_at 2 (some .int), Cond.methodLink RX3 27 yX3_canStand, Cond.static yX3_canStand, Cond.code yX3_canStand cX3_canStand 3 (some .boolean), Cond.methodLink RX3 31 yX3_isLetter, Cond.static yX3_isLetter, Cond.code yX3_isLetter cX3_isLetter 1 (some .boolean), Cond.static yX7_within, Cond.code yX7_within cX7_within 3 (some .boolean), Cond.methodLink RX7 280 yX4_play, Cond.instanceMethod yX4_play]
def wsX7_playSummer_r2 : List Cond := [Cond.selects RX4 yX4_play yX4_play, Cond.initialized RX4, Cond.code yX4_play cX4_play 4 none, Cond.fieldLink RX4 33 "DareBridge$Pad" "count" "I", Cond.fieldLink RX4 39 "DareBridge$Pad" "signs" "[I", Cond.fieldLink RX4 12 "DareBridge$Summer" "after" "LDareBridge$Town;", Cond.fieldLink RX4 53 "DareBridge$Summer" "why" "I", Cond.fieldLink RX4 56 "DareBridge$Summer" "events" "I", Cond.methodLink RX4 29 yX4_begin, Cond.instanceMethod yX4_begin, Cond.selects RX4 yX4_begin yX4_begin, Cond.code yX4_begin cX4_begin 3 none, Cond.fieldLink RX4 18 "DareBridge$Summer" "ties" "[I", Cond.fieldLink RX4 25 "DareBridge$Summer" "luck" "LDareBridge$Chance;", Cond.fieldLink RX4 68 "DareBridge$Summer" "done" "I", Cond.fieldLink RX4 71 "DareBridge$Summer" "refused" "I", Cond.fieldLink RX4 74 "DareBridge$Summer" "doubled" "I", Cond.fieldLink RX4 77 "DareBridge$Summer" "heights" "I", Cond.methodLink RX4 59 yX5_copyFrom, Cond.instanceMethod yX5_copyFrom, Cond.selects RX5 yX5_copyFrom yX5_copyFrom, Cond.initialized RX5, Cond.code yX5_copyFrom cX5_copyFrom 2 none, Cond.fieldLink RX5 9 "DareBridge$Town" "rules" "[I"]
def wsX7_playSummer_r3 : List Cond := [Cond.fieldLink RX5 15 "DareBridge$Town" "there" "[I", Cond.fieldLink RX5 18 "DareBridge$Town" "skill" "[I", Cond.fieldLink RX5 21 "DareBridge$Town" "fear" "[I", Cond.fieldLink RX5 24 "DareBridge$Town" "pride" "[I", Cond.fieldLink RX5 27 "DareBridge$Town" "wish" "[I", Cond.fieldLink RX5 30 "DareBridge$Town" "high" "[I", Cond.fieldLink RX5 33 "DareBridge$Town" "fame" "[I", Cond.fieldLink RX5 36 "DareBridge$Town" "plaster" "[I", Cond.fieldLink RX5 39 "DareBridge$Town" "sightOf" "[I", Cond.fieldLink RX5 42 "DareBridge$Town" "sightHeight" "[I", Cond.fieldLink RX5 45 "DareBridge$Town" "sightDid" "[I", Cond.fieldLink RX5 48 "DareBridge$Town" "sights" "I", Cond.static yX7_copyRow, Cond.code yX7_copyRow cX7_copyRow 3 none, Cond.methodLink RX7 94 yX7_at, Cond.methodLink RX7 107 yX7_put, Cond.static yX7_put, Cond.code yX7_put cX7_put 3 none, Cond.methodLink RX4 66 yX0_begin, Cond.instanceMethod yX0_begin, Cond.selects RX0 yX0_begin yX0_begin, Cond.initialized RX0, Cond.code yX0_begin cX0_begin 1 none, Cond.fieldLink RX0 7 "DareBridge$Chance" "upper" "J"]
def wsX7_playSummer_r4 : List Cond := [Cond.fieldLink RX0 13 "DareBridge$Chance" "lower" "J", Cond.methodLink RX4 46 yX5_night, Cond.instanceMethod yX5_night, Cond.selects RX5 yX5_night yX5_night, Cond.code yX5_night cX5_night 4 none, Cond.methodLink RX5 73 Lib.Math.max.name, Cond.static Lib.Math.max.name, Cond.initialized "java/lang/Math", Cond.code Lib.Math.max.name Lib.Math.max.code 2 (some .int), Cond.methodLink RX5 67 Lib.Math.min.name, Cond.static Lib.Math.min.name, Cond.code Lib.Math.min.name Lib.Math.min.code 2 (some .int), Cond.methodLink RX4 49 yX4_playDare, Cond.instanceMethod yX4_playDare, Cond.selects RX4 yX4_playDare yX4_playDare, Cond.code yX4_playDare cX4_playDare 7 none, Cond.methodLink RX4 80 yX5_whyNot, Cond.instanceMethod yX5_whyNot, Cond.selects RX5 yX5_whyNot yX5_whyNot, Cond.code yX5_whyNot cX5_whyNot 4 (some .int), Cond.methodLink RX5 90 yX5_isThere, Cond.instanceMethod yX5_isThere, Cond.selects RX5 yX5_isThere yX5_isThere, Cond.code yX5_isThere cX5_isThere 2 (some .boolean)]
def wsX7_playSummer_r5 : List Cond := [Cond.methodLink RX4 84 yX4_reckon, Cond.instanceMethod yX4_reckon, Cond.selects RX4 yX4_reckon yX4_reckon, Cond.code yX4_reckon cX4_reckon 3 none, Cond.methodLink RX4 95 yX5_oddsOf, Cond.instanceMethod yX5_oddsOf, Cond.selects RX5 yX5_oddsOf yX5_oddsOf, Cond.code yX5_oddsOf cX5_oddsOf 4 (some .int), Cond.methodLink RX4 99 yX0_goesWell, Cond.instanceMethod yX0_goesWell, Cond.selects RX0 yX0_goesWell yX0_goesWell, Cond.code yX0_goesWell cX0_goesWell 2 none, Cond.constantLong RX0 16 (10), Cond.methodLink RX4 88 yX5_perform, Cond.instanceMethod yX5_perform, Cond.selects RX5 yX5_perform yX5_perform, Cond.code yX5_perform cX5_perform 4 (some .boolean), Cond.static yX7_drawAfter, Cond.code yX7_drawAfter cX7_drawAfter 1 (some .int), Cond.constant RX7 284 (65537), Cond.methodLink RX5 76 yX5_oddsOf, Cond.methodLink RX4 92 yX5_refuse, Cond.instanceMethod yX5_refuse, Cond.selects RX5 yX5_refuse yX5_refuse]
def wsX7_playSummer_r6 : List Cond := [Cond.code yX5_refuse cX5_refuse 3 none]
def wsX7_playSummer : List Cond := .code yX7_playSummer cX7_playSummer 1 (some .int) :: ((wsX7_playSummer_r1 ++ (wsX7_playSummer_r2 ++ (wsX7_playSummer_r3 ++ (wsX7_playSummer_r4 ++ (wsX7_playSummer_r5 ++ wsX7_playSummer_r6))))) ++ wsX70 ++ wsX40 ++ wsX30 ++ wsX50 ++ wsX00)
def wsX7_judge_r1 : List Cond := [Cond.fieldLink RX7 39 "DareBridge" "summer" "LDareBridge$Summer;", Cond.fieldLink RX7 127 "DareBridge$Summer" "events" "I", Cond.fieldLink RX7 130 "DareBridge$Summer" "why" "I", Cond.fieldLink RX7 133 "DareBridge$Summer" "done" "I", Cond.fieldLink RX7 136 "DareBridge$Summer" "refused" "I", Cond.fieldLink RX7 139 "DareBridge$Summer" "doubled" "I", Cond.methodLink RX7 64 yX7_within, Cond.static yX7_within, Cond.initialized RX7, Cond.code yX7_within cX7_within 3 (some .boolean), Cond.methodLink RX7 124 yX7_playSummer, Cond.instanceMethod yX7_playSummer, Cond.selects RX7 yX7_playSummer yX7_playSummer, Cond.code yX7_playSummer cX7_playSummer 1 (some .int), Cond.fieldLink RX7 32 "DareBridge" "pad" "LDareBridge$Pad;", Cond.fieldLink RX7 10 "DareBridge" "now" "LDareBridge$Town;", Cond.methodLink RX7 121 yX3_faultAt, Cond.instanceMethod yX3_faultAt, Cond.selects RX3 yX3_faultAt yX3_faultAt, Cond.initialized RX3, Cond.code yX3_faultAt cX3_faultAt 4 (some .int), Cond.fieldLink RX3 15 "DareBridge$Pad" "count" "I", Cond.fieldLink RX3 9 "DareBridge$Pad" "signs" "[I", Cond.static yX7_at]
def wsX7_judge_r2 : List Cond := [Cond.code yX7_at cX7_at 2 (some .int), Cond.methodLink RX3 27 yX3_canStand, Cond.static yX3_canStand, Cond.code yX3_canStand cX3_canStand 3 (some .boolean), Cond.methodLink RX3 31 yX3_isLetter, Cond.static yX3_isLetter, Cond.code yX3_isLetter cX3_isLetter 1 (some .boolean), Cond.methodLink RX7 280 yX4_play, Cond.instanceMethod yX4_play, Cond.selects RX4 yX4_play yX4_play, Cond.initialized RX4, Cond.code yX4_play cX4_play 4 none, Cond.fieldLink RX4 33 "DareBridge$Pad" "count" "I", Cond.fieldLink RX4 39 "DareBridge$Pad" "signs" "[I", Cond.fieldLink RX4 12 "DareBridge$Summer" "after" "LDareBridge$Town;", Cond.fieldLink RX4 53 "DareBridge$Summer" "why" "I", Cond.fieldLink RX4 56 "DareBridge$Summer" "events" "I", Cond.methodLink RX4 29 yX4_begin, Cond.instanceMethod yX4_begin, Cond.selects RX4 yX4_begin yX4_begin, Cond.code yX4_begin cX4_begin 3 none, Cond.fieldLink RX4 18 "DareBridge$Summer" "ties" "[I", Cond.fieldLink RX4 25 "DareBridge$Summer" "luck" "LDareBridge$Chance;", Cond.fieldLink RX4 68 "DareBridge$Summer" "done" "I"]
def wsX7_judge_r3 : List Cond := [Cond.fieldLink RX4 71 "DareBridge$Summer" "refused" "I", Cond.fieldLink RX4 74 "DareBridge$Summer" "doubled" "I", Cond.fieldLink RX4 77 "DareBridge$Summer" "heights" "I", Cond.methodLink RX4 59 yX5_copyFrom, Cond.instanceMethod yX5_copyFrom, Cond.selects RX5 yX5_copyFrom yX5_copyFrom, Cond.initialized RX5, Cond.code yX5_copyFrom cX5_copyFrom 2 none, Cond.fieldLink RX5 9 "DareBridge$Town" "rules" "[I", Cond.fieldLink RX5 15 "DareBridge$Town" "there" "[I", Cond.fieldLink RX5 18 "DareBridge$Town" "skill" "[I", Cond.fieldLink RX5 21 "DareBridge$Town" "fear" "[I", Cond.fieldLink RX5 24 "DareBridge$Town" "pride" "[I", Cond.fieldLink RX5 27 "DareBridge$Town" "wish" "[I", Cond.fieldLink RX5 30 "DareBridge$Town" "high" "[I", Cond.fieldLink RX5 33 "DareBridge$Town" "fame" "[I", Cond.fieldLink RX5 36 "DareBridge$Town" "plaster" "[I", Cond.fieldLink RX5 39 "DareBridge$Town" "sightOf" "[I", Cond.fieldLink RX5 42 "DareBridge$Town" "sightHeight" "[I", Cond.fieldLink RX5 45 "DareBridge$Town" "sightDid" "[I", Cond.fieldLink RX5 48 "DareBridge$Town" "sights" "I", Cond.static yX7_copyRow, Cond.code yX7_copyRow cX7_copyRow 3 none, Cond.methodLink RX7 94 yX7_at]
def wsX7_judge_r4 : List Cond := [Cond.methodLink RX7 107 yX7_put, Cond.static yX7_put, Cond.code yX7_put cX7_put 3 none, Cond.methodLink RX4 66 yX0_begin, Cond.instanceMethod yX0_begin, Cond.selects RX0 yX0_begin yX0_begin, Cond.initialized RX0, Cond.code yX0_begin cX0_begin 1 none, Cond.fieldLink RX0 7 "DareBridge$Chance" "upper" "J", Cond.fieldLink RX0 13 "DareBridge$Chance" "lower" "J", Cond.methodLink RX4 46 yX5_night, Cond.instanceMethod yX5_night, Cond.selects RX5 yX5_night yX5_night, Cond.code yX5_night cX5_night 4 none, Cond.methodLink RX5 73 Lib.Math.max.name, Cond.static Lib.Math.max.name, Cond.initialized "java/lang/Math", Cond.code Lib.Math.max.name Lib.Math.max.code 2 (some .int), Cond.methodLink RX5 67 Lib.Math.min.name, Cond.static Lib.Math.min.name, Cond.code Lib.Math.min.name Lib.Math.min.code 2 (some .int), Cond.methodLink RX4 49 yX4_playDare, Cond.instanceMethod yX4_playDare, Cond.selects RX4 yX4_playDare yX4_playDare]
def wsX7_judge_r5 : List Cond := [Cond.code yX4_playDare cX4_playDare 7 none, Cond.methodLink RX4 80 yX5_whyNot, Cond.instanceMethod yX5_whyNot, Cond.selects RX5 yX5_whyNot yX5_whyNot, Cond.code yX5_whyNot cX5_whyNot 4 (some .int), Cond.methodLink RX5 90 yX5_isThere, Cond.instanceMethod yX5_isThere, Cond.selects RX5 yX5_isThere yX5_isThere, Cond.code yX5_isThere cX5_isThere 2 (some .boolean), Cond.methodLink RX4 84 yX4_reckon, Cond.instanceMethod yX4_reckon, Cond.selects RX4 yX4_reckon yX4_reckon, Cond.code yX4_reckon cX4_reckon 3 none, Cond.methodLink RX4 95 yX5_oddsOf, Cond.instanceMethod yX5_oddsOf, Cond.selects RX5 yX5_oddsOf yX5_oddsOf, Cond.code yX5_oddsOf cX5_oddsOf 4 (some .int), Cond.methodLink RX4 99 yX0_goesWell, Cond.instanceMethod yX0_goesWell, Cond.selects RX0 yX0_goesWell yX0_goesWell, Cond.code yX0_goesWell cX0_goesWell 2 none, Cond.constantLong RX0 16 (10), Cond.methodLink RX4 88 yX5_perform, Cond.instanceMethod yX5_perform]
def wsX7_judge_r6 : List Cond := [Cond.selects RX5 yX5_perform yX5_perform, Cond.code yX5_perform cX5_perform 4 (some .boolean), Cond.static yX7_drawAfter, Cond.code yX7_drawAfter cX7_drawAfter 1 (some .int), Cond.constant RX7 284 (65537), Cond.methodLink RX5 76 yX5_oddsOf, Cond.methodLink RX4 92 yX5_refuse, Cond.instanceMethod yX5_refuse, Cond.selects RX5 yX5_refuse yX5_refuse, Cond.code yX5_refuse cX5_refuse 3 none]
def wsX7_judge : List Cond := .code yX7_judge cX7_judge 3 (some .int) :: ((wsX7_judge_r1 ++ (wsX7_judge_r2 ++ (wsX7_judge_r3 ++ (wsX7_judge_r4 ++ (wsX7_judge_r5 ++ wsX7_judge_r6))))) ++ wsX70 ++ wsX40 ++ wsX30 ++ wsX50 ++ wsX00)
def wsX7_state : List Cond := .code yX7_state cX7_state 3 (some .int) :: ([.fieldLink RX7 10 "DareBridge" "now" "LDareBridge$Town;", .methodLink RX7 82 yX5_isThere, .instanceMethod yX5_isThere, .selects RX5 yX5_isThere yX5_isThere, .initialized RX5, .code yX5_isThere cX5_isThere 2 (some .boolean), .fieldLink RX5 15 "DareBridge$Town" "there" "[I", .static yX7_at, .initialized RX7, .code yX7_at cX7_at 2 (some .int), .methodLink RX7 64 yX7_within, .static yX7_within, .code yX7_within cX7_within 3 (some .boolean), .methodLink RX7 142 yX5_standing, .instanceMethod yX5_standing, .selects RX5 yX5_standing yX5_standing, .code yX5_standing cX5_standing 3 (some .int), .fieldLink RX5 33 "DareBridge$Town" "fame" "[I", .fieldLink RX5 30 "DareBridge$Town" "high" "[I", .fieldLink RX5 36 "DareBridge$Town" "plaster" "[I"] ++ wsX70 ++ wsX50)
def wsX7_behind_r1 : List Cond := [Cond.fieldLink RX7 10 "DareBridge" "now" "LDareBridge$Town;", Cond.fieldLink RX7 39 "DareBridge" "summer" "LDareBridge$Summer;", Cond.fieldLink RX7 146 "DareBridge$Summer" "after" "LDareBridge$Town;", Cond.methodLink RX7 82 yX5_isThere, Cond.instanceMethod yX5_isThere, Cond.selects RX5 yX5_isThere yX5_isThere, Cond.initialized RX5, Cond.code yX5_isThere cX5_isThere 2 (some .boolean), Cond.fieldLink RX5 15 "DareBridge$Town" "there" "[I", Cond.static yX7_at, Cond.initialized RX7, Cond.code yX7_at cX7_at 2 (some .int), Cond.methodLink RX7 64 yX7_within, Cond.static yX7_within, Cond.code yX7_within cX7_within 3 (some .boolean), Cond.methodLink RX7 124 yX7_playSummer, Cond.instanceMethod yX7_playSummer, Cond.selects RX7 yX7_playSummer yX7_playSummer, Cond.code yX7_playSummer cX7_playSummer 1 (some .int), Cond.fieldLink RX7 32 "DareBridge" "pad" "LDareBridge$Pad;", Cond.fieldLink RX7 130 "DareBridge$Summer" "why" "I", Cond.methodLink RX7 121 yX3_faultAt, Cond.instanceMethod yX3_faultAt, Cond.selects RX3 yX3_faultAt yX3_faultAt]
def wsX7_behind_r2 : List Cond := [Cond.initialized RX3, Cond.code yX3_faultAt cX3_faultAt 4 (some .int), Cond.fieldLink RX3 15 "DareBridge$Pad" "count" "I", Cond.fieldLink RX3 9 "DareBridge$Pad" "signs" "[I", Cond.methodLink RX3 27 yX3_canStand, Cond.static yX3_canStand, Cond.code yX3_canStand cX3_canStand 3 (some .boolean), Cond.methodLink RX3 31 yX3_isLetter, Cond.static yX3_isLetter, Cond.code yX3_isLetter cX3_isLetter 1 (some .boolean), Cond.methodLink RX7 280 yX4_play, Cond.instanceMethod yX4_play, Cond.selects RX4 yX4_play yX4_play, Cond.initialized RX4, Cond.code yX4_play cX4_play 4 none, Cond.fieldLink RX4 33 "DareBridge$Pad" "count" "I", Cond.fieldLink RX4 39 "DareBridge$Pad" "signs" "[I", Cond.fieldLink RX4 12 "DareBridge$Summer" "after" "LDareBridge$Town;", Cond.fieldLink RX4 53 "DareBridge$Summer" "why" "I", Cond.fieldLink RX4 56 "DareBridge$Summer" "events" "I", Cond.methodLink RX4 29 yX4_begin, Cond.instanceMethod yX4_begin, Cond.selects RX4 yX4_begin yX4_begin, Cond.code yX4_begin cX4_begin 3 none]
def wsX7_behind_r3 : List Cond := [Cond.fieldLink RX4 18 "DareBridge$Summer" "ties" "[I", Cond.fieldLink RX4 25 "DareBridge$Summer" "luck" "LDareBridge$Chance;", Cond.fieldLink RX4 68 "DareBridge$Summer" "done" "I", Cond.fieldLink RX4 71 "DareBridge$Summer" "refused" "I", Cond.fieldLink RX4 74 "DareBridge$Summer" "doubled" "I", Cond.fieldLink RX4 77 "DareBridge$Summer" "heights" "I", Cond.methodLink RX4 59 yX5_copyFrom, Cond.instanceMethod yX5_copyFrom, Cond.selects RX5 yX5_copyFrom yX5_copyFrom, Cond.code yX5_copyFrom cX5_copyFrom 2 none, Cond.fieldLink RX5 9 "DareBridge$Town" "rules" "[I", Cond.fieldLink RX5 18 "DareBridge$Town" "skill" "[I", Cond.fieldLink RX5 21 "DareBridge$Town" "fear" "[I", Cond.fieldLink RX5 24 "DareBridge$Town" "pride" "[I", Cond.fieldLink RX5 27 "DareBridge$Town" "wish" "[I", Cond.fieldLink RX5 30 "DareBridge$Town" "high" "[I", Cond.fieldLink RX5 33 "DareBridge$Town" "fame" "[I", Cond.fieldLink RX5 36 "DareBridge$Town" "plaster" "[I", Cond.fieldLink RX5 39 "DareBridge$Town" "sightOf" "[I", Cond.fieldLink RX5 42 "DareBridge$Town" "sightHeight" "[I", Cond.fieldLink RX5 45 "DareBridge$Town" "sightDid" "[I", Cond.fieldLink RX5 48 "DareBridge$Town" "sights" "I", Cond.static yX7_copyRow, Cond.code yX7_copyRow cX7_copyRow 3 none]
def wsX7_behind_r4 : List Cond := [Cond.methodLink RX7 94 yX7_at, Cond.methodLink RX7 107 yX7_put, Cond.static yX7_put, Cond.code yX7_put cX7_put 3 none, Cond.methodLink RX4 66 yX0_begin, Cond.instanceMethod yX0_begin, Cond.selects RX0 yX0_begin yX0_begin, Cond.initialized RX0, Cond.code yX0_begin cX0_begin 1 none, Cond.fieldLink RX0 7 "DareBridge$Chance" "upper" "J", Cond.fieldLink RX0 13 "DareBridge$Chance" "lower" "J", Cond.methodLink RX4 46 yX5_night, Cond.instanceMethod yX5_night, Cond.selects RX5 yX5_night yX5_night, Cond.code yX5_night cX5_night 4 none, Cond.methodLink RX5 73 Lib.Math.max.name, Cond.static Lib.Math.max.name, Cond.initialized "java/lang/Math", Cond.code Lib.Math.max.name Lib.Math.max.code 2 (some .int), Cond.methodLink RX5 67 Lib.Math.min.name, Cond.static Lib.Math.min.name, Cond.code Lib.Math.min.name Lib.Math.min.code 2 (some .int), Cond.methodLink RX4 49 yX4_playDare, Cond.instanceMethod yX4_playDare]
def wsX7_behind_r5 : List Cond := [Cond.selects RX4 yX4_playDare yX4_playDare, Cond.code yX4_playDare cX4_playDare 7 none, Cond.methodLink RX4 80 yX5_whyNot, Cond.instanceMethod yX5_whyNot, Cond.selects RX5 yX5_whyNot yX5_whyNot, Cond.code yX5_whyNot cX5_whyNot 4 (some .int), Cond.methodLink RX5 90 yX5_isThere, Cond.methodLink RX4 84 yX4_reckon, Cond.instanceMethod yX4_reckon, Cond.selects RX4 yX4_reckon yX4_reckon, Cond.code yX4_reckon cX4_reckon 3 none, Cond.methodLink RX4 95 yX5_oddsOf, Cond.instanceMethod yX5_oddsOf, Cond.selects RX5 yX5_oddsOf yX5_oddsOf, Cond.code yX5_oddsOf cX5_oddsOf 4 (some .int), Cond.methodLink RX4 99 yX0_goesWell, Cond.instanceMethod yX0_goesWell, Cond.selects RX0 yX0_goesWell yX0_goesWell, Cond.code yX0_goesWell cX0_goesWell 2 none, Cond.constantLong RX0 16 (10), Cond.methodLink RX4 88 yX5_perform, Cond.instanceMethod yX5_perform, Cond.selects RX5 yX5_perform yX5_perform, Cond.code yX5_perform cX5_perform 4 (some .boolean)]
def wsX7_behind_r6 : List Cond := [Cond.static yX7_drawAfter, Cond.code yX7_drawAfter cX7_drawAfter 1 (some .int), Cond.constant RX7 284 (65537), Cond.methodLink RX5 76 yX5_oddsOf, Cond.methodLink RX4 92 yX5_refuse, Cond.instanceMethod yX5_refuse, Cond.selects RX5 yX5_refuse yX5_refuse, Cond.code yX5_refuse cX5_refuse 3 none, Cond.methodLink RX7 142 yX5_standing, Cond.instanceMethod yX5_standing, Cond.selects RX5 yX5_standing yX5_standing, Cond.code yX5_standing cX5_standing 3 (some .int)]
def wsX7_behind : List Cond := .code yX7_behind cX7_behind 4 (some .int) :: ((wsX7_behind_r1 ++ (wsX7_behind_r2 ++ (wsX7_behind_r3 ++ (wsX7_behind_r4 ++ (wsX7_behind_r5 ++ wsX7_behind_r6))))) ++ wsX70 ++ wsX40 ++ wsX50 ++ wsX30 ++ wsX00)
def wsX7_done_r1 : List Cond := [Cond.fieldLink RX7 10 "DareBridge" "now" "LDareBridge$Town;", Cond.fieldLink RX7 39 "DareBridge" "summer" "LDareBridge$Summer;", Cond.fieldLink RX7 146 "DareBridge$Summer" "after" "LDareBridge$Town;", Cond.fieldLink RX7 32 "DareBridge" "pad" "LDareBridge$Pad;", Cond.fieldLink RX7 127 "DareBridge$Summer" "events" "I", Cond.methodLink RX7 124 yX7_playSummer, Cond.instanceMethod yX7_playSummer, Cond.selects RX7 yX7_playSummer yX7_playSummer, Cond.initialized RX7, Cond.code yX7_playSummer cX7_playSummer 1 (some .int), Cond.fieldLink RX7 130 "DareBridge$Summer" "why" "I", Cond.methodLink RX7 121 yX3_faultAt, Cond.instanceMethod yX3_faultAt, Cond.selects RX3 yX3_faultAt yX3_faultAt, Cond.initialized RX3, Cond.code yX3_faultAt cX3_faultAt 4 (some .int), Cond.fieldLink RX3 15 "DareBridge$Pad" "count" "I", Cond.fieldLink RX3 9 "DareBridge$Pad" "signs" "[I", Cond.static yX7_at, Cond.code yX7_at cX7_at 2 (some .int), Cond.methodLink RX3 27 yX3_canStand, Cond.static yX3_canStand, Cond.code yX3_canStand cX3_canStand 3 (some .boolean), Cond.methodLink RX3 31 yX3_isLetter]
def wsX7_done_r2 : List Cond := [Cond.static yX3_isLetter, Cond.code yX3_isLetter cX3_isLetter 1 (some .boolean), Cond.static yX7_within, Cond.code yX7_within cX7_within 3 (some .boolean), Cond.methodLink RX7 280 yX4_play, Cond.instanceMethod yX4_play, Cond.selects RX4 yX4_play yX4_play, Cond.initialized RX4, Cond.code yX4_play cX4_play 4 none, Cond.fieldLink RX4 33 "DareBridge$Pad" "count" "I", Cond.fieldLink RX4 39 "DareBridge$Pad" "signs" "[I", Cond.fieldLink RX4 12 "DareBridge$Summer" "after" "LDareBridge$Town;", Cond.fieldLink RX4 53 "DareBridge$Summer" "why" "I", Cond.fieldLink RX4 56 "DareBridge$Summer" "events" "I", Cond.methodLink RX4 29 yX4_begin, Cond.instanceMethod yX4_begin, Cond.selects RX4 yX4_begin yX4_begin, Cond.code yX4_begin cX4_begin 3 none, Cond.fieldLink RX4 18 "DareBridge$Summer" "ties" "[I", Cond.fieldLink RX4 25 "DareBridge$Summer" "luck" "LDareBridge$Chance;", Cond.fieldLink RX4 68 "DareBridge$Summer" "done" "I", Cond.fieldLink RX4 71 "DareBridge$Summer" "refused" "I", Cond.fieldLink RX4 74 "DareBridge$Summer" "doubled" "I", Cond.fieldLink RX4 77 "DareBridge$Summer" "heights" "I"]
def wsX7_done_r3 : List Cond := [Cond.methodLink RX4 59 yX5_copyFrom, Cond.instanceMethod yX5_copyFrom, Cond.selects RX5 yX5_copyFrom yX5_copyFrom, Cond.initialized RX5, Cond.code yX5_copyFrom cX5_copyFrom 2 none, Cond.fieldLink RX5 9 "DareBridge$Town" "rules" "[I", Cond.fieldLink RX5 15 "DareBridge$Town" "there" "[I", Cond.fieldLink RX5 18 "DareBridge$Town" "skill" "[I", Cond.fieldLink RX5 21 "DareBridge$Town" "fear" "[I", Cond.fieldLink RX5 24 "DareBridge$Town" "pride" "[I", Cond.fieldLink RX5 27 "DareBridge$Town" "wish" "[I", Cond.fieldLink RX5 30 "DareBridge$Town" "high" "[I", Cond.fieldLink RX5 33 "DareBridge$Town" "fame" "[I", Cond.fieldLink RX5 36 "DareBridge$Town" "plaster" "[I", Cond.fieldLink RX5 39 "DareBridge$Town" "sightOf" "[I", Cond.fieldLink RX5 42 "DareBridge$Town" "sightHeight" "[I", Cond.fieldLink RX5 45 "DareBridge$Town" "sightDid" "[I", Cond.fieldLink RX5 48 "DareBridge$Town" "sights" "I", Cond.static yX7_copyRow, Cond.code yX7_copyRow cX7_copyRow 3 none, Cond.methodLink RX7 94 yX7_at, Cond.methodLink RX7 107 yX7_put, Cond.static yX7_put, Cond.code yX7_put cX7_put 3 none]
def wsX7_done_r4 : List Cond := [Cond.methodLink RX4 66 yX0_begin, Cond.instanceMethod yX0_begin, Cond.selects RX0 yX0_begin yX0_begin, Cond.initialized RX0, Cond.code yX0_begin cX0_begin 1 none, Cond.fieldLink RX0 7 "DareBridge$Chance" "upper" "J", Cond.fieldLink RX0 13 "DareBridge$Chance" "lower" "J", Cond.methodLink RX4 46 yX5_night, Cond.instanceMethod yX5_night, Cond.selects RX5 yX5_night yX5_night, Cond.code yX5_night cX5_night 4 none, Cond.methodLink RX5 73 Lib.Math.max.name, Cond.static Lib.Math.max.name, Cond.initialized "java/lang/Math", Cond.code Lib.Math.max.name Lib.Math.max.code 2 (some .int), Cond.methodLink RX5 67 Lib.Math.min.name, Cond.static Lib.Math.min.name, Cond.code Lib.Math.min.name Lib.Math.min.code 2 (some .int), Cond.methodLink RX4 49 yX4_playDare, Cond.instanceMethod yX4_playDare, Cond.selects RX4 yX4_playDare yX4_playDare, Cond.code yX4_playDare cX4_playDare 7 none, Cond.methodLink RX4 80 yX5_whyNot, Cond.instanceMethod yX5_whyNot]
def wsX7_done_r5 : List Cond := [Cond.selects RX5 yX5_whyNot yX5_whyNot, Cond.code yX5_whyNot cX5_whyNot 4 (some .int), Cond.methodLink RX5 90 yX5_isThere, Cond.instanceMethod yX5_isThere, Cond.selects RX5 yX5_isThere yX5_isThere, Cond.code yX5_isThere cX5_isThere 2 (some .boolean), Cond.methodLink RX4 84 yX4_reckon, Cond.instanceMethod yX4_reckon, Cond.selects RX4 yX4_reckon yX4_reckon, Cond.code yX4_reckon cX4_reckon 3 none, Cond.methodLink RX4 95 yX5_oddsOf, Cond.instanceMethod yX5_oddsOf, Cond.selects RX5 yX5_oddsOf yX5_oddsOf, Cond.code yX5_oddsOf cX5_oddsOf 4 (some .int), Cond.methodLink RX4 99 yX0_goesWell, Cond.instanceMethod yX0_goesWell, Cond.selects RX0 yX0_goesWell yX0_goesWell, Cond.code yX0_goesWell cX0_goesWell 2 none, Cond.constantLong RX0 16 (10), Cond.methodLink RX4 88 yX5_perform, Cond.instanceMethod yX5_perform, Cond.selects RX5 yX5_perform yX5_perform, Cond.code yX5_perform cX5_perform 4 (some .boolean), Cond.static yX7_drawAfter]
def wsX7_done_r6 : List Cond := [Cond.code yX7_drawAfter cX7_drawAfter 1 (some .int), Cond.constant RX7 284 (65537), Cond.methodLink RX5 76 yX5_oddsOf, Cond.methodLink RX4 92 yX5_refuse, Cond.instanceMethod yX5_refuse, Cond.selects RX5 yX5_refuse yX5_refuse, Cond.code yX5_refuse cX5_refuse 3 none, Cond.methodLink RX7 149 yX5_copyFrom, Cond.methodLink RX7 118 yX3_clear, Cond.instanceMethod yX3_clear, Cond.selects RX3 yX3_clear yX3_clear, Cond.code yX3_clear cX3_clear 1 none]
def wsX7_done : List Cond := .code yX7_done cX7_done 2 (some .int) :: ((wsX7_done_r1 ++ (wsX7_done_r2 ++ (wsX7_done_r3 ++ (wsX7_done_r4 ++ (wsX7_done_r5 ++ wsX7_done_r6))))) ++ wsX70 ++ wsX40 ++ wsX30 ++ wsX50 ++ wsX00)
def wsX7_ties_r1 : List Cond := [Cond.fieldLink RX7 39 "DareBridge" "summer" "LDareBridge$Summer;", Cond.fieldLink RX7 156 "DareBridge$Summer" "ties" "[I", Cond.methodLink RX7 64 yX7_within, Cond.static yX7_within, Cond.initialized RX7, Cond.code yX7_within cX7_within 3 (some .boolean), Cond.methodLink RX7 124 yX7_playSummer, Cond.instanceMethod yX7_playSummer, Cond.selects RX7 yX7_playSummer yX7_playSummer, Cond.code yX7_playSummer cX7_playSummer 1 (some .int), Cond.fieldLink RX7 32 "DareBridge" "pad" "LDareBridge$Pad;", Cond.fieldLink RX7 10 "DareBridge" "now" "LDareBridge$Town;", Cond.fieldLink RX7 130 "DareBridge$Summer" "why" "I", Cond.methodLink RX7 121 yX3_faultAt, Cond.instanceMethod yX3_faultAt, Cond.selects RX3 yX3_faultAt yX3_faultAt, Cond.initialized RX3, Cond.code yX3_faultAt cX3_faultAt 4 (some .int), Cond.fieldLink RX3 15 "DareBridge$Pad" "count" "I", Cond.fieldLink RX3 9 "DareBridge$Pad" "signs" "[I", Cond.static yX7_at, Cond.code yX7_at cX7_at 2 (some .int), Cond.methodLink RX3 27 yX3_canStand, Cond.static yX3_canStand]
def wsX7_ties_r2 : List Cond := [Cond.code yX3_canStand cX3_canStand 3 (some .boolean), Cond.methodLink RX3 31 yX3_isLetter, Cond.static yX3_isLetter, Cond.code yX3_isLetter cX3_isLetter 1 (some .boolean), Cond.methodLink RX7 280 yX4_play, Cond.instanceMethod yX4_play, Cond.selects RX4 yX4_play yX4_play, Cond.initialized RX4, Cond.code yX4_play cX4_play 4 none, Cond.fieldLink RX4 33 "DareBridge$Pad" "count" "I", Cond.fieldLink RX4 39 "DareBridge$Pad" "signs" "[I", Cond.fieldLink RX4 12 "DareBridge$Summer" "after" "LDareBridge$Town;", Cond.fieldLink RX4 53 "DareBridge$Summer" "why" "I", Cond.fieldLink RX4 56 "DareBridge$Summer" "events" "I", Cond.methodLink RX4 29 yX4_begin, Cond.instanceMethod yX4_begin, Cond.selects RX4 yX4_begin yX4_begin, Cond.code yX4_begin cX4_begin 3 none, Cond.fieldLink RX4 18 "DareBridge$Summer" "ties" "[I", Cond.fieldLink RX4 25 "DareBridge$Summer" "luck" "LDareBridge$Chance;", Cond.fieldLink RX4 68 "DareBridge$Summer" "done" "I", Cond.fieldLink RX4 71 "DareBridge$Summer" "refused" "I", Cond.fieldLink RX4 74 "DareBridge$Summer" "doubled" "I", Cond.fieldLink RX4 77 "DareBridge$Summer" "heights" "I"]
def wsX7_ties_r3 : List Cond := [Cond.methodLink RX4 59 yX5_copyFrom, Cond.instanceMethod yX5_copyFrom, Cond.selects RX5 yX5_copyFrom yX5_copyFrom, Cond.initialized RX5, Cond.code yX5_copyFrom cX5_copyFrom 2 none, Cond.fieldLink RX5 9 "DareBridge$Town" "rules" "[I", Cond.fieldLink RX5 15 "DareBridge$Town" "there" "[I", Cond.fieldLink RX5 18 "DareBridge$Town" "skill" "[I", Cond.fieldLink RX5 21 "DareBridge$Town" "fear" "[I", Cond.fieldLink RX5 24 "DareBridge$Town" "pride" "[I", Cond.fieldLink RX5 27 "DareBridge$Town" "wish" "[I", Cond.fieldLink RX5 30 "DareBridge$Town" "high" "[I", Cond.fieldLink RX5 33 "DareBridge$Town" "fame" "[I", Cond.fieldLink RX5 36 "DareBridge$Town" "plaster" "[I", Cond.fieldLink RX5 39 "DareBridge$Town" "sightOf" "[I", Cond.fieldLink RX5 42 "DareBridge$Town" "sightHeight" "[I", Cond.fieldLink RX5 45 "DareBridge$Town" "sightDid" "[I", Cond.fieldLink RX5 48 "DareBridge$Town" "sights" "I", Cond.static yX7_copyRow, Cond.code yX7_copyRow cX7_copyRow 3 none, Cond.methodLink RX7 94 yX7_at, Cond.methodLink RX7 107 yX7_put, Cond.static yX7_put, Cond.code yX7_put cX7_put 3 none]
def wsX7_ties_r4 : List Cond := [Cond.methodLink RX4 66 yX0_begin, Cond.instanceMethod yX0_begin, Cond.selects RX0 yX0_begin yX0_begin, Cond.initialized RX0, Cond.code yX0_begin cX0_begin 1 none, Cond.fieldLink RX0 7 "DareBridge$Chance" "upper" "J", Cond.fieldLink RX0 13 "DareBridge$Chance" "lower" "J", Cond.methodLink RX4 46 yX5_night, Cond.instanceMethod yX5_night, Cond.selects RX5 yX5_night yX5_night, Cond.code yX5_night cX5_night 4 none, Cond.methodLink RX5 73 Lib.Math.max.name, Cond.static Lib.Math.max.name, Cond.initialized "java/lang/Math", Cond.code Lib.Math.max.name Lib.Math.max.code 2 (some .int), Cond.methodLink RX5 67 Lib.Math.min.name, Cond.static Lib.Math.min.name, Cond.code Lib.Math.min.name Lib.Math.min.code 2 (some .int), Cond.methodLink RX4 49 yX4_playDare, Cond.instanceMethod yX4_playDare, Cond.selects RX4 yX4_playDare yX4_playDare, Cond.code yX4_playDare cX4_playDare 7 none, Cond.methodLink RX4 80 yX5_whyNot, Cond.instanceMethod yX5_whyNot]
def wsX7_ties_r5 : List Cond := [Cond.selects RX5 yX5_whyNot yX5_whyNot, Cond.code yX5_whyNot cX5_whyNot 4 (some .int), Cond.methodLink RX5 90 yX5_isThere, Cond.instanceMethod yX5_isThere, Cond.selects RX5 yX5_isThere yX5_isThere, Cond.code yX5_isThere cX5_isThere 2 (some .boolean), Cond.methodLink RX4 84 yX4_reckon, Cond.instanceMethod yX4_reckon, Cond.selects RX4 yX4_reckon yX4_reckon, Cond.code yX4_reckon cX4_reckon 3 none, Cond.methodLink RX4 95 yX5_oddsOf, Cond.instanceMethod yX5_oddsOf, Cond.selects RX5 yX5_oddsOf yX5_oddsOf, Cond.code yX5_oddsOf cX5_oddsOf 4 (some .int), Cond.methodLink RX4 99 yX0_goesWell, Cond.instanceMethod yX0_goesWell, Cond.selects RX0 yX0_goesWell yX0_goesWell, Cond.code yX0_goesWell cX0_goesWell 2 none, Cond.constantLong RX0 16 (10), Cond.methodLink RX4 88 yX5_perform, Cond.instanceMethod yX5_perform, Cond.selects RX5 yX5_perform yX5_perform, Cond.code yX5_perform cX5_perform 4 (some .boolean), Cond.static yX7_drawAfter]
def wsX7_ties_r6 : List Cond := [Cond.code yX7_drawAfter cX7_drawAfter 1 (some .int), Cond.constant RX7 284 (65537), Cond.methodLink RX5 76 yX5_oddsOf, Cond.methodLink RX4 92 yX5_refuse, Cond.instanceMethod yX5_refuse, Cond.selects RX5 yX5_refuse yX5_refuse, Cond.code yX5_refuse cX5_refuse 3 none, Cond.methodLink RX7 153 yX4_closest, Cond.instanceMethod yX4_closest, Cond.selects RX4 yX4_closest yX4_closest, Cond.code yX4_closest cX4_closest 4 (some .int)]
def wsX7_ties : List Cond := .code yX7_ties cX7_ties 4 (some .int) :: ((wsX7_ties_r1 ++ (wsX7_ties_r2 ++ (wsX7_ties_r3 ++ (wsX7_ties_r4 ++ (wsX7_ties_r5 ++ wsX7_ties_r6))))) ++ wsX70 ++ wsX40 ++ wsX30 ++ wsX50 ++ wsX00)
def wsX7_unhurt_r1 : List Cond := [Cond.constantLong RX7 159 (-1000000000000000002), Cond.constantLong RX7 161 (-1000000000000000000), Cond.fieldLink RX7 39 "DareBridge" "summer" "LDareBridge$Summer;", Cond.fieldLink RX7 163 "DareBridge$Summer" "heights" "I", Cond.constantLong RX7 166 (-1000000000000000004), Cond.fieldLink RX7 168 "DareBridge$Summer" "luck" "LDareBridge$Chance;", Cond.methodLink RX7 64 yX7_within, Cond.static yX7_within, Cond.initialized RX7, Cond.code yX7_within cX7_within 3 (some .boolean), Cond.methodLink RX7 124 yX7_playSummer, Cond.instanceMethod yX7_playSummer, Cond.selects RX7 yX7_playSummer yX7_playSummer, Cond.code yX7_playSummer cX7_playSummer 1 (some .int), Cond.fieldLink RX7 32 "DareBridge" "pad" "LDareBridge$Pad;", Cond.fieldLink RX7 10 "DareBridge" "now" "LDareBridge$Town;", Cond.fieldLink RX7 130 "DareBridge$Summer" "why" "I", Cond.methodLink RX7 121 yX3_faultAt, Cond.instanceMethod yX3_faultAt, Cond.selects RX3 yX3_faultAt yX3_faultAt, Cond.initialized RX3, Cond.code yX3_faultAt cX3_faultAt 4 (some .int), Cond.fieldLink RX3 15 "DareBridge$Pad" "count" "I", Cond.fieldLink RX3 9 "DareBridge$Pad" "signs" "[I"]
def wsX7_unhurt_r2 : List Cond := [Cond.static yX7_at, Cond.code yX7_at cX7_at 2 (some .int), Cond.methodLink RX3 27 yX3_canStand, Cond.static yX3_canStand, Cond.code yX3_canStand cX3_canStand 3 (some .boolean), Cond.methodLink RX3 31 yX3_isLetter, Cond.static yX3_isLetter, Cond.code yX3_isLetter cX3_isLetter 1 (some .boolean), Cond.methodLink RX7 280 yX4_play, Cond.instanceMethod yX4_play, Cond.selects RX4 yX4_play yX4_play, Cond.initialized RX4, Cond.code yX4_play cX4_play 4 none, Cond.fieldLink RX4 33 "DareBridge$Pad" "count" "I", Cond.fieldLink RX4 39 "DareBridge$Pad" "signs" "[I", Cond.fieldLink RX4 12 "DareBridge$Summer" "after" "LDareBridge$Town;", Cond.fieldLink RX4 53 "DareBridge$Summer" "why" "I", Cond.fieldLink RX4 56 "DareBridge$Summer" "events" "I", Cond.methodLink RX4 29 yX4_begin, Cond.instanceMethod yX4_begin, Cond.selects RX4 yX4_begin yX4_begin, Cond.code yX4_begin cX4_begin 3 none, Cond.fieldLink RX4 18 "DareBridge$Summer" "ties" "[I", Cond.fieldLink RX4 25 "DareBridge$Summer" "luck" "LDareBridge$Chance;"]
def wsX7_unhurt_r3 : List Cond := [Cond.fieldLink RX4 68 "DareBridge$Summer" "done" "I", Cond.fieldLink RX4 71 "DareBridge$Summer" "refused" "I", Cond.fieldLink RX4 74 "DareBridge$Summer" "doubled" "I", Cond.fieldLink RX4 77 "DareBridge$Summer" "heights" "I", Cond.methodLink RX4 59 yX5_copyFrom, Cond.instanceMethod yX5_copyFrom, Cond.selects RX5 yX5_copyFrom yX5_copyFrom, Cond.initialized RX5, Cond.code yX5_copyFrom cX5_copyFrom 2 none, Cond.fieldLink RX5 9 "DareBridge$Town" "rules" "[I", Cond.fieldLink RX5 15 "DareBridge$Town" "there" "[I", Cond.fieldLink RX5 18 "DareBridge$Town" "skill" "[I", Cond.fieldLink RX5 21 "DareBridge$Town" "fear" "[I", Cond.fieldLink RX5 24 "DareBridge$Town" "pride" "[I", Cond.fieldLink RX5 27 "DareBridge$Town" "wish" "[I", Cond.fieldLink RX5 30 "DareBridge$Town" "high" "[I", Cond.fieldLink RX5 33 "DareBridge$Town" "fame" "[I", Cond.fieldLink RX5 36 "DareBridge$Town" "plaster" "[I", Cond.fieldLink RX5 39 "DareBridge$Town" "sightOf" "[I", Cond.fieldLink RX5 42 "DareBridge$Town" "sightHeight" "[I", Cond.fieldLink RX5 45 "DareBridge$Town" "sightDid" "[I", Cond.fieldLink RX5 48 "DareBridge$Town" "sights" "I", Cond.static yX7_copyRow, Cond.code yX7_copyRow cX7_copyRow 3 none]
def wsX7_unhurt_r4 : List Cond := [Cond.methodLink RX7 94 yX7_at, Cond.methodLink RX7 107 yX7_put, Cond.static yX7_put, Cond.code yX7_put cX7_put 3 none, Cond.methodLink RX4 66 yX0_begin, Cond.instanceMethod yX0_begin, Cond.selects RX0 yX0_begin yX0_begin, Cond.initialized RX0, Cond.code yX0_begin cX0_begin 1 none, Cond.fieldLink RX0 7 "DareBridge$Chance" "upper" "J", Cond.fieldLink RX0 13 "DareBridge$Chance" "lower" "J", Cond.methodLink RX4 46 yX5_night, Cond.instanceMethod yX5_night, Cond.selects RX5 yX5_night yX5_night, Cond.code yX5_night cX5_night 4 none, Cond.methodLink RX5 73 Lib.Math.max.name, Cond.static Lib.Math.max.name, Cond.initialized "java/lang/Math", Cond.code Lib.Math.max.name Lib.Math.max.code 2 (some .int), Cond.methodLink RX5 67 Lib.Math.min.name, Cond.static Lib.Math.min.name, Cond.code Lib.Math.min.name Lib.Math.min.code 2 (some .int), Cond.methodLink RX4 49 yX4_playDare, Cond.instanceMethod yX4_playDare]
def wsX7_unhurt_r5 : List Cond := [Cond.selects RX4 yX4_playDare yX4_playDare, Cond.code yX4_playDare cX4_playDare 7 none, Cond.methodLink RX4 80 yX5_whyNot, Cond.instanceMethod yX5_whyNot, Cond.selects RX5 yX5_whyNot yX5_whyNot, Cond.code yX5_whyNot cX5_whyNot 4 (some .int), Cond.methodLink RX5 90 yX5_isThere, Cond.instanceMethod yX5_isThere, Cond.selects RX5 yX5_isThere yX5_isThere, Cond.code yX5_isThere cX5_isThere 2 (some .boolean), Cond.methodLink RX4 84 yX4_reckon, Cond.instanceMethod yX4_reckon, Cond.selects RX4 yX4_reckon yX4_reckon, Cond.code yX4_reckon cX4_reckon 3 none, Cond.methodLink RX4 95 yX5_oddsOf, Cond.instanceMethod yX5_oddsOf, Cond.selects RX5 yX5_oddsOf yX5_oddsOf, Cond.code yX5_oddsOf cX5_oddsOf 4 (some .int), Cond.methodLink RX4 99 yX0_goesWell, Cond.instanceMethod yX0_goesWell, Cond.selects RX0 yX0_goesWell yX0_goesWell, Cond.code yX0_goesWell cX0_goesWell 2 none, Cond.constantLong RX0 16 (10), Cond.methodLink RX4 88 yX5_perform]
def wsX7_unhurt_r6 : List Cond := [Cond.instanceMethod yX5_perform, Cond.selects RX5 yX5_perform yX5_perform, Cond.code yX5_perform cX5_perform 4 (some .boolean), Cond.static yX7_drawAfter, Cond.code yX7_drawAfter cX7_drawAfter 1 (some .int), Cond.constant RX7 284 (65537), Cond.methodLink RX5 76 yX5_oddsOf, Cond.methodLink RX4 92 yX5_refuse, Cond.instanceMethod yX5_refuse, Cond.selects RX5 yX5_refuse yX5_refuse, Cond.code yX5_refuse cX5_refuse 3 none, Cond.methodLink RX7 172 yX0_lowest, Cond.instanceMethod yX0_lowest, Cond.selects RX0 yX0_lowest yX0_lowest, Cond.code yX0_lowest cX0_lowest 9 (some .long)]
def wsX7_unhurt : List Cond := .code yX7_unhurt cX7_unhurt 3 (some .long) :: ((wsX7_unhurt_r1 ++ (wsX7_unhurt_r2 ++ (wsX7_unhurt_r3 ++ (wsX7_unhurt_r4 ++ (wsX7_unhurt_r5 ++ wsX7_unhurt_r6))))) ++ wsX70 ++ wsX40 ++ wsX30 ++ wsX50 ++ wsX00)
def wsX7_refusalOfHeight : List Cond := .code yX7_refusalOfHeight cX7_refusalOfHeight 3 (some .int) :: ([.fieldLink RX7 10 "DareBridge" "now" "LDareBridge$Town;", .methodLink RX7 82 yX5_isThere, .instanceMethod yX5_isThere, .selects RX5 yX5_isThere yX5_isThere, .initialized RX5, .code yX5_isThere cX5_isThere 2 (some .boolean), .fieldLink RX5 15 "DareBridge$Town" "there" "[I", .static yX7_at, .initialized RX7, .code yX7_at cX7_at 2 (some .int), .methodLink RX7 64 yX7_within, .static yX7_within, .code yX7_within cX7_within 3 (some .boolean)] ++ wsX70 ++ wsX50)
def wsX7_odds_r1 : List Cond := [Cond.fieldLink RX7 10 "DareBridge" "now" "LDareBridge$Town;", Cond.methodLink RX7 178 yX7_refusalOfHeight, Cond.instanceMethod yX7_refusalOfHeight, Cond.selects RX7 yX7_refusalOfHeight yX7_refusalOfHeight, Cond.initialized RX7, Cond.code yX7_refusalOfHeight cX7_refusalOfHeight 3 (some .int), Cond.methodLink RX7 82 yX5_isThere, Cond.instanceMethod yX5_isThere, Cond.selects RX5 yX5_isThere yX5_isThere, Cond.initialized RX5, Cond.code yX5_isThere cX5_isThere 2 (some .boolean), Cond.fieldLink RX5 15 "DareBridge$Town" "there" "[I", Cond.static yX7_at, Cond.code yX7_at cX7_at 2 (some .int), Cond.methodLink RX7 64 yX7_within, Cond.static yX7_within, Cond.code yX7_within cX7_within 3 (some .boolean), Cond.methodLink RX7 181 yX5_oddsOf, Cond.instanceMethod yX5_oddsOf, Cond.selects RX5 yX5_oddsOf yX5_oddsOf, Cond.code yX5_oddsOf cX5_oddsOf 4 (some .int), Cond.fieldLink RX5 9 "DareBridge$Town" "rules" "[I", Cond.fieldLink RX5 18 "DareBridge$Town" "skill" "[I", Cond.methodLink RX5 67 Lib.Math.min.name]
def wsX7_odds_r2 : List Cond := [Cond.static Lib.Math.min.name, Cond.initialized "java/lang/Math", Cond.code Lib.Math.min.name Lib.Math.min.code 2 (some .int), Cond.methodLink RX5 73 Lib.Math.max.name, Cond.static Lib.Math.max.name, Cond.code Lib.Math.max.name Lib.Math.max.code 2 (some .int)]
def wsX7_odds : List Cond := .code yX7_odds cX7_odds 4 (some .int) :: ((wsX7_odds_r1 ++ wsX7_odds_r2) ++ wsX70 ++ wsX50)
def wsX7_worth_r1 : List Cond := [Cond.fieldLink RX7 10 "DareBridge" "now" "LDareBridge$Town;", Cond.constant RX7 187 (1000000), Cond.methodLink RX7 178 yX7_refusalOfHeight, Cond.instanceMethod yX7_refusalOfHeight, Cond.selects RX7 yX7_refusalOfHeight yX7_refusalOfHeight, Cond.initialized RX7, Cond.code yX7_refusalOfHeight cX7_refusalOfHeight 3 (some .int), Cond.methodLink RX7 82 yX5_isThere, Cond.instanceMethod yX5_isThere, Cond.selects RX5 yX5_isThere yX5_isThere, Cond.initialized RX5, Cond.code yX5_isThere cX5_isThere 2 (some .boolean), Cond.fieldLink RX5 15 "DareBridge$Town" "there" "[I", Cond.static yX7_at, Cond.code yX7_at cX7_at 2 (some .int), Cond.methodLink RX7 64 yX7_within, Cond.static yX7_within, Cond.code yX7_within cX7_within 3 (some .boolean), Cond.methodLink RX7 184 yX5_prideOf, Cond.instanceMethod yX5_prideOf, Cond.selects RX5 yX5_prideOf yX5_prideOf, Cond.code yX5_prideOf cX5_prideOf 2 (some .int), Cond.fieldLink RX5 24 "DareBridge$Town" "pride" "[I", Cond.methodLink RX7 188 yX5_worthDone]
def wsX7_worth_r2 : List Cond := [Cond.instanceMethod yX5_worthDone, Cond.selects RX5 yX5_worthDone yX5_worthDone, Cond.code yX5_worthDone cX5_worthDone 5 (some .int), Cond.fieldLink RX5 9 "DareBridge$Town" "rules" "[I", Cond.fieldLink RX5 21 "DareBridge$Town" "fear" "[I", Cond.methodLink RX5 76 yX5_oddsOf, Cond.instanceMethod yX5_oddsOf, Cond.selects RX5 yX5_oddsOf yX5_oddsOf, Cond.code yX5_oddsOf cX5_oddsOf 4 (some .int), Cond.fieldLink RX5 18 "DareBridge$Town" "skill" "[I", Cond.methodLink RX5 67 Lib.Math.min.name, Cond.static Lib.Math.min.name, Cond.initialized "java/lang/Math", Cond.code Lib.Math.min.name Lib.Math.min.code 2 (some .int), Cond.methodLink RX5 73 Lib.Math.max.name, Cond.static Lib.Math.max.name, Cond.code Lib.Math.max.name Lib.Math.max.code 2 (some .int), Cond.methodLink RX7 192 yX5_worthRefused, Cond.static yX5_worthRefused, Cond.code yX5_worthRefused cX5_worthRefused 2 (some .int)]
def wsX7_worth : List Cond := .code yX7_worth cX7_worth 6 (some .int) :: ((wsX7_worth_r1 ++ wsX7_worth_r2) ++ wsX70 ++ wsX50)
def wsX7_does_r1 : List Cond := [Cond.fieldLink RX7 10 "DareBridge" "now" "LDareBridge$Town;", Cond.methodLink RX7 178 yX7_refusalOfHeight, Cond.instanceMethod yX7_refusalOfHeight, Cond.selects RX7 yX7_refusalOfHeight yX7_refusalOfHeight, Cond.initialized RX7, Cond.code yX7_refusalOfHeight cX7_refusalOfHeight 3 (some .int), Cond.methodLink RX7 82 yX5_isThere, Cond.instanceMethod yX5_isThere, Cond.selects RX5 yX5_isThere yX5_isThere, Cond.initialized RX5, Cond.code yX5_isThere cX5_isThere 2 (some .boolean), Cond.fieldLink RX5 15 "DareBridge$Town" "there" "[I", Cond.static yX7_at, Cond.code yX7_at cX7_at 2 (some .int), Cond.methodLink RX7 64 yX7_within, Cond.static yX7_within, Cond.code yX7_within cX7_within 3 (some .boolean), Cond.methodLink RX7 184 yX5_prideOf, Cond.instanceMethod yX5_prideOf, Cond.selects RX5 yX5_prideOf yX5_prideOf, Cond.code yX5_prideOf cX5_prideOf 2 (some .int), Cond.fieldLink RX5 24 "DareBridge$Town" "pride" "[I", Cond.methodLink RX7 195 yX5_dares, Cond.instanceMethod yX5_dares]
def wsX7_does_r2 : List Cond := [Cond.selects RX5 yX5_dares yX5_dares, Cond.code yX5_dares cX5_dares 4 (some .boolean), Cond.methodLink RX5 79 yX5_worthDone, Cond.instanceMethod yX5_worthDone, Cond.selects RX5 yX5_worthDone yX5_worthDone, Cond.code yX5_worthDone cX5_worthDone 5 (some .int), Cond.fieldLink RX5 9 "DareBridge$Town" "rules" "[I", Cond.fieldLink RX5 21 "DareBridge$Town" "fear" "[I", Cond.methodLink RX5 76 yX5_oddsOf, Cond.instanceMethod yX5_oddsOf, Cond.selects RX5 yX5_oddsOf yX5_oddsOf, Cond.code yX5_oddsOf cX5_oddsOf 4 (some .int), Cond.fieldLink RX5 18 "DareBridge$Town" "skill" "[I", Cond.methodLink RX5 67 Lib.Math.min.name, Cond.static Lib.Math.min.name, Cond.initialized "java/lang/Math", Cond.code Lib.Math.min.name Lib.Math.min.code 2 (some .int), Cond.methodLink RX5 73 Lib.Math.max.name, Cond.static Lib.Math.max.name, Cond.code Lib.Math.max.name Lib.Math.max.code 2 (some .int), Cond.methodLink RX5 83 yX5_worthRefused, Cond.static yX5_worthRefused, Cond.code yX5_worthRefused cX5_worthRefused 2 (some .int)]
def wsX7_does : List Cond := .code yX7_does cX7_does 4 (some .int) :: ((wsX7_does_r1 ++ wsX7_does_r2) ++ wsX70 ++ wsX50)
def wsX7_nerve_r1 : List Cond := [Cond.fieldLink RX7 10 "DareBridge" "now" "LDareBridge$Town;", Cond.methodLink RX7 82 yX5_isThere, Cond.instanceMethod yX5_isThere, Cond.selects RX5 yX5_isThere yX5_isThere, Cond.initialized RX5, Cond.code yX5_isThere cX5_isThere 2 (some .boolean), Cond.fieldLink RX5 15 "DareBridge$Town" "there" "[I", Cond.static yX7_at, Cond.initialized RX7, Cond.code yX7_at cX7_at 2 (some .int), Cond.methodLink RX7 64 yX7_within, Cond.static yX7_within, Cond.code yX7_within cX7_within 3 (some .boolean), Cond.methodLink RX7 198 yX5_surest, Cond.instanceMethod yX5_surest, Cond.selects RX5 yX5_surest yX5_surest, Cond.code yX5_surest cX5_surest 3 (some .int), Cond.methodLink RX5 76 yX5_oddsOf, Cond.instanceMethod yX5_oddsOf, Cond.selects RX5 yX5_oddsOf yX5_oddsOf, Cond.code yX5_oddsOf cX5_oddsOf 4 (some .int), Cond.fieldLink RX5 9 "DareBridge$Town" "rules" "[I", Cond.fieldLink RX5 18 "DareBridge$Town" "skill" "[I", Cond.methodLink RX5 67 Lib.Math.min.name]
def wsX7_nerve_r2 : List Cond := [Cond.static Lib.Math.min.name, Cond.initialized "java/lang/Math", Cond.code Lib.Math.min.name Lib.Math.min.code 2 (some .int), Cond.methodLink RX5 73 Lib.Math.max.name, Cond.static Lib.Math.max.name, Cond.code Lib.Math.max.name Lib.Math.max.code 2 (some .int), Cond.methodLink RX7 201 yX5_leastRefused, Cond.instanceMethod yX5_leastRefused, Cond.selects RX5 yX5_leastRefused yX5_leastRefused, Cond.code yX5_leastRefused cX5_leastRefused 3 (some .int), Cond.fieldLink RX5 24 "DareBridge$Town" "pride" "[I", Cond.methodLink RX5 86 yX5_dares, Cond.instanceMethod yX5_dares, Cond.selects RX5 yX5_dares yX5_dares, Cond.code yX5_dares cX5_dares 4 (some .boolean), Cond.methodLink RX5 79 yX5_worthDone, Cond.instanceMethod yX5_worthDone, Cond.selects RX5 yX5_worthDone yX5_worthDone, Cond.code yX5_worthDone cX5_worthDone 5 (some .int), Cond.fieldLink RX5 21 "DareBridge$Town" "fear" "[I", Cond.methodLink RX5 83 yX5_worthRefused, Cond.static yX5_worthRefused, Cond.code yX5_worthRefused cX5_worthRefused 2 (some .int)]
def wsX7_nerve : List Cond := .code yX7_nerve cX7_nerve 4 (some .int) :: ((wsX7_nerve_r1 ++ wsX7_nerve_r2) ++ wsX70 ++ wsX50)
def wsX7_refusalOfClimb : List Cond := .code yX7_refusalOfClimb cX7_refusalOfClimb 5 (some .int) :: ([.fieldLink RX7 10 "DareBridge" "now" "LDareBridge$Town;", .methodLink RX7 82 yX5_isThere, .instanceMethod yX5_isThere, .selects RX5 yX5_isThere yX5_isThere, .initialized RX5, .code yX5_isThere cX5_isThere 2 (some .boolean), .fieldLink RX5 15 "DareBridge$Town" "there" "[I", .static yX7_at, .initialized RX7, .code yX7_at cX7_at 2 (some .int), .methodLink RX7 64 yX7_within, .static yX7_within, .code yX7_within cX7_within 3 (some .boolean)] ++ wsX70 ++ wsX50)
def wsX7_climb_r1 : List Cond := [Cond.fieldLink RX7 46 "DareBridge" "climbing" "LDareBridge$Climb;", Cond.fieldLink RX7 10 "DareBridge" "now" "LDareBridge$Town;", Cond.fieldLink RX7 211 "DareBridge$Climb" "done" "I", Cond.fieldLink RX7 212 "DareBridge$Climb" "last" "I", Cond.fieldLink RX7 215 "DareBridge$Climb" "refuser" "I", Cond.methodLink RX7 204 yX7_refusalOfClimb, Cond.instanceMethod yX7_refusalOfClimb, Cond.selects RX7 yX7_refusalOfClimb yX7_refusalOfClimb, Cond.initialized RX7, Cond.code yX7_refusalOfClimb cX7_refusalOfClimb 5 (some .int), Cond.methodLink RX7 82 yX5_isThere, Cond.instanceMethod yX5_isThere, Cond.selects RX5 yX5_isThere yX5_isThere, Cond.initialized RX5, Cond.code yX5_isThere cX5_isThere 2 (some .boolean), Cond.fieldLink RX5 15 "DareBridge$Town" "there" "[I", Cond.static yX7_at, Cond.code yX7_at cX7_at 2 (some .int), Cond.methodLink RX7 64 yX7_within, Cond.static yX7_within, Cond.code yX7_within cX7_within 3 (some .boolean), Cond.methodLink RX7 208 yX1_go, Cond.instanceMethod yX1_go, Cond.selects RX1 yX1_go yX1_go]
def wsX7_climb_r2 : List Cond := [Cond.initialized RX1, Cond.code yX1_go cX1_go 9 none, Cond.fieldLink RX1 12 "DareBridge$Climb" "luck" "LDareBridge$Chance;", Cond.fieldLink RX1 21 "DareBridge$Climb" "done" "I", Cond.fieldLink RX1 25 "DareBridge$Climb" "last" "I", Cond.fieldLink RX1 28 "DareBridge$Climb" "refuser" "I", Cond.methodLink RX1 37 Lib.Math.max.name, Cond.static Lib.Math.max.name, Cond.initialized "java/lang/Math", Cond.code Lib.Math.max.name Lib.Math.max.code 2 (some .int), Cond.methodLink RX1 18 yX0_begin, Cond.instanceMethod yX0_begin, Cond.selects RX0 yX0_begin yX0_begin, Cond.initialized RX0, Cond.code yX0_begin cX0_begin 1 none, Cond.fieldLink RX0 7 "DareBridge$Chance" "upper" "J", Cond.fieldLink RX0 13 "DareBridge$Chance" "lower" "J", Cond.methodLink RX1 31 yX5_rule, Cond.instanceMethod yX5_rule, Cond.selects RX5 yX5_rule yX5_rule, Cond.code yX5_rule cX5_rule 2 (some .int), Cond.fieldLink RX5 9 "DareBridge$Town" "rules" "[I", Cond.methodLink RX1 43 yX5_prideOf, Cond.instanceMethod yX5_prideOf]
def wsX7_climb_r3 : List Cond := [Cond.selects RX5 yX5_prideOf yX5_prideOf, Cond.code yX5_prideOf cX5_prideOf 2 (some .int), Cond.fieldLink RX5 24 "DareBridge$Town" "pride" "[I", Cond.methodLink RX1 46 yX5_dares, Cond.instanceMethod yX5_dares, Cond.selects RX5 yX5_dares yX5_dares, Cond.code yX5_dares cX5_dares 4 (some .boolean), Cond.methodLink RX5 79 yX5_worthDone, Cond.instanceMethod yX5_worthDone, Cond.selects RX5 yX5_worthDone yX5_worthDone, Cond.code yX5_worthDone cX5_worthDone 5 (some .int), Cond.fieldLink RX5 21 "DareBridge$Town" "fear" "[I", Cond.methodLink RX5 76 yX5_oddsOf, Cond.instanceMethod yX5_oddsOf, Cond.selects RX5 yX5_oddsOf yX5_oddsOf, Cond.code yX5_oddsOf cX5_oddsOf 4 (some .int), Cond.fieldLink RX5 18 "DareBridge$Town" "skill" "[I", Cond.methodLink RX5 67 Lib.Math.min.name, Cond.static Lib.Math.min.name, Cond.code Lib.Math.min.name Lib.Math.min.code 2 (some .int), Cond.methodLink RX5 73 Lib.Math.max.name, Cond.methodLink RX5 83 yX5_worthRefused, Cond.static yX5_worthRefused, Cond.code yX5_worthRefused cX5_worthRefused 2 (some .int)]
def wsX7_climb_r4 : List Cond := [Cond.methodLink RX1 50 yX5_oddsOf, Cond.methodLink RX1 53 yX0_goesWell, Cond.instanceMethod yX0_goesWell, Cond.selects RX0 yX0_goesWell yX0_goesWell, Cond.code yX0_goesWell cX0_goesWell 2 none, Cond.constantLong RX0 16 (10)]
def wsX7_climb : List Cond := .code yX7_climb cX7_climb 7 (some .int) :: ((wsX7_climb_r1 ++ (wsX7_climb_r2 ++ (wsX7_climb_r3 ++ wsX7_climb_r4))) ++ wsX70 ++ wsX10 ++ wsX50 ++ wsX00)
def wsX7_safe_r1 : List Cond := [Cond.constantLong RX7 161 (-1000000000000000000), Cond.constantLong RX7 159 (-1000000000000000002), Cond.fieldLink RX7 46 "DareBridge" "climbing" "LDareBridge$Climb;", Cond.fieldLink RX7 10 "DareBridge" "now" "LDareBridge$Town;", Cond.fieldLink RX7 218 "DareBridge$Climb" "luck" "LDareBridge$Chance;", Cond.methodLink RX7 204 yX7_refusalOfClimb, Cond.instanceMethod yX7_refusalOfClimb, Cond.selects RX7 yX7_refusalOfClimb yX7_refusalOfClimb, Cond.initialized RX7, Cond.code yX7_refusalOfClimb cX7_refusalOfClimb 5 (some .int), Cond.methodLink RX7 82 yX5_isThere, Cond.instanceMethod yX5_isThere, Cond.selects RX5 yX5_isThere yX5_isThere, Cond.initialized RX5, Cond.code yX5_isThere cX5_isThere 2 (some .boolean), Cond.fieldLink RX5 15 "DareBridge$Town" "there" "[I", Cond.static yX7_at, Cond.code yX7_at cX7_at 2 (some .int), Cond.methodLink RX7 64 yX7_within, Cond.static yX7_within, Cond.code yX7_within cX7_within 3 (some .boolean), Cond.methodLink RX7 208 yX1_go, Cond.instanceMethod yX1_go, Cond.selects RX1 yX1_go yX1_go]
def wsX7_safe_r2 : List Cond := [Cond.initialized RX1, Cond.code yX1_go cX1_go 9 none, Cond.fieldLink RX1 12 "DareBridge$Climb" "luck" "LDareBridge$Chance;", Cond.fieldLink RX1 21 "DareBridge$Climb" "done" "I", Cond.fieldLink RX1 25 "DareBridge$Climb" "last" "I", Cond.fieldLink RX1 28 "DareBridge$Climb" "refuser" "I", Cond.methodLink RX1 37 Lib.Math.max.name, Cond.static Lib.Math.max.name, Cond.initialized "java/lang/Math", Cond.code Lib.Math.max.name Lib.Math.max.code 2 (some .int), Cond.methodLink RX1 18 yX0_begin, Cond.instanceMethod yX0_begin, Cond.selects RX0 yX0_begin yX0_begin, Cond.initialized RX0, Cond.code yX0_begin cX0_begin 1 none, Cond.fieldLink RX0 7 "DareBridge$Chance" "upper" "J", Cond.fieldLink RX0 13 "DareBridge$Chance" "lower" "J", Cond.methodLink RX1 31 yX5_rule, Cond.instanceMethod yX5_rule, Cond.selects RX5 yX5_rule yX5_rule, Cond.code yX5_rule cX5_rule 2 (some .int), Cond.fieldLink RX5 9 "DareBridge$Town" "rules" "[I", Cond.methodLink RX1 43 yX5_prideOf, Cond.instanceMethod yX5_prideOf]
def wsX7_safe_r3 : List Cond := [Cond.selects RX5 yX5_prideOf yX5_prideOf, Cond.code yX5_prideOf cX5_prideOf 2 (some .int), Cond.fieldLink RX5 24 "DareBridge$Town" "pride" "[I", Cond.methodLink RX1 46 yX5_dares, Cond.instanceMethod yX5_dares, Cond.selects RX5 yX5_dares yX5_dares, Cond.code yX5_dares cX5_dares 4 (some .boolean), Cond.methodLink RX5 79 yX5_worthDone, Cond.instanceMethod yX5_worthDone, Cond.selects RX5 yX5_worthDone yX5_worthDone, Cond.code yX5_worthDone cX5_worthDone 5 (some .int), Cond.fieldLink RX5 21 "DareBridge$Town" "fear" "[I", Cond.methodLink RX5 76 yX5_oddsOf, Cond.instanceMethod yX5_oddsOf, Cond.selects RX5 yX5_oddsOf yX5_oddsOf, Cond.code yX5_oddsOf cX5_oddsOf 4 (some .int), Cond.fieldLink RX5 18 "DareBridge$Town" "skill" "[I", Cond.methodLink RX5 67 Lib.Math.min.name, Cond.static Lib.Math.min.name, Cond.code Lib.Math.min.name Lib.Math.min.code 2 (some .int), Cond.methodLink RX5 73 Lib.Math.max.name, Cond.methodLink RX5 83 yX5_worthRefused, Cond.static yX5_worthRefused, Cond.code yX5_worthRefused cX5_worthRefused 2 (some .int)]
def wsX7_safe_r4 : List Cond := [Cond.methodLink RX1 50 yX5_oddsOf, Cond.methodLink RX1 53 yX0_goesWell, Cond.instanceMethod yX0_goesWell, Cond.selects RX0 yX0_goesWell yX0_goesWell, Cond.code yX0_goesWell cX0_goesWell 2 none, Cond.constantLong RX0 16 (10), Cond.methodLink RX7 172 yX0_lowest, Cond.instanceMethod yX0_lowest, Cond.selects RX0 yX0_lowest yX0_lowest, Cond.code yX0_lowest cX0_lowest 9 (some .long)]
def wsX7_safe : List Cond := .code yX7_safe cX7_safe 7 (some .long) :: ((wsX7_safe_r1 ++ (wsX7_safe_r2 ++ (wsX7_safe_r3 ++ wsX7_safe_r4))) ++ wsX70 ++ wsX10 ++ wsX50 ++ wsX00)
def wsX7_law_r1 : List Cond := [Cond.fieldLink RX7 46 "DareBridge" "climbing" "LDareBridge$Climb;", Cond.fieldLink RX7 10 "DareBridge" "now" "LDareBridge$Town;", Cond.fieldLink RX7 218 "DareBridge$Climb" "luck" "LDareBridge$Chance;", Cond.methodLink RX7 204 yX7_refusalOfClimb, Cond.instanceMethod yX7_refusalOfClimb, Cond.selects RX7 yX7_refusalOfClimb yX7_refusalOfClimb, Cond.initialized RX7, Cond.code yX7_refusalOfClimb cX7_refusalOfClimb 5 (some .int), Cond.methodLink RX7 82 yX5_isThere, Cond.instanceMethod yX5_isThere, Cond.selects RX5 yX5_isThere yX5_isThere, Cond.initialized RX5, Cond.code yX5_isThere cX5_isThere 2 (some .boolean), Cond.fieldLink RX5 15 "DareBridge$Town" "there" "[I", Cond.static yX7_at, Cond.code yX7_at cX7_at 2 (some .int), Cond.methodLink RX7 64 yX7_within, Cond.static yX7_within, Cond.code yX7_within cX7_within 3 (some .boolean), Cond.methodLink RX7 208 yX1_go, Cond.instanceMethod yX1_go, Cond.selects RX1 yX1_go yX1_go, Cond.initialized RX1, Cond.code yX1_go cX1_go 9 none]
def wsX7_law_r2 : List Cond := [Cond.fieldLink RX1 12 "DareBridge$Climb" "luck" "LDareBridge$Chance;", Cond.fieldLink RX1 21 "DareBridge$Climb" "done" "I", Cond.fieldLink RX1 25 "DareBridge$Climb" "last" "I", Cond.fieldLink RX1 28 "DareBridge$Climb" "refuser" "I", Cond.methodLink RX1 37 Lib.Math.max.name, Cond.static Lib.Math.max.name, Cond.initialized "java/lang/Math", Cond.code Lib.Math.max.name Lib.Math.max.code 2 (some .int), Cond.methodLink RX1 18 yX0_begin, Cond.instanceMethod yX0_begin, Cond.selects RX0 yX0_begin yX0_begin, Cond.initialized RX0, Cond.code yX0_begin cX0_begin 1 none, Cond.fieldLink RX0 7 "DareBridge$Chance" "upper" "J", Cond.fieldLink RX0 13 "DareBridge$Chance" "lower" "J", Cond.methodLink RX1 31 yX5_rule, Cond.instanceMethod yX5_rule, Cond.selects RX5 yX5_rule yX5_rule, Cond.code yX5_rule cX5_rule 2 (some .int), Cond.fieldLink RX5 9 "DareBridge$Town" "rules" "[I", Cond.methodLink RX1 43 yX5_prideOf, Cond.instanceMethod yX5_prideOf, Cond.selects RX5 yX5_prideOf yX5_prideOf, Cond.code yX5_prideOf cX5_prideOf 2 (some .int)]
def wsX7_law_r3 : List Cond := [Cond.fieldLink RX5 24 "DareBridge$Town" "pride" "[I", Cond.methodLink RX1 46 yX5_dares, Cond.instanceMethod yX5_dares, Cond.selects RX5 yX5_dares yX5_dares, Cond.code yX5_dares cX5_dares 4 (some .boolean), Cond.methodLink RX5 79 yX5_worthDone, Cond.instanceMethod yX5_worthDone, Cond.selects RX5 yX5_worthDone yX5_worthDone, Cond.code yX5_worthDone cX5_worthDone 5 (some .int), Cond.fieldLink RX5 21 "DareBridge$Town" "fear" "[I", Cond.methodLink RX5 76 yX5_oddsOf, Cond.instanceMethod yX5_oddsOf, Cond.selects RX5 yX5_oddsOf yX5_oddsOf, Cond.code yX5_oddsOf cX5_oddsOf 4 (some .int), Cond.fieldLink RX5 18 "DareBridge$Town" "skill" "[I", Cond.methodLink RX5 67 Lib.Math.min.name, Cond.static Lib.Math.min.name, Cond.code Lib.Math.min.name Lib.Math.min.code 2 (some .int), Cond.methodLink RX5 73 Lib.Math.max.name, Cond.methodLink RX5 83 yX5_worthRefused, Cond.static yX5_worthRefused, Cond.code yX5_worthRefused cX5_worthRefused 2 (some .int), Cond.methodLink RX1 50 yX5_oddsOf, Cond.methodLink RX1 53 yX0_goesWell]
def wsX7_law_r4 : List Cond := [Cond.instanceMethod yX0_goesWell, Cond.selects RX0 yX0_goesWell yX0_goesWell, Cond.code yX0_goesWell cX0_goesWell 2 none, Cond.constantLong RX0 16 (10), Cond.methodLink RX7 219 yX0_isAtLeast, Cond.instanceMethod yX0_isAtLeast, Cond.selects RX0 yX0_isAtLeast yX0_isAtLeast, Cond.code yX0_isAtLeast cX0_isAtLeast 3 (some .boolean)]
def wsX7_law : List Cond := .code yX7_law cX7_law 8 (some .int) :: ((wsX7_law_r1 ++ (wsX7_law_r2 ++ (wsX7_law_r3 ++ wsX7_law_r4))) ++ wsX70 ++ wsX10 ++ wsX50 ++ wsX00)
def wsX7_game_r1 : List Cond := [Cond.fieldLink RX7 53 "DareBridge" "doubling" "LDareBridge$Game;", Cond.fieldLink RX7 10 "DareBridge" "now" "LDareBridge$Town;", Cond.fieldLink RX7 226 "DareBridge$Game" "choice" "I", Cond.constant RX7 187 (1000000), Cond.fieldLink RX7 229 "DareBridge$Game" "toDared" "I", Cond.fieldLink RX7 232 "DareBridge$Game" "toDarer" "I", Cond.methodLink RX7 204 yX7_refusalOfClimb, Cond.instanceMethod yX7_refusalOfClimb, Cond.selects RX7 yX7_refusalOfClimb yX7_refusalOfClimb, Cond.initialized RX7, Cond.code yX7_refusalOfClimb cX7_refusalOfClimb 5 (some .int), Cond.methodLink RX7 82 yX5_isThere, Cond.instanceMethod yX5_isThere, Cond.selects RX5 yX5_isThere yX5_isThere, Cond.initialized RX5, Cond.code yX5_isThere cX5_isThere 2 (some .boolean), Cond.fieldLink RX5 15 "DareBridge$Town" "there" "[I", Cond.static yX7_at, Cond.code yX7_at cX7_at 2 (some .int), Cond.methodLink RX7 64 yX7_within, Cond.static yX7_within, Cond.code yX7_within cX7_within 3 (some .boolean), Cond.methodLink RX7 223 yX2_solve, Cond.instanceMethod yX2_solve]
def wsX7_game_r2 : List Cond := [Cond.selects RX2 yX2_solve yX2_solve, Cond.initialized RX2, Cond.code yX2_solve cX2_solve 10 none, Cond.fieldLink RX2 9 "DareBridge$Game" "choice" "I", Cond.fieldLink RX2 15 "DareBridge$Game" "toDared" "I", Cond.fieldLink RX2 18 "DareBridge$Game" "toDarer" "I", Cond.methodLink RX2 27 Lib.Math.max.name, Cond.static Lib.Math.max.name, Cond.initialized "java/lang/Math", Cond.code Lib.Math.max.name Lib.Math.max.code 2 (some .int), Cond.methodLink RX2 21 yX5_rule, Cond.instanceMethod yX5_rule, Cond.selects RX5 yX5_rule yX5_rule, Cond.code yX5_rule cX5_rule 2 (some .int), Cond.fieldLink RX5 9 "DareBridge$Town" "rules" "[I", Cond.methodLink RX2 33 yX2_settle, Cond.instanceMethod yX2_settle, Cond.selects RX2 yX2_settle yX2_settle, Cond.code yX2_settle cX2_settle 13 none, Cond.methodLink RX2 37 yX5_prideOf, Cond.instanceMethod yX5_prideOf, Cond.selects RX5 yX5_prideOf yX5_prideOf, Cond.code yX5_prideOf cX5_prideOf 2 (some .int), Cond.fieldLink RX5 24 "DareBridge$Town" "pride" "[I"]
def wsX7_game_r3 : List Cond := [Cond.methodLink RX2 40 yX5_worthDone, Cond.instanceMethod yX5_worthDone, Cond.selects RX5 yX5_worthDone yX5_worthDone, Cond.code yX5_worthDone cX5_worthDone 5 (some .int), Cond.fieldLink RX5 21 "DareBridge$Town" "fear" "[I", Cond.methodLink RX5 76 yX5_oddsOf, Cond.instanceMethod yX5_oddsOf, Cond.selects RX5 yX5_oddsOf yX5_oddsOf, Cond.code yX5_oddsOf cX5_oddsOf 4 (some .int), Cond.fieldLink RX5 18 "DareBridge$Town" "skill" "[I", Cond.methodLink RX5 67 Lib.Math.min.name, Cond.static Lib.Math.min.name, Cond.code Lib.Math.min.name Lib.Math.min.code 2 (some .int), Cond.methodLink RX5 73 Lib.Math.max.name, Cond.methodLink RX2 44 yX5_worthRefused, Cond.static yX5_worthRefused, Cond.code yX5_worthRefused cX5_worthRefused 2 (some .int), Cond.methodLink RX2 47 yX2_settleFor, Cond.instanceMethod yX2_settleFor, Cond.selects RX2 yX2_settleFor yX2_settleFor, Cond.code yX2_settleFor cX2_settleFor 4 none]
def wsX7_game : List Cond := .code yX7_game cX7_game 7 (some .int) :: ((wsX7_game_r1 ++ (wsX7_game_r2 ++ wsX7_game_r3)) ++ wsX70 ++ wsX20 ++ wsX50)
def wsX7_enough_r1 : List Cond := [Cond.fieldLink RX7 10 "DareBridge" "now" "LDareBridge$Town;", Cond.methodLink RX7 82 yX5_isThere, Cond.instanceMethod yX5_isThere, Cond.selects RX5 yX5_isThere yX5_isThere, Cond.initialized RX5, Cond.code yX5_isThere cX5_isThere 2 (some .boolean), Cond.fieldLink RX5 15 "DareBridge$Town" "there" "[I", Cond.static yX7_at, Cond.initialized RX7, Cond.code yX7_at cX7_at 2 (some .int), Cond.methodLink RX7 235 yX5_joined, Cond.instanceMethod yX5_joined, Cond.selects RX5 yX5_joined yX5_joined, Cond.code yX5_joined cX5_joined 4 (some .int), Cond.methodLink RX5 98 yX5_joinedInRound, Cond.instanceMethod yX5_joinedInRound, Cond.selects RX5 yX5_joinedInRound yX5_joinedInRound, Cond.code yX5_joinedInRound cX5_joinedInRound 5 (some .int), Cond.fieldLink RX5 27 "DareBridge$Town" "wish" "[I", Cond.fieldLink RX5 24 "DareBridge$Town" "pride" "[I", Cond.methodLink RX5 101 yJ6_bitCount_0f7a4, Cond.static yJ6_bitCount_0f7a4, Cond.initialized RJ6, Cond.code yJ6_bitCount_0f7a4 cJ6_bitCount_0f7a4 1 (some .int)]
def wsX7_enough_r2 : List Cond := [Cond.constant RJ6 265 (1431655765), Cond.constant RJ6 266 (858993459), Cond.constant RJ6 267 (252645135), Cond.methodLink RX5 90 yX5_isThere]
def wsX7_enough : List Cond := .code yX7_enough cX7_enough 2 (some .int) :: ((wsX7_enough_r1 ++ wsX7_enough_r2) ++ wsX70 ++ wsX50)
def wsX7_holds_r1 : List Cond := [Cond.fieldLink RX7 10 "DareBridge" "now" "LDareBridge$Town;", Cond.methodLink RX7 82 yX5_isThere, Cond.instanceMethod yX5_isThere, Cond.selects RX5 yX5_isThere yX5_isThere, Cond.initialized RX5, Cond.code yX5_isThere cX5_isThere 2 (some .boolean), Cond.fieldLink RX5 15 "DareBridge$Town" "there" "[I", Cond.static yX7_at, Cond.initialized RX7, Cond.code yX7_at cX7_at 2 (some .int), Cond.methodLink RX7 235 yX5_joined, Cond.instanceMethod yX5_joined, Cond.selects RX5 yX5_joined yX5_joined, Cond.code yX5_joined cX5_joined 4 (some .int), Cond.methodLink RX5 98 yX5_joinedInRound, Cond.instanceMethod yX5_joinedInRound, Cond.selects RX5 yX5_joinedInRound yX5_joinedInRound, Cond.code yX5_joinedInRound cX5_joinedInRound 5 (some .int), Cond.fieldLink RX5 27 "DareBridge$Town" "wish" "[I", Cond.fieldLink RX5 24 "DareBridge$Town" "pride" "[I", Cond.methodLink RX5 101 yJ6_bitCount_0f7a4, Cond.static yJ6_bitCount_0f7a4, Cond.initialized RJ6, Cond.code yJ6_bitCount_0f7a4 cJ6_bitCount_0f7a4 1 (some .int)]
def wsX7_holds_r2 : List Cond := [Cond.constant RJ6 265 (1431655765), Cond.constant RJ6 266 (858993459), Cond.constant RJ6 267 (252645135), Cond.methodLink RX5 90 yX5_isThere, Cond.methodLink RX7 238 yX5_isMost, Cond.instanceMethod yX5_isMost, Cond.selects RX5 yX5_isMost yX5_isMost, Cond.code yX5_isMost cX5_isMost 2 (some .boolean), Cond.methodLink RX5 106 yX5_bits, Cond.instanceMethod yX5_bits, Cond.selects RX5 yX5_bits yX5_bits, Cond.code yX5_bits cX5_bits 3 (some .int)]
def wsX7_holds : List Cond := .code yX7_holds cX7_holds 2 (some .int) :: ((wsX7_holds_r1 ++ wsX7_holds_r2) ++ wsX70 ++ wsX50)
def wsX7_won_r1 : List Cond := [Cond.fieldLink RX7 10 "DareBridge" "now" "LDareBridge$Town;", Cond.methodLink RX7 64 yX7_within, Cond.static yX7_within, Cond.initialized RX7, Cond.code yX7_within cX7_within 3 (some .boolean), Cond.methodLink RX7 241 yX5_fewestToHold, Cond.instanceMethod yX5_fewestToHold, Cond.selects RX5 yX5_fewestToHold yX5_fewestToHold, Cond.initialized RX5, Cond.code yX5_fewestToHold cX5_fewestToHold 5 (some .int), Cond.fieldLink RX5 27 "DareBridge$Town" "wish" "[I", Cond.methodLink RX5 90 yX5_isThere, Cond.instanceMethod yX5_isThere, Cond.selects RX5 yX5_isThere yX5_isThere, Cond.code yX5_isThere cX5_isThere 2 (some .boolean), Cond.fieldLink RX5 15 "DareBridge$Town" "there" "[I", Cond.static yX7_at, Cond.code yX7_at cX7_at 2 (some .int), Cond.methodLink RX5 101 yJ6_bitCount_0f7a4, Cond.static yJ6_bitCount_0f7a4, Cond.initialized RJ6, Cond.code yJ6_bitCount_0f7a4 cJ6_bitCount_0f7a4 1 (some .int), Cond.constant RJ6 265 (1431655765), Cond.constant RJ6 266 (858993459)]
def wsX7_won_r2 : List Cond := [Cond.constant RJ6 267 (252645135), Cond.methodLink RX5 110 yX5_joined, Cond.instanceMethod yX5_joined, Cond.selects RX5 yX5_joined yX5_joined, Cond.code yX5_joined cX5_joined 4 (some .int), Cond.methodLink RX5 98 yX5_joinedInRound, Cond.instanceMethod yX5_joinedInRound, Cond.selects RX5 yX5_joinedInRound yX5_joinedInRound, Cond.code yX5_joinedInRound cX5_joinedInRound 5 (some .int), Cond.fieldLink RX5 24 "DareBridge$Town" "pride" "[I", Cond.methodLink RX5 113 yX5_isMost, Cond.instanceMethod yX5_isMost, Cond.selects RX5 yX5_isMost yX5_isMost, Cond.code yX5_isMost cX5_isMost 2 (some .boolean), Cond.methodLink RX5 106 yX5_bits, Cond.instanceMethod yX5_bits, Cond.selects RX5 yX5_bits yX5_bits, Cond.code yX5_bits cX5_bits 3 (some .int), Cond.methodLink RX7 76 yJ6_bitCount_0f7a4]
def wsX7_won : List Cond := .code yX7_won cX7_won 3 (some .int) :: ((wsX7_won_r1 ++ wsX7_won_r2) ++ wsX70 ++ wsX50)
def wsX7_refuser_r1 : List Cond := [Cond.fieldLink RX7 10 "DareBridge" "now" "LDareBridge$Town;", Cond.methodLink RX7 178 yX7_refusalOfHeight, Cond.instanceMethod yX7_refusalOfHeight, Cond.selects RX7 yX7_refusalOfHeight yX7_refusalOfHeight, Cond.initialized RX7, Cond.code yX7_refusalOfHeight cX7_refusalOfHeight 3 (some .int), Cond.methodLink RX7 82 yX5_isThere, Cond.instanceMethod yX5_isThere, Cond.selects RX5 yX5_isThere yX5_isThere, Cond.initialized RX5, Cond.code yX5_isThere cX5_isThere 2 (some .boolean), Cond.fieldLink RX5 15 "DareBridge$Town" "there" "[I", Cond.static yX7_at, Cond.code yX7_at cX7_at 2 (some .int), Cond.methodLink RX7 64 yX7_within, Cond.static yX7_within, Cond.code yX7_within cX7_within 3 (some .boolean), Cond.methodLink RX7 244 yX5_wouldRefuse, Cond.instanceMethod yX5_wouldRefuse, Cond.selects RX5 yX5_wouldRefuse yX5_wouldRefuse, Cond.code yX5_wouldRefuse cX5_wouldRefuse 3 (some .boolean), Cond.fieldLink RX5 36 "DareBridge$Town" "plaster" "[I", Cond.fieldLink RX5 30 "DareBridge$Town" "high" "[I", Cond.fieldLink RX5 24 "DareBridge$Town" "pride" "[I"]
def wsX7_refuser_r2 : List Cond := [Cond.methodLink RX5 90 yX5_isThere, Cond.methodLink RX5 86 yX5_dares, Cond.instanceMethod yX5_dares, Cond.selects RX5 yX5_dares yX5_dares, Cond.code yX5_dares cX5_dares 4 (some .boolean), Cond.methodLink RX5 79 yX5_worthDone, Cond.instanceMethod yX5_worthDone, Cond.selects RX5 yX5_worthDone yX5_worthDone, Cond.code yX5_worthDone cX5_worthDone 5 (some .int), Cond.fieldLink RX5 9 "DareBridge$Town" "rules" "[I", Cond.fieldLink RX5 21 "DareBridge$Town" "fear" "[I", Cond.methodLink RX5 76 yX5_oddsOf, Cond.instanceMethod yX5_oddsOf, Cond.selects RX5 yX5_oddsOf yX5_oddsOf, Cond.code yX5_oddsOf cX5_oddsOf 4 (some .int), Cond.fieldLink RX5 18 "DareBridge$Town" "skill" "[I", Cond.methodLink RX5 67 Lib.Math.min.name, Cond.static Lib.Math.min.name, Cond.initialized "java/lang/Math", Cond.code Lib.Math.min.name Lib.Math.min.code 2 (some .int), Cond.methodLink RX5 73 Lib.Math.max.name, Cond.static Lib.Math.max.name, Cond.code Lib.Math.max.name Lib.Math.max.code 2 (some .int), Cond.methodLink RX5 83 yX5_worthRefused]
def wsX7_refuser_r3 : List Cond := [Cond.static yX5_worthRefused, Cond.code yX5_worthRefused cX5_worthRefused 2 (some .int)]
def wsX7_refuser : List Cond := .code yX7_refuser cX7_refuser 5 (some .int) :: ((wsX7_refuser_r1 ++ (wsX7_refuser_r2 ++ wsX7_refuser_r3)) ++ wsX70 ++ wsX50)
def wsX7_likely_r1 : List Cond := [Cond.fieldLink RX7 10 "DareBridge" "now" "LDareBridge$Town;", Cond.methodLink RX7 178 yX7_refusalOfHeight, Cond.instanceMethod yX7_refusalOfHeight, Cond.selects RX7 yX7_refusalOfHeight yX7_refusalOfHeight, Cond.initialized RX7, Cond.code yX7_refusalOfHeight cX7_refusalOfHeight 3 (some .int), Cond.methodLink RX7 82 yX5_isThere, Cond.instanceMethod yX5_isThere, Cond.selects RX5 yX5_isThere yX5_isThere, Cond.initialized RX5, Cond.code yX5_isThere cX5_isThere 2 (some .boolean), Cond.fieldLink RX5 15 "DareBridge$Town" "there" "[I", Cond.static yX7_at, Cond.code yX7_at cX7_at 2 (some .int), Cond.methodLink RX7 64 yX7_within, Cond.static yX7_within, Cond.code yX7_within cX7_within 3 (some .boolean), Cond.methodLink RX7 195 yX5_dares, Cond.instanceMethod yX5_dares, Cond.selects RX5 yX5_dares yX5_dares, Cond.code yX5_dares cX5_dares 4 (some .boolean), Cond.methodLink RX5 79 yX5_worthDone, Cond.instanceMethod yX5_worthDone, Cond.selects RX5 yX5_worthDone yX5_worthDone]
def wsX7_likely_r2 : List Cond := [Cond.code yX5_worthDone cX5_worthDone 5 (some .int), Cond.fieldLink RX5 9 "DareBridge$Town" "rules" "[I", Cond.fieldLink RX5 21 "DareBridge$Town" "fear" "[I", Cond.methodLink RX5 76 yX5_oddsOf, Cond.instanceMethod yX5_oddsOf, Cond.selects RX5 yX5_oddsOf yX5_oddsOf, Cond.code yX5_oddsOf cX5_oddsOf 4 (some .int), Cond.fieldLink RX5 18 "DareBridge$Town" "skill" "[I", Cond.methodLink RX5 67 Lib.Math.min.name, Cond.static Lib.Math.min.name, Cond.initialized "java/lang/Math", Cond.code Lib.Math.min.name Lib.Math.min.code 2 (some .int), Cond.methodLink RX5 73 Lib.Math.max.name, Cond.static Lib.Math.max.name, Cond.code Lib.Math.max.name Lib.Math.max.code 2 (some .int), Cond.methodLink RX5 83 yX5_worthRefused, Cond.static yX5_worthRefused, Cond.code yX5_worthRefused cX5_worthRefused 2 (some .int)]
def wsX7_likely : List Cond := .code yX7_likely cX7_likely 6 (some .int) :: ((wsX7_likely_r1 ++ wsX7_likely_r2) ++ wsX70 ++ wsX50)
def wsX7_seen_r1 : List Cond := [Cond.fieldLink RX7 10 "DareBridge" "now" "LDareBridge$Town;", Cond.fieldLink RX7 250 "DareBridge$Town" "sights" "I", Cond.methodLink RX7 178 yX7_refusalOfHeight, Cond.instanceMethod yX7_refusalOfHeight, Cond.selects RX7 yX7_refusalOfHeight yX7_refusalOfHeight, Cond.initialized RX7, Cond.code yX7_refusalOfHeight cX7_refusalOfHeight 3 (some .int), Cond.methodLink RX7 82 yX5_isThere, Cond.instanceMethod yX5_isThere, Cond.selects RX5 yX5_isThere yX5_isThere, Cond.initialized RX5, Cond.code yX5_isThere cX5_isThere 2 (some .boolean), Cond.fieldLink RX5 15 "DareBridge$Town" "there" "[I", Cond.static yX7_at, Cond.code yX7_at cX7_at 2 (some .int), Cond.methodLink RX7 64 yX7_within, Cond.static yX7_within, Cond.code yX7_within cX7_within 3 (some .boolean), Cond.methodLink RX7 247 yX5_see, Cond.instanceMethod yX5_see, Cond.selects RX5 yX5_see yX5_see, Cond.code yX5_see cX5_see 4 (some .boolean), Cond.fieldLink RX5 48 "DareBridge$Town" "sights" "I", Cond.fieldLink RX5 39 "DareBridge$Town" "sightOf" "[I"]
def wsX7_seen_r2 : List Cond := [Cond.fieldLink RX5 42 "DareBridge$Town" "sightHeight" "[I", Cond.fieldLink RX5 45 "DareBridge$Town" "sightDid" "[I", Cond.static yX7_put, Cond.code yX7_put cX7_put 3 none]
def wsX7_seen : List Cond := .code yX7_seen cX7_seen 5 (some .int) :: ((wsX7_seen_r1 ++ wsX7_seen_r2) ++ wsX70 ++ wsX50)
def wsX7_forget : List Cond := .code yX7_forget cX7_forget 2 (some .int) :: ([.fieldLink RX7 10 "DareBridge" "now" "LDareBridge$Town;", .fieldLink RX7 250 "DareBridge$Town" "sights" "I"] ++ wsX70 ++ wsX50)
def wsX7_prides_r1 : List Cond := [Cond.fieldLink RX7 10 "DareBridge" "now" "LDareBridge$Town;", Cond.methodLink RX7 82 yX5_isThere, Cond.instanceMethod yX5_isThere, Cond.selects RX5 yX5_isThere yX5_isThere, Cond.initialized RX5, Cond.code yX5_isThere cX5_isThere 2 (some .boolean), Cond.fieldLink RX5 15 "DareBridge$Town" "there" "[I", Cond.static yX7_at, Cond.initialized RX7, Cond.code yX7_at cX7_at 2 (some .int), Cond.methodLink RX7 64 yX7_within, Cond.static yX7_within, Cond.code yX7_within cX7_within 3 (some .boolean), Cond.methodLink RX7 253 yX5_fitsSights, Cond.instanceMethod yX5_fitsSights, Cond.selects RX5 yX5_fitsSights yX5_fitsSights, Cond.code yX5_fitsSights cX5_fitsSights 5 (some .boolean), Cond.fieldLink RX5 48 "DareBridge$Town" "sights" "I", Cond.fieldLink RX5 45 "DareBridge$Town" "sightDid" "[I", Cond.fieldLink RX5 39 "DareBridge$Town" "sightOf" "[I", Cond.fieldLink RX5 42 "DareBridge$Town" "sightHeight" "[I", Cond.methodLink RX5 86 yX5_dares, Cond.instanceMethod yX5_dares, Cond.selects RX5 yX5_dares yX5_dares]
def wsX7_prides_r2 : List Cond := [Cond.code yX5_dares cX5_dares 4 (some .boolean), Cond.methodLink RX5 79 yX5_worthDone, Cond.instanceMethod yX5_worthDone, Cond.selects RX5 yX5_worthDone yX5_worthDone, Cond.code yX5_worthDone cX5_worthDone 5 (some .int), Cond.fieldLink RX5 9 "DareBridge$Town" "rules" "[I", Cond.fieldLink RX5 21 "DareBridge$Town" "fear" "[I", Cond.methodLink RX5 76 yX5_oddsOf, Cond.instanceMethod yX5_oddsOf, Cond.selects RX5 yX5_oddsOf yX5_oddsOf, Cond.code yX5_oddsOf cX5_oddsOf 4 (some .int), Cond.fieldLink RX5 18 "DareBridge$Town" "skill" "[I", Cond.methodLink RX5 67 Lib.Math.min.name, Cond.static Lib.Math.min.name, Cond.initialized "java/lang/Math", Cond.code Lib.Math.min.name Lib.Math.min.code 2 (some .int), Cond.methodLink RX5 73 Lib.Math.max.name, Cond.static Lib.Math.max.name, Cond.code Lib.Math.max.name Lib.Math.max.code 2 (some .int), Cond.methodLink RX5 83 yX5_worthRefused, Cond.static yX5_worthRefused, Cond.code yX5_worthRefused cX5_worthRefused 2 (some .int)]
def wsX7_prides : List Cond := .code yX7_prides cX7_prides 7 (some .int) :: ((wsX7_prides_r1 ++ wsX7_prides_r2) ++ wsX70 ++ wsX50)
def wsX7_year_r1 : List Cond := [Cond.fieldLink RX7 98 "DareBridge" "RULE_MOST" "[I", Cond.fieldLink RX7 60 "DareBridge" "years" "LDareBridge$Year;", Cond.fieldLink RX7 10 "DareBridge" "now" "LDareBridge$Town;", Cond.fieldLink RX7 260 "DareBridge$Year" "done" "I", Cond.fieldLink RX7 261 "DareBridge$Year" "refused" "I", Cond.fieldLink RX7 262 "DareBridge$Year" "hurt" "I", Cond.methodLink RX7 94 yX7_at, Cond.static yX7_at, Cond.initialized RX7, Cond.code yX7_at cX7_at 2 (some .int), Cond.methodLink RX7 64 yX7_within, Cond.static yX7_within, Cond.code yX7_within cX7_within 3 (some .boolean), Cond.methodLink RX7 256 yX6_pass, Cond.instanceMethod yX6_pass, Cond.selects RX6 yX6_pass yX6_pass, Cond.initialized RX6, Cond.code yX6_pass cX6_pass 6 none, Cond.fieldLink RX6 12 "DareBridge$Year" "town" "LDareBridge$Town;", Cond.fieldLink RX6 22 "DareBridge$Year" "done" "I", Cond.fieldLink RX6 26 "DareBridge$Year" "refused" "I", Cond.fieldLink RX6 29 "DareBridge$Year" "hurt" "I", Cond.methodLink RX6 18 yX5_copyFrom, Cond.instanceMethod yX5_copyFrom]
def wsX7_year_r2 : List Cond := [Cond.selects RX5 yX5_copyFrom yX5_copyFrom, Cond.initialized RX5, Cond.code yX5_copyFrom cX5_copyFrom 2 none, Cond.fieldLink RX5 9 "DareBridge$Town" "rules" "[I", Cond.fieldLink RX5 15 "DareBridge$Town" "there" "[I", Cond.fieldLink RX5 18 "DareBridge$Town" "skill" "[I", Cond.fieldLink RX5 21 "DareBridge$Town" "fear" "[I", Cond.fieldLink RX5 24 "DareBridge$Town" "pride" "[I", Cond.fieldLink RX5 27 "DareBridge$Town" "wish" "[I", Cond.fieldLink RX5 30 "DareBridge$Town" "high" "[I", Cond.fieldLink RX5 33 "DareBridge$Town" "fame" "[I", Cond.fieldLink RX5 36 "DareBridge$Town" "plaster" "[I", Cond.fieldLink RX5 39 "DareBridge$Town" "sightOf" "[I", Cond.fieldLink RX5 42 "DareBridge$Town" "sightHeight" "[I", Cond.fieldLink RX5 45 "DareBridge$Town" "sightDid" "[I", Cond.fieldLink RX5 48 "DareBridge$Town" "sights" "I", Cond.static yX7_copyRow, Cond.code yX7_copyRow cX7_copyRow 3 none, Cond.methodLink RX7 107 yX7_put, Cond.static yX7_put, Cond.code yX7_put cX7_put 3 none, Cond.static yX7_drawAfter, Cond.code yX7_drawAfter cX7_drawAfter 1 (some .int), Cond.constant RX7 284 (65537)]
def wsX7_year_r3 : List Cond := [Cond.methodLink RX6 36 yX6_dare, Cond.instanceMethod yX6_dare, Cond.selects RX6 yX6_dare yX6_dare, Cond.code yX6_dare cX6_dare 4 none, Cond.fieldLink RX6 43 "DareBridge$Town" "high" "[I", Cond.methodLink RX6 54 Lib.Math.min.name, Cond.static Lib.Math.min.name, Cond.initialized "java/lang/Math", Cond.code Lib.Math.min.name Lib.Math.min.code 2 (some .int), Cond.methodLink RX6 51 yX5_rule, Cond.instanceMethod yX5_rule, Cond.selects RX5 yX5_rule yX5_rule, Cond.code yX5_rule cX5_rule 2 (some .int), Cond.methodLink RX6 60 yX5_whyNot, Cond.instanceMethod yX5_whyNot, Cond.selects RX5 yX5_whyNot yX5_whyNot, Cond.code yX5_whyNot cX5_whyNot 4 (some .int), Cond.methodLink RX5 90 yX5_isThere, Cond.instanceMethod yX5_isThere, Cond.selects RX5 yX5_isThere yX5_isThere, Cond.code yX5_isThere cX5_isThere 2 (some .boolean), Cond.methodLink RX6 64 yX5_prideOf, Cond.instanceMethod yX5_prideOf, Cond.selects RX5 yX5_prideOf yX5_prideOf]
def wsX7_year_r4 : List Cond := [Cond.code yX5_prideOf cX5_prideOf 2 (some .int), Cond.methodLink RX6 67 yX5_dares, Cond.instanceMethod yX5_dares, Cond.selects RX5 yX5_dares yX5_dares, Cond.code yX5_dares cX5_dares 4 (some .boolean), Cond.methodLink RX5 79 yX5_worthDone, Cond.instanceMethod yX5_worthDone, Cond.selects RX5 yX5_worthDone yX5_worthDone, Cond.code yX5_worthDone cX5_worthDone 5 (some .int), Cond.methodLink RX5 76 yX5_oddsOf, Cond.instanceMethod yX5_oddsOf, Cond.selects RX5 yX5_oddsOf yX5_oddsOf, Cond.code yX5_oddsOf cX5_oddsOf 4 (some .int), Cond.methodLink RX5 67 Lib.Math.min.name, Cond.methodLink RX5 73 Lib.Math.max.name, Cond.static Lib.Math.max.name, Cond.code Lib.Math.max.name Lib.Math.max.code 2 (some .int), Cond.methodLink RX5 83 yX5_worthRefused, Cond.static yX5_worthRefused, Cond.code yX5_worthRefused cX5_worthRefused 2 (some .int), Cond.methodLink RX6 71 yX5_refuse, Cond.instanceMethod yX5_refuse, Cond.selects RX5 yX5_refuse yX5_refuse, Cond.code yX5_refuse cX5_refuse 3 none]
def wsX7_year_r5 : List Cond := [Cond.methodLink RX6 74 yX5_perform, Cond.instanceMethod yX5_perform, Cond.selects RX5 yX5_perform yX5_perform, Cond.code yX5_perform cX5_perform 4 (some .boolean), Cond.methodLink RX6 40 yX5_night, Cond.instanceMethod yX5_night, Cond.selects RX5 yX5_night yX5_night, Cond.code yX5_night cX5_night 4 none]
def wsX7_year : List Cond := .code yX7_year cX7_year 4 (some .int) :: ((wsX7_year_r1 ++ (wsX7_year_r2 ++ (wsX7_year_r3 ++ (wsX7_year_r4 ++ wsX7_year_r5)))) ++ wsX70 ++ wsX60 ++ wsX50)
def wsX7_image_r1 : List Cond := [Cond.fieldLink RX7 16 "DareBridge" "firstImage" "LDareBridge$Town;", Cond.fieldLink RX7 10 "DareBridge" "now" "LDareBridge$Town;", Cond.fieldLink RX7 22 "DareBridge" "firstKept" "Z", Cond.fieldLink RX7 19 "DareBridge" "secondImage" "LDareBridge$Town;", Cond.fieldLink RX7 26 "DareBridge" "secondKept" "Z", Cond.methodLink RX7 64 yX7_within, Cond.static yX7_within, Cond.initialized RX7, Cond.code yX7_within cX7_within 3 (some .boolean), Cond.methodLink RX7 149 yX5_copyFrom, Cond.instanceMethod yX5_copyFrom, Cond.selects RX5 yX5_copyFrom yX5_copyFrom, Cond.initialized RX5, Cond.code yX5_copyFrom cX5_copyFrom 2 none, Cond.fieldLink RX5 9 "DareBridge$Town" "rules" "[I", Cond.fieldLink RX5 15 "DareBridge$Town" "there" "[I", Cond.fieldLink RX5 18 "DareBridge$Town" "skill" "[I", Cond.fieldLink RX5 21 "DareBridge$Town" "fear" "[I", Cond.fieldLink RX5 24 "DareBridge$Town" "pride" "[I", Cond.fieldLink RX5 27 "DareBridge$Town" "wish" "[I", Cond.fieldLink RX5 30 "DareBridge$Town" "high" "[I", Cond.fieldLink RX5 33 "DareBridge$Town" "fame" "[I", Cond.fieldLink RX5 36 "DareBridge$Town" "plaster" "[I", Cond.fieldLink RX5 39 "DareBridge$Town" "sightOf" "[I"]
def wsX7_image_r2 : List Cond := [Cond.fieldLink RX5 42 "DareBridge$Town" "sightHeight" "[I", Cond.fieldLink RX5 45 "DareBridge$Town" "sightDid" "[I", Cond.fieldLink RX5 48 "DareBridge$Town" "sights" "I", Cond.static yX7_copyRow, Cond.code yX7_copyRow cX7_copyRow 3 none, Cond.methodLink RX7 94 yX7_at, Cond.static yX7_at, Cond.code yX7_at cX7_at 2 (some .int), Cond.methodLink RX7 107 yX7_put, Cond.static yX7_put, Cond.code yX7_put cX7_put 3 none]
def wsX7_image : List Cond := .code yX7_image cX7_image 2 (some .int) :: ((wsX7_image_r1 ++ wsX7_image_r2) ++ wsX70 ++ wsX50)
def wsX7_restore_r1 : List Cond := [Cond.fieldLink RX7 22 "DareBridge" "firstKept" "Z", Cond.fieldLink RX7 26 "DareBridge" "secondKept" "Z", Cond.fieldLink RX7 10 "DareBridge" "now" "LDareBridge$Town;", Cond.fieldLink RX7 16 "DareBridge" "firstImage" "LDareBridge$Town;", Cond.fieldLink RX7 19 "DareBridge" "secondImage" "LDareBridge$Town;", Cond.methodLink RX7 64 yX7_within, Cond.static yX7_within, Cond.initialized RX7, Cond.code yX7_within cX7_within 3 (some .boolean), Cond.methodLink RX7 149 yX5_copyFrom, Cond.instanceMethod yX5_copyFrom, Cond.selects RX5 yX5_copyFrom yX5_copyFrom, Cond.initialized RX5, Cond.code yX5_copyFrom cX5_copyFrom 2 none, Cond.fieldLink RX5 9 "DareBridge$Town" "rules" "[I", Cond.fieldLink RX5 15 "DareBridge$Town" "there" "[I", Cond.fieldLink RX5 18 "DareBridge$Town" "skill" "[I", Cond.fieldLink RX5 21 "DareBridge$Town" "fear" "[I", Cond.fieldLink RX5 24 "DareBridge$Town" "pride" "[I", Cond.fieldLink RX5 27 "DareBridge$Town" "wish" "[I", Cond.fieldLink RX5 30 "DareBridge$Town" "high" "[I", Cond.fieldLink RX5 33 "DareBridge$Town" "fame" "[I", Cond.fieldLink RX5 36 "DareBridge$Town" "plaster" "[I", Cond.fieldLink RX5 39 "DareBridge$Town" "sightOf" "[I"]
def wsX7_restore_r2 : List Cond := [Cond.fieldLink RX5 42 "DareBridge$Town" "sightHeight" "[I", Cond.fieldLink RX5 45 "DareBridge$Town" "sightDid" "[I", Cond.fieldLink RX5 48 "DareBridge$Town" "sights" "I", Cond.static yX7_copyRow, Cond.code yX7_copyRow cX7_copyRow 3 none, Cond.methodLink RX7 94 yX7_at, Cond.static yX7_at, Cond.code yX7_at cX7_at 2 (some .int), Cond.methodLink RX7 107 yX7_put, Cond.static yX7_put, Cond.code yX7_put cX7_put 3 none]
def wsX7_restore : List Cond := .code yX7_restore cX7_restore 2 (some .int) :: ((wsX7_restore_r1 ++ wsX7_restore_r2) ++ wsX70 ++ wsX50)
def wsX7_trait : List Cond := .code yX7_trait cX7_trait 3 (some .int) :: ([.fieldLink RX7 10 "DareBridge" "now" "LDareBridge$Town;", .fieldLink RX7 268 "DareBridge$Town" "skill" "[I", .fieldLink RX7 271 "DareBridge$Town" "fear" "[I", .fieldLink RX7 274 "DareBridge$Town" "pride" "[I", .fieldLink RX7 277 "DareBridge$Town" "wish" "[I", .methodLink RX7 82 yX5_isThere, .instanceMethod yX5_isThere, .selects RX5 yX5_isThere yX5_isThere, .initialized RX5, .code yX5_isThere cX5_isThere 2 (some .boolean), .fieldLink RX5 15 "DareBridge$Town" "there" "[I", .static yX7_at, .initialized RX7, .code yX7_at cX7_at 2 (some .int), .methodLink RX7 94 yX7_at] ++ wsX70 ++ wsX50)
def wsX7_told_r1 : List Cond := [Cond.fieldLink RX7 32 "DareBridge" "pad" "LDareBridge$Pad;", Cond.fieldLink RX7 114 "DareBridge$Pad" "count" "I", Cond.fieldLink RX7 10 "DareBridge" "now" "LDareBridge$Town;", Cond.fieldLink RX7 250 "DareBridge$Town" "sights" "I", Cond.methodLink RX7 72 yX5_bits, Cond.instanceMethod yX5_bits, Cond.selects RX5 yX5_bits yX5_bits, Cond.initialized RX5, Cond.code yX5_bits cX5_bits 3 (some .int), Cond.fieldLink RX5 15 "DareBridge$Town" "there" "[I", Cond.static yX7_at, Cond.initialized RX7, Cond.code yX7_at cX7_at 2 (some .int), Cond.methodLink RX7 64 yX7_within, Cond.static yX7_within, Cond.code yX7_within cX7_within 3 (some .boolean), Cond.methodLink RX7 101 yX5_rule, Cond.instanceMethod yX5_rule, Cond.selects RX5 yX5_rule yX5_rule, Cond.code yX5_rule cX5_rule 2 (some .int), Cond.fieldLink RX5 9 "DareBridge$Town" "rules" "[I", Cond.methodLink RX7 265 yX7_trait, Cond.instanceMethod yX7_trait, Cond.selects RX7 yX7_trait yX7_trait]
def wsX7_told_r2 : List Cond := [Cond.code yX7_trait cX7_trait 3 (some .int), Cond.fieldLink RX7 268 "DareBridge$Town" "skill" "[I", Cond.fieldLink RX7 271 "DareBridge$Town" "fear" "[I", Cond.fieldLink RX7 274 "DareBridge$Town" "pride" "[I", Cond.fieldLink RX7 277 "DareBridge$Town" "wish" "[I", Cond.methodLink RX7 82 yX5_isThere, Cond.instanceMethod yX5_isThere, Cond.selects RX5 yX5_isThere yX5_isThere, Cond.code yX5_isThere cX5_isThere 2 (some .boolean), Cond.methodLink RX7 94 yX7_at]
def wsX7_told : List Cond := .code yX7_told cX7_told 2 (some .int) :: ((wsX7_told_r1 ++ wsX7_told_r2) ++ wsX70 ++ wsX30 ++ wsX50)
def wsX8_init_r1 : List Cond := [Cond.methodLink RX8 1 objectInit, Cond.instanceMethod objectInit, Cond.code objectInit ⟨#[0xb1]⟩ 1 none, Cond.arrayClass .int, Cond.fieldLink RX8 7 "DareBridgeModel" "skill" "[I", Cond.fieldLink RX8 13 "DareBridgeModel" "fear" "[I", Cond.fieldLink RX8 16 "DareBridgeModel" "pride" "[I", Cond.fieldLink RX8 19 "DareBridgeModel" "wish" "[I", Cond.fieldLink RX8 22 "DareBridgeModel" "high" "[I", Cond.fieldLink RX8 25 "DareBridgeModel" "fame" "[I", Cond.fieldLink RX8 28 "DareBridgeModel" "nights" "[I", Cond.fieldLink RX8 31 "DareBridgeModel" "sightOf" "[I", Cond.fieldLink RX8 34 "DareBridgeModel" "sightHeight" "[I", Cond.fieldLink RX8 37 "DareBridgeModel" "sightDid" "[I", Cond.fieldLink RX8 40 "DareBridgeModel" "pad" "[I", Cond.fieldLink RX8 43 "DareBridgeModel" "sort" "[I", Cond.fieldLink RX8 46 "DareBridgeModel" "who" "[I", Cond.fieldLink RX8 49 "DareBridgeModel" "whom" "[I", Cond.fieldLink RX8 52 "DareBridgeModel" "height" "[I", Cond.fieldLink RX8 55 "DareBridgeModel" "hadHigh" "[I", Cond.fieldLink RX8 58 "DareBridgeModel" "hadFame" "[I", Cond.fieldLink RX8 61 "DareBridgeModel" "hadNights" "[I", Cond.fieldLink RX8 64 "DareBridgeModel" "act" "[I", Cond.fieldLink RX8 67 "DareBridgeModel" "toDared" "[I"]
def wsX8_init_r2 : List Cond := [Cond.fieldLink RX8 70 "DareBridgeModel" "toOther" "[I", Cond.fieldLink RX8 73 "DareBridgeModel" "kept" "[I", Cond.arrayClass .boolean, Cond.fieldLink RX8 76 "DareBridgeModel" "isKept" "[Z", Cond.fieldLink RX8 80 "DareBridgeModel" "step" "I", Cond.fieldLink RX8 84 "DareBridgeModel" "start" "I", Cond.fieldLink RX8 87 "DareBridgeModel" "cost" "I", Cond.fieldLink RX8 90 "DareBridgeModel" "fade" "I", Cond.fieldLink RX8 93 "DareBridgeModel" "plaster" "I", Cond.fieldLink RX8 96 "DareBridgeModel" "x" "I"]
def wsX8_init : List Cond := .code yX8_init cX8_init 1 none :: ((wsX8_init_r1 ++ wsX8_init_r2) ++ wsX80)
def wsX8_in : List Cond := .code yX8_in cX8_in 6 (some .boolean) :: ([])
def wsX8_ones : List Cond := .code yX8_ones cX8_ones 3 (some .int) :: ([])
def wsX8_most : List Cond := .code yX8_most cX8_most 2 (some .int) :: ([])
def wsX8_isNumber : List Cond := .code yX8_isNumber cX8_isNumber 1 (some .boolean) :: ([.constantLong RX8 99 (5), .methodLink RX8 101 yX8_in, .static yX8_in, .initialized RX8, .code yX8_in cX8_in 6 (some .boolean)])
def wsX8_isThere : List Cond := .code yX8_isThere cX8_isThere 2 (some .boolean) :: ([.fieldLink RX8 109 "DareBridgeModel" "people" "I", .methodLink RX8 105 yX8_isNumber, .static yX8_isNumber, .initialized RX8, .code yX8_isNumber cX8_isNumber 1 (some .boolean), .constantLong RX8 99 (5), .methodLink RX8 101 yX8_in, .static yX8_in, .code yX8_in cX8_in 6 (some .boolean)] ++ wsX80)
def wsX8_isNine : List Cond := .code yX8_isNine cX8_isNine 1 (some .boolean) :: ([.constantLong RX8 112 (9), .methodLink RX8 101 yX8_in, .static yX8_in, .initialized RX8, .code yX8_in cX8_in 6 (some .boolean)])
def wsX8_isHeight : List Cond := .code yX8_isHeight cX8_isHeight 1 (some .boolean) :: ([.constantLong RX8 114 (15), .methodLink RX8 101 yX8_in, .static yX8_in, .initialized RX8, .code yX8_in cX8_in 6 (some .boolean)])
def wsX8_person : List Cond := .code yX8_person cX8_person 6 (some .int) :: ([.fieldLink RX8 7 "DareBridgeModel" "skill" "[I", .fieldLink RX8 13 "DareBridgeModel" "fear" "[I", .fieldLink RX8 16 "DareBridgeModel" "pride" "[I", .fieldLink RX8 19 "DareBridgeModel" "wish" "[I", .fieldLink RX8 22 "DareBridgeModel" "high" "[I", .fieldLink RX8 84 "DareBridgeModel" "start" "I", .fieldLink RX8 25 "DareBridgeModel" "fame" "[I", .fieldLink RX8 28 "DareBridgeModel" "nights" "[I", .fieldLink RX8 109 "DareBridgeModel" "people" "I", .methodLink RX8 105 yX8_isNumber, .static yX8_isNumber, .initialized RX8, .code yX8_isNumber cX8_isNumber 1 (some .boolean), .constantLong RX8 99 (5), .methodLink RX8 101 yX8_in, .static yX8_in, .code yX8_in cX8_in 6 (some .boolean), .methodLink RX8 116 yX8_isNine, .static yX8_isNine, .code yX8_isNine cX8_isNine 1 (some .boolean), .constantLong RX8 112 (9), .methodLink RX8 119 yX8_ones, .static yX8_ones, .code yX8_ones cX8_ones 3 (some .int)] ++ wsX80)
def wsX8_leave : List Cond := .code yX8_leave cX8_leave 2 (some .int) :: ([.fieldLink RX8 109 "DareBridgeModel" "people" "I", .methodLink RX8 123 yX8_isThere, .instanceMethod yX8_isThere, .selects RX8 yX8_isThere yX8_isThere, .initialized RX8, .code yX8_isThere cX8_isThere 2 (some .boolean), .methodLink RX8 105 yX8_isNumber, .static yX8_isNumber, .code yX8_isNumber cX8_isNumber 1 (some .boolean), .constantLong RX8 99 (5), .methodLink RX8 101 yX8_in, .static yX8_in, .code yX8_in cX8_in 6 (some .boolean), .methodLink RX8 119 yX8_ones, .static yX8_ones, .code yX8_ones cX8_ones 3 (some .int)] ++ wsX80)
def wsX8_maySet : List Cond := .code yX8_maySet cX8_maySet 2 (some .boolean) :: ([.constantLong RX8 112 (9), .constantLong RX8 126 (99), .constantLong RX8 128 (42), .constantLong RX8 130 (9999), .methodLink RX8 101 yX8_in, .static yX8_in, .initialized RX8, .code yX8_in cX8_in 6 (some .boolean), .methodLink RX8 116 yX8_isNine, .static yX8_isNine, .code yX8_isNine cX8_isNine 1 (some .boolean)])
def wsX8_toldSet : List Cond := .code yX8_toldSet cX8_toldSet 2 (some .int) :: ([.fieldLink RX8 80 "DareBridgeModel" "step" "I", .fieldLink RX8 84 "DareBridgeModel" "start" "I", .fieldLink RX8 87 "DareBridgeModel" "cost" "I", .fieldLink RX8 90 "DareBridgeModel" "fade" "I", .fieldLink RX8 93 "DareBridgeModel" "plaster" "I", .fieldLink RX8 132 "DareBridgeModel" "wet" "I", .fieldLink RX8 96 "DareBridgeModel" "x" "I"] ++ wsX80)
def wsX8_set_r1 : List Cond := [Cond.fieldLink RX8 80 "DareBridgeModel" "step" "I", Cond.fieldLink RX8 84 "DareBridgeModel" "start" "I", Cond.fieldLink RX8 87 "DareBridgeModel" "cost" "I", Cond.fieldLink RX8 90 "DareBridgeModel" "fade" "I", Cond.fieldLink RX8 93 "DareBridgeModel" "plaster" "I", Cond.fieldLink RX8 132 "DareBridgeModel" "wet" "I", Cond.fieldLink RX8 96 "DareBridgeModel" "x" "I", Cond.methodLink RX8 135 yX8_maySet, Cond.static yX8_maySet, Cond.initialized RX8, Cond.code yX8_maySet cX8_maySet 2 (some .boolean), Cond.constantLong RX8 112 (9), Cond.constantLong RX8 126 (99), Cond.constantLong RX8 128 (42), Cond.constantLong RX8 130 (9999), Cond.methodLink RX8 101 yX8_in, Cond.static yX8_in, Cond.code yX8_in cX8_in 6 (some .boolean), Cond.methodLink RX8 116 yX8_isNine, Cond.static yX8_isNine, Cond.code yX8_isNine cX8_isNine 1 (some .boolean), Cond.methodLink RX8 139 yX8_toldSet, Cond.instanceMethod yX8_toldSet, Cond.selects RX8 yX8_toldSet yX8_toldSet]
def wsX8_set_r2 : List Cond := [Cond.code yX8_toldSet cX8_toldSet 2 (some .int)]
def wsX8_set : List Cond := .code yX8_set cX8_set 4 (some .int) :: ((wsX8_set_r1 ++ wsX8_set_r2) ++ wsX80)
def wsX8_say : List Cond := .code yX8_say cX8_say 2 (some .int) :: ([.constantLong RX8 142 (33), .constantLong RX8 144 (126), .fieldLink RX8 146 "DareBridgeModel" "padMany" "I", .fieldLink RX8 40 "DareBridgeModel" "pad" "[I", .methodLink RX8 101 yX8_in, .static yX8_in, .initialized RX8, .code yX8_in cX8_in 6 (some .boolean)] ++ wsX80)
def wsX8_wipe : List Cond := .code yX8_wipe cX8_wipe 2 (some .int) :: ([.fieldLink RX8 146 "DareBridgeModel" "padMany" "I"] ++ wsX80)
def wsX8_readsDare : List Cond := .code yX8_readsDare cX8_readsDare 3 (some .boolean) :: ([.fieldLink RX8 46 "DareBridgeModel" "who" "[I", .fieldLink RX8 149 "DareBridgeModel" "events" "I", .fieldLink RX8 49 "DareBridgeModel" "whom" "[I", .constantLong RX8 152 (65), .constantLong RX8 154 (70), .fieldLink RX8 52 "DareBridgeModel" "height" "[I", .constantLong RX8 156 (48), .constantLong RX8 158 (49), .constantLong RX8 160 (57), .fieldLink RX8 43 "DareBridgeModel" "sort" "[I", .methodLink RX8 101 yX8_in, .static yX8_in, .initialized RX8, .code yX8_in cX8_in 6 (some .boolean), .methodLink RX8 162 yX8_isHeight, .static yX8_isHeight, .code yX8_isHeight cX8_isHeight 1 (some .boolean), .constantLong RX8 114 (15)] ++ wsX80)
def wsX8_fault : List Cond := .code yX8_fault cX8_fault 3 (some .int) :: ([.fieldLink RX8 149 "DareBridgeModel" "events" "I", .fieldLink RX8 146 "DareBridgeModel" "padMany" "I", .fieldLink RX8 40 "DareBridgeModel" "pad" "[I", .fieldLink RX8 43 "DareBridgeModel" "sort" "[I", .methodLink RX8 165 yX8_readsDare, .instanceMethod yX8_readsDare, .selects RX8 yX8_readsDare yX8_readsDare, .initialized RX8, .code yX8_readsDare cX8_readsDare 3 (some .boolean), .fieldLink RX8 46 "DareBridgeModel" "who" "[I", .fieldLink RX8 49 "DareBridgeModel" "whom" "[I", .constantLong RX8 152 (65), .constantLong RX8 154 (70), .fieldLink RX8 52 "DareBridgeModel" "height" "[I", .constantLong RX8 156 (48), .constantLong RX8 158 (49), .constantLong RX8 160 (57), .methodLink RX8 101 yX8_in, .static yX8_in, .code yX8_in cX8_in 6 (some .boolean), .methodLink RX8 162 yX8_isHeight, .static yX8_isHeight, .code yX8_isHeight cX8_isHeight 1 (some .boolean), .constantLong RX8 114 (15)] ++ wsX80)
def wsX8_oddsOf : List Cond := .code yX8_oddsOf cX8_oddsOf 4 (some .int) :: ([.fieldLink RX8 132 "DareBridgeModel" "wet" "I", .fieldLink RX8 7 "DareBridgeModel" "skill" "[I"] ++ wsX80)
def wsX8_draw : List Cond := .code yX8_draw cX8_draw 1 (some .int) :: ([.constantLong RX8 168 (75), .fieldLink RX8 96 "DareBridgeModel" "x" "I", .constantLong RX8 170 (74), .constantLong RX8 172 (65537)] ++ wsX80)
def wsX8_doIt : List Cond := .code yX8_doIt cX8_doIt 4 (some .boolean) :: ([.fieldLink RX8 22 "DareBridgeModel" "high" "[I", .fieldLink RX8 25 "DareBridgeModel" "fame" "[I", .fieldLink RX8 28 "DareBridgeModel" "nights" "[I", .fieldLink RX8 93 "DareBridgeModel" "plaster" "I", .methodLink RX8 174 yX8_most, .static yX8_most, .initialized RX8, .code yX8_most cX8_most 2 (some .int), .methodLink RX8 178 yX8_draw, .instanceMethod yX8_draw, .selects RX8 yX8_draw yX8_draw, .code yX8_draw cX8_draw 1 (some .int), .constantLong RX8 168 (75), .fieldLink RX8 96 "DareBridgeModel" "x" "I", .constantLong RX8 170 (74), .constantLong RX8 172 (65537), .methodLink RX8 182 yX8_oddsOf, .instanceMethod yX8_oddsOf, .selects RX8 yX8_oddsOf yX8_oddsOf, .code yX8_oddsOf cX8_oddsOf 4 (some .int), .fieldLink RX8 132 "DareBridgeModel" "wet" "I", .fieldLink RX8 7 "DareBridgeModel" "skill" "[I"] ++ wsX80)
def wsX8_passNight : List Cond := .code yX8_passNight cX8_passNight 3 none :: ([.fieldLink RX8 25 "DareBridgeModel" "fame" "[I", .fieldLink RX8 90 "DareBridgeModel" "fade" "I", .fieldLink RX8 28 "DareBridgeModel" "nights" "[I", .methodLink RX8 174 yX8_most, .static yX8_most, .initialized RX8, .code yX8_most cX8_most 2 (some .int)] ++ wsX80)
def wsX8_whyNot : List Cond := .code yX8_whyNot cX8_whyNot 4 (some .int) :: ([.fieldLink RX8 28 "DareBridgeModel" "nights" "[I", .fieldLink RX8 22 "DareBridgeModel" "high" "[I", .fieldLink RX8 80 "DareBridgeModel" "step" "I", .methodLink RX8 123 yX8_isThere, .instanceMethod yX8_isThere, .selects RX8 yX8_isThere yX8_isThere, .initialized RX8, .code yX8_isThere cX8_isThere 2 (some .boolean), .fieldLink RX8 109 "DareBridgeModel" "people" "I", .methodLink RX8 105 yX8_isNumber, .static yX8_isNumber, .code yX8_isNumber cX8_isNumber 1 (some .boolean), .constantLong RX8 99 (5), .methodLink RX8 101 yX8_in, .static yX8_in, .code yX8_in cX8_in 6 (some .boolean)] ++ wsX80)
def wsX8_happen_r1 : List Cond := [Cond.fieldLink RX8 46 "DareBridgeModel" "who" "[I", Cond.fieldLink RX8 49 "DareBridgeModel" "whom" "[I", Cond.fieldLink RX8 43 "DareBridgeModel" "sort" "[I", Cond.fieldLink RX8 52 "DareBridgeModel" "height" "[I", Cond.fieldLink RX8 188 "DareBridgeModel" "did" "I", Cond.fieldLink RX8 25 "DareBridgeModel" "fame" "[I", Cond.fieldLink RX8 191 "DareBridgeModel" "refused" "I", Cond.fieldLink RX8 194 "DareBridgeModel" "doubled" "I", Cond.methodLink RX8 185 yX8_doIt, Cond.instanceMethod yX8_doIt, Cond.selects RX8 yX8_doIt yX8_doIt, Cond.initialized RX8, Cond.code yX8_doIt cX8_doIt 4 (some .boolean), Cond.fieldLink RX8 22 "DareBridgeModel" "high" "[I", Cond.fieldLink RX8 28 "DareBridgeModel" "nights" "[I", Cond.fieldLink RX8 93 "DareBridgeModel" "plaster" "I", Cond.methodLink RX8 174 yX8_most, Cond.static yX8_most, Cond.code yX8_most cX8_most 2 (some .int), Cond.methodLink RX8 178 yX8_draw, Cond.instanceMethod yX8_draw, Cond.selects RX8 yX8_draw yX8_draw, Cond.code yX8_draw cX8_draw 1 (some .int), Cond.constantLong RX8 168 (75)]
def wsX8_happen_r2 : List Cond := [Cond.fieldLink RX8 96 "DareBridgeModel" "x" "I", Cond.constantLong RX8 170 (74), Cond.constantLong RX8 172 (65537), Cond.methodLink RX8 182 yX8_oddsOf, Cond.instanceMethod yX8_oddsOf, Cond.selects RX8 yX8_oddsOf yX8_oddsOf, Cond.code yX8_oddsOf cX8_oddsOf 4 (some .int), Cond.fieldLink RX8 132 "DareBridgeModel" "wet" "I", Cond.fieldLink RX8 7 "DareBridgeModel" "skill" "[I"]
def wsX8_happen : List Cond := .code yX8_happen cX8_happen 4 none :: ((wsX8_happen_r1 ++ wsX8_happen_r2) ++ wsX80)
def wsX8_keepNow : List Cond := .code yX8_keepNow cX8_keepNow 2 none :: ([.fieldLink RX8 55 "DareBridgeModel" "hadHigh" "[I", .fieldLink RX8 22 "DareBridgeModel" "high" "[I", .fieldLink RX8 58 "DareBridgeModel" "hadFame" "[I", .fieldLink RX8 25 "DareBridgeModel" "fame" "[I", .fieldLink RX8 61 "DareBridgeModel" "hadNights" "[I", .fieldLink RX8 28 "DareBridgeModel" "nights" "[I", .fieldLink RX8 96 "DareBridgeModel" "x" "I", .fieldLink RX8 197 "DareBridgeModel" "hadX" "I"] ++ wsX80)
def wsX8_putBack : List Cond := .code yX8_putBack cX8_putBack 2 none :: ([.fieldLink RX8 22 "DareBridgeModel" "high" "[I", .fieldLink RX8 55 "DareBridgeModel" "hadHigh" "[I", .fieldLink RX8 25 "DareBridgeModel" "fame" "[I", .fieldLink RX8 58 "DareBridgeModel" "hadFame" "[I", .fieldLink RX8 28 "DareBridgeModel" "nights" "[I", .fieldLink RX8 61 "DareBridgeModel" "hadNights" "[I", .fieldLink RX8 197 "DareBridgeModel" "hadX" "I", .fieldLink RX8 96 "DareBridgeModel" "x" "I"] ++ wsX80)
def wsX8_goSummer_r1 : List Cond := [Cond.fieldLink RX8 200 "DareBridgeModel" "badEvent" "I", Cond.fieldLink RX8 203 "DareBridgeModel" "badWhy" "I", Cond.fieldLink RX8 188 "DareBridgeModel" "did" "I", Cond.fieldLink RX8 191 "DareBridgeModel" "refused" "I", Cond.fieldLink RX8 194 "DareBridgeModel" "doubled" "I", Cond.fieldLink RX8 149 "DareBridgeModel" "events" "I", Cond.fieldLink RX8 43 "DareBridgeModel" "sort" "[I", Cond.fieldLink RX8 46 "DareBridgeModel" "who" "[I", Cond.fieldLink RX8 49 "DareBridgeModel" "whom" "[I", Cond.fieldLink RX8 52 "DareBridgeModel" "height" "[I", Cond.methodLink RX8 206 yX8_passNight, Cond.instanceMethod yX8_passNight, Cond.selects RX8 yX8_passNight yX8_passNight, Cond.initialized RX8, Cond.code yX8_passNight cX8_passNight 3 none, Cond.fieldLink RX8 25 "DareBridgeModel" "fame" "[I", Cond.fieldLink RX8 90 "DareBridgeModel" "fade" "I", Cond.fieldLink RX8 28 "DareBridgeModel" "nights" "[I", Cond.methodLink RX8 174 yX8_most, Cond.static yX8_most, Cond.code yX8_most cX8_most 2 (some .int), Cond.methodLink RX8 209 yX8_whyNot, Cond.instanceMethod yX8_whyNot, Cond.selects RX8 yX8_whyNot yX8_whyNot]
def wsX8_goSummer_r2 : List Cond := [Cond.code yX8_whyNot cX8_whyNot 4 (some .int), Cond.fieldLink RX8 22 "DareBridgeModel" "high" "[I", Cond.fieldLink RX8 80 "DareBridgeModel" "step" "I", Cond.methodLink RX8 123 yX8_isThere, Cond.instanceMethod yX8_isThere, Cond.selects RX8 yX8_isThere yX8_isThere, Cond.code yX8_isThere cX8_isThere 2 (some .boolean), Cond.fieldLink RX8 109 "DareBridgeModel" "people" "I", Cond.methodLink RX8 105 yX8_isNumber, Cond.static yX8_isNumber, Cond.code yX8_isNumber cX8_isNumber 1 (some .boolean), Cond.constantLong RX8 99 (5), Cond.methodLink RX8 101 yX8_in, Cond.static yX8_in, Cond.code yX8_in cX8_in 6 (some .boolean), Cond.methodLink RX8 213 yX8_happen, Cond.instanceMethod yX8_happen, Cond.selects RX8 yX8_happen yX8_happen, Cond.code yX8_happen cX8_happen 4 none, Cond.methodLink RX8 185 yX8_doIt, Cond.instanceMethod yX8_doIt, Cond.selects RX8 yX8_doIt yX8_doIt, Cond.code yX8_doIt cX8_doIt 4 (some .boolean), Cond.fieldLink RX8 93 "DareBridgeModel" "plaster" "I"]
def wsX8_goSummer_r3 : List Cond := [Cond.methodLink RX8 178 yX8_draw, Cond.instanceMethod yX8_draw, Cond.selects RX8 yX8_draw yX8_draw, Cond.code yX8_draw cX8_draw 1 (some .int), Cond.constantLong RX8 168 (75), Cond.fieldLink RX8 96 "DareBridgeModel" "x" "I", Cond.constantLong RX8 170 (74), Cond.constantLong RX8 172 (65537), Cond.methodLink RX8 182 yX8_oddsOf, Cond.instanceMethod yX8_oddsOf, Cond.selects RX8 yX8_oddsOf yX8_oddsOf, Cond.code yX8_oddsOf cX8_oddsOf 4 (some .int), Cond.fieldLink RX8 132 "DareBridgeModel" "wet" "I", Cond.fieldLink RX8 7 "DareBridgeModel" "skill" "[I"]
def wsX8_goSummer : List Cond := .code yX8_goSummer cX8_goSummer 3 none :: ((wsX8_goSummer_r1 ++ (wsX8_goSummer_r2 ++ wsX8_goSummer_r3)) ++ wsX80)
def wsX8_judge_r1 : List Cond := [Cond.constantLong RX8 217 (4), Cond.fieldLink RX8 200 "DareBridgeModel" "badEvent" "I", Cond.fieldLink RX8 203 "DareBridgeModel" "badWhy" "I", Cond.fieldLink RX8 188 "DareBridgeModel" "did" "I", Cond.fieldLink RX8 191 "DareBridgeModel" "refused" "I", Cond.fieldLink RX8 194 "DareBridgeModel" "doubled" "I", Cond.methodLink RX8 101 yX8_in, Cond.static yX8_in, Cond.initialized RX8, Cond.code yX8_in cX8_in 6 (some .boolean), Cond.methodLink RX8 219 yX8_fault, Cond.instanceMethod yX8_fault, Cond.selects RX8 yX8_fault yX8_fault, Cond.code yX8_fault cX8_fault 3 (some .int), Cond.fieldLink RX8 149 "DareBridgeModel" "events" "I", Cond.fieldLink RX8 146 "DareBridgeModel" "padMany" "I", Cond.fieldLink RX8 40 "DareBridgeModel" "pad" "[I", Cond.fieldLink RX8 43 "DareBridgeModel" "sort" "[I", Cond.methodLink RX8 165 yX8_readsDare, Cond.instanceMethod yX8_readsDare, Cond.selects RX8 yX8_readsDare yX8_readsDare, Cond.code yX8_readsDare cX8_readsDare 3 (some .boolean), Cond.fieldLink RX8 46 "DareBridgeModel" "who" "[I", Cond.fieldLink RX8 49 "DareBridgeModel" "whom" "[I"]
def wsX8_judge_r2 : List Cond := [Cond.constantLong RX8 152 (65), Cond.constantLong RX8 154 (70), Cond.fieldLink RX8 52 "DareBridgeModel" "height" "[I", Cond.constantLong RX8 156 (48), Cond.constantLong RX8 158 (49), Cond.constantLong RX8 160 (57), Cond.methodLink RX8 162 yX8_isHeight, Cond.static yX8_isHeight, Cond.code yX8_isHeight cX8_isHeight 1 (some .boolean), Cond.constantLong RX8 114 (15), Cond.methodLink RX8 222 yX8_keepNow, Cond.instanceMethod yX8_keepNow, Cond.selects RX8 yX8_keepNow yX8_keepNow, Cond.code yX8_keepNow cX8_keepNow 2 none, Cond.fieldLink RX8 55 "DareBridgeModel" "hadHigh" "[I", Cond.fieldLink RX8 22 "DareBridgeModel" "high" "[I", Cond.fieldLink RX8 58 "DareBridgeModel" "hadFame" "[I", Cond.fieldLink RX8 25 "DareBridgeModel" "fame" "[I", Cond.fieldLink RX8 61 "DareBridgeModel" "hadNights" "[I", Cond.fieldLink RX8 28 "DareBridgeModel" "nights" "[I", Cond.fieldLink RX8 96 "DareBridgeModel" "x" "I", Cond.fieldLink RX8 197 "DareBridgeModel" "hadX" "I", Cond.methodLink RX8 225 yX8_goSummer, Cond.instanceMethod yX8_goSummer]
def wsX8_judge_r3 : List Cond := [Cond.selects RX8 yX8_goSummer yX8_goSummer, Cond.code yX8_goSummer cX8_goSummer 3 none, Cond.methodLink RX8 206 yX8_passNight, Cond.instanceMethod yX8_passNight, Cond.selects RX8 yX8_passNight yX8_passNight, Cond.code yX8_passNight cX8_passNight 3 none, Cond.fieldLink RX8 90 "DareBridgeModel" "fade" "I", Cond.methodLink RX8 174 yX8_most, Cond.static yX8_most, Cond.code yX8_most cX8_most 2 (some .int), Cond.methodLink RX8 209 yX8_whyNot, Cond.instanceMethod yX8_whyNot, Cond.selects RX8 yX8_whyNot yX8_whyNot, Cond.code yX8_whyNot cX8_whyNot 4 (some .int), Cond.fieldLink RX8 80 "DareBridgeModel" "step" "I", Cond.methodLink RX8 123 yX8_isThere, Cond.instanceMethod yX8_isThere, Cond.selects RX8 yX8_isThere yX8_isThere, Cond.code yX8_isThere cX8_isThere 2 (some .boolean), Cond.fieldLink RX8 109 "DareBridgeModel" "people" "I", Cond.methodLink RX8 105 yX8_isNumber, Cond.static yX8_isNumber, Cond.code yX8_isNumber cX8_isNumber 1 (some .boolean), Cond.constantLong RX8 99 (5)]
def wsX8_judge_r4 : List Cond := [Cond.methodLink RX8 213 yX8_happen, Cond.instanceMethod yX8_happen, Cond.selects RX8 yX8_happen yX8_happen, Cond.code yX8_happen cX8_happen 4 none, Cond.methodLink RX8 185 yX8_doIt, Cond.instanceMethod yX8_doIt, Cond.selects RX8 yX8_doIt yX8_doIt, Cond.code yX8_doIt cX8_doIt 4 (some .boolean), Cond.fieldLink RX8 93 "DareBridgeModel" "plaster" "I", Cond.methodLink RX8 178 yX8_draw, Cond.instanceMethod yX8_draw, Cond.selects RX8 yX8_draw yX8_draw, Cond.code yX8_draw cX8_draw 1 (some .int), Cond.constantLong RX8 168 (75), Cond.constantLong RX8 170 (74), Cond.constantLong RX8 172 (65537), Cond.methodLink RX8 182 yX8_oddsOf, Cond.instanceMethod yX8_oddsOf, Cond.selects RX8 yX8_oddsOf yX8_oddsOf, Cond.code yX8_oddsOf cX8_oddsOf 4 (some .int), Cond.fieldLink RX8 132 "DareBridgeModel" "wet" "I", Cond.fieldLink RX8 7 "DareBridgeModel" "skill" "[I", Cond.methodLink RX8 228 yX8_putBack, Cond.instanceMethod yX8_putBack]
def wsX8_judge_r5 : List Cond := [Cond.selects RX8 yX8_putBack yX8_putBack, Cond.code yX8_putBack cX8_putBack 2 none]
def wsX8_judge : List Cond := .code yX8_judge cX8_judge 2 (some .int) :: ((wsX8_judge_r1 ++ (wsX8_judge_r2 ++ (wsX8_judge_r3 ++ (wsX8_judge_r4 ++ wsX8_judge_r5)))) ++ wsX80)
def wsX8_stateOf : List Cond := .code yX8_stateOf cX8_stateOf 3 (some .int) :: ([.fieldLink RX8 25 "DareBridgeModel" "fame" "[I", .fieldLink RX8 22 "DareBridgeModel" "high" "[I", .fieldLink RX8 28 "DareBridgeModel" "nights" "[I"] ++ wsX80)
def wsX8_state : List Cond := .code yX8_state cX8_state 3 (some .int) :: ([.constantLong RX8 231 (2), .methodLink RX8 123 yX8_isThere, .instanceMethod yX8_isThere, .selects RX8 yX8_isThere yX8_isThere, .initialized RX8, .code yX8_isThere cX8_isThere 2 (some .boolean), .fieldLink RX8 109 "DareBridgeModel" "people" "I", .methodLink RX8 105 yX8_isNumber, .static yX8_isNumber, .code yX8_isNumber cX8_isNumber 1 (some .boolean), .constantLong RX8 99 (5), .methodLink RX8 101 yX8_in, .static yX8_in, .code yX8_in cX8_in 6 (some .boolean), .methodLink RX8 233 yX8_stateOf, .instanceMethod yX8_stateOf, .selects RX8 yX8_stateOf yX8_stateOf, .code yX8_stateOf cX8_stateOf 3 (some .int), .fieldLink RX8 25 "DareBridgeModel" "fame" "[I", .fieldLink RX8 22 "DareBridgeModel" "high" "[I", .fieldLink RX8 28 "DareBridgeModel" "nights" "[I"] ++ wsX80)
def wsX8_behind_r1 : List Cond := [Cond.constantLong RX8 231 (2), Cond.fieldLink RX8 200 "DareBridgeModel" "badEvent" "I", Cond.methodLink RX8 123 yX8_isThere, Cond.instanceMethod yX8_isThere, Cond.selects RX8 yX8_isThere yX8_isThere, Cond.initialized RX8, Cond.code yX8_isThere cX8_isThere 2 (some .boolean), Cond.fieldLink RX8 109 "DareBridgeModel" "people" "I", Cond.methodLink RX8 105 yX8_isNumber, Cond.static yX8_isNumber, Cond.code yX8_isNumber cX8_isNumber 1 (some .boolean), Cond.constantLong RX8 99 (5), Cond.methodLink RX8 101 yX8_in, Cond.static yX8_in, Cond.code yX8_in cX8_in 6 (some .boolean), Cond.methodLink RX8 219 yX8_fault, Cond.instanceMethod yX8_fault, Cond.selects RX8 yX8_fault yX8_fault, Cond.code yX8_fault cX8_fault 3 (some .int), Cond.fieldLink RX8 149 "DareBridgeModel" "events" "I", Cond.fieldLink RX8 146 "DareBridgeModel" "padMany" "I", Cond.fieldLink RX8 40 "DareBridgeModel" "pad" "[I", Cond.fieldLink RX8 43 "DareBridgeModel" "sort" "[I", Cond.methodLink RX8 165 yX8_readsDare]
def wsX8_behind_r2 : List Cond := [Cond.instanceMethod yX8_readsDare, Cond.selects RX8 yX8_readsDare yX8_readsDare, Cond.code yX8_readsDare cX8_readsDare 3 (some .boolean), Cond.fieldLink RX8 46 "DareBridgeModel" "who" "[I", Cond.fieldLink RX8 49 "DareBridgeModel" "whom" "[I", Cond.constantLong RX8 152 (65), Cond.constantLong RX8 154 (70), Cond.fieldLink RX8 52 "DareBridgeModel" "height" "[I", Cond.constantLong RX8 156 (48), Cond.constantLong RX8 158 (49), Cond.constantLong RX8 160 (57), Cond.methodLink RX8 162 yX8_isHeight, Cond.static yX8_isHeight, Cond.code yX8_isHeight cX8_isHeight 1 (some .boolean), Cond.constantLong RX8 114 (15), Cond.methodLink RX8 222 yX8_keepNow, Cond.instanceMethod yX8_keepNow, Cond.selects RX8 yX8_keepNow yX8_keepNow, Cond.code yX8_keepNow cX8_keepNow 2 none, Cond.fieldLink RX8 55 "DareBridgeModel" "hadHigh" "[I", Cond.fieldLink RX8 22 "DareBridgeModel" "high" "[I", Cond.fieldLink RX8 58 "DareBridgeModel" "hadFame" "[I", Cond.fieldLink RX8 25 "DareBridgeModel" "fame" "[I", Cond.fieldLink RX8 61 "DareBridgeModel" "hadNights" "[I"]
def wsX8_behind_r3 : List Cond := [Cond.fieldLink RX8 28 "DareBridgeModel" "nights" "[I", Cond.fieldLink RX8 96 "DareBridgeModel" "x" "I", Cond.fieldLink RX8 197 "DareBridgeModel" "hadX" "I", Cond.methodLink RX8 225 yX8_goSummer, Cond.instanceMethod yX8_goSummer, Cond.selects RX8 yX8_goSummer yX8_goSummer, Cond.code yX8_goSummer cX8_goSummer 3 none, Cond.fieldLink RX8 203 "DareBridgeModel" "badWhy" "I", Cond.fieldLink RX8 188 "DareBridgeModel" "did" "I", Cond.fieldLink RX8 191 "DareBridgeModel" "refused" "I", Cond.fieldLink RX8 194 "DareBridgeModel" "doubled" "I", Cond.methodLink RX8 206 yX8_passNight, Cond.instanceMethod yX8_passNight, Cond.selects RX8 yX8_passNight yX8_passNight, Cond.code yX8_passNight cX8_passNight 3 none, Cond.fieldLink RX8 90 "DareBridgeModel" "fade" "I", Cond.methodLink RX8 174 yX8_most, Cond.static yX8_most, Cond.code yX8_most cX8_most 2 (some .int), Cond.methodLink RX8 209 yX8_whyNot, Cond.instanceMethod yX8_whyNot, Cond.selects RX8 yX8_whyNot yX8_whyNot, Cond.code yX8_whyNot cX8_whyNot 4 (some .int), Cond.fieldLink RX8 80 "DareBridgeModel" "step" "I"]
def wsX8_behind_r4 : List Cond := [Cond.methodLink RX8 213 yX8_happen, Cond.instanceMethod yX8_happen, Cond.selects RX8 yX8_happen yX8_happen, Cond.code yX8_happen cX8_happen 4 none, Cond.methodLink RX8 185 yX8_doIt, Cond.instanceMethod yX8_doIt, Cond.selects RX8 yX8_doIt yX8_doIt, Cond.code yX8_doIt cX8_doIt 4 (some .boolean), Cond.fieldLink RX8 93 "DareBridgeModel" "plaster" "I", Cond.methodLink RX8 178 yX8_draw, Cond.instanceMethod yX8_draw, Cond.selects RX8 yX8_draw yX8_draw, Cond.code yX8_draw cX8_draw 1 (some .int), Cond.constantLong RX8 168 (75), Cond.constantLong RX8 170 (74), Cond.constantLong RX8 172 (65537), Cond.methodLink RX8 182 yX8_oddsOf, Cond.instanceMethod yX8_oddsOf, Cond.selects RX8 yX8_oddsOf yX8_oddsOf, Cond.code yX8_oddsOf cX8_oddsOf 4 (some .int), Cond.fieldLink RX8 132 "DareBridgeModel" "wet" "I", Cond.fieldLink RX8 7 "DareBridgeModel" "skill" "[I", Cond.methodLink RX8 233 yX8_stateOf, Cond.instanceMethod yX8_stateOf]
def wsX8_behind_r5 : List Cond := [Cond.selects RX8 yX8_stateOf yX8_stateOf, Cond.code yX8_stateOf cX8_stateOf 3 (some .int), Cond.methodLink RX8 228 yX8_putBack, Cond.instanceMethod yX8_putBack, Cond.selects RX8 yX8_putBack yX8_putBack, Cond.code yX8_putBack cX8_putBack 2 none]
def wsX8_behind : List Cond := .code yX8_behind cX8_behind 4 (some .int) :: ((wsX8_behind_r1 ++ (wsX8_behind_r2 ++ (wsX8_behind_r3 ++ (wsX8_behind_r4 ++ wsX8_behind_r5)))) ++ wsX80)
def wsX8_done_r1 : List Cond := [Cond.fieldLink RX8 200 "DareBridgeModel" "badEvent" "I", Cond.fieldLink RX8 146 "DareBridgeModel" "padMany" "I", Cond.fieldLink RX8 149 "DareBridgeModel" "events" "I", Cond.methodLink RX8 219 yX8_fault, Cond.instanceMethod yX8_fault, Cond.selects RX8 yX8_fault yX8_fault, Cond.initialized RX8, Cond.code yX8_fault cX8_fault 3 (some .int), Cond.fieldLink RX8 40 "DareBridgeModel" "pad" "[I", Cond.fieldLink RX8 43 "DareBridgeModel" "sort" "[I", Cond.methodLink RX8 165 yX8_readsDare, Cond.instanceMethod yX8_readsDare, Cond.selects RX8 yX8_readsDare yX8_readsDare, Cond.code yX8_readsDare cX8_readsDare 3 (some .boolean), Cond.fieldLink RX8 46 "DareBridgeModel" "who" "[I", Cond.fieldLink RX8 49 "DareBridgeModel" "whom" "[I", Cond.constantLong RX8 152 (65), Cond.constantLong RX8 154 (70), Cond.fieldLink RX8 52 "DareBridgeModel" "height" "[I", Cond.constantLong RX8 156 (48), Cond.constantLong RX8 158 (49), Cond.constantLong RX8 160 (57), Cond.methodLink RX8 101 yX8_in, Cond.static yX8_in]
def wsX8_done_r2 : List Cond := [Cond.code yX8_in cX8_in 6 (some .boolean), Cond.methodLink RX8 162 yX8_isHeight, Cond.static yX8_isHeight, Cond.code yX8_isHeight cX8_isHeight 1 (some .boolean), Cond.constantLong RX8 114 (15), Cond.methodLink RX8 222 yX8_keepNow, Cond.instanceMethod yX8_keepNow, Cond.selects RX8 yX8_keepNow yX8_keepNow, Cond.code yX8_keepNow cX8_keepNow 2 none, Cond.fieldLink RX8 55 "DareBridgeModel" "hadHigh" "[I", Cond.fieldLink RX8 22 "DareBridgeModel" "high" "[I", Cond.fieldLink RX8 58 "DareBridgeModel" "hadFame" "[I", Cond.fieldLink RX8 25 "DareBridgeModel" "fame" "[I", Cond.fieldLink RX8 61 "DareBridgeModel" "hadNights" "[I", Cond.fieldLink RX8 28 "DareBridgeModel" "nights" "[I", Cond.fieldLink RX8 96 "DareBridgeModel" "x" "I", Cond.fieldLink RX8 197 "DareBridgeModel" "hadX" "I", Cond.methodLink RX8 225 yX8_goSummer, Cond.instanceMethod yX8_goSummer, Cond.selects RX8 yX8_goSummer yX8_goSummer, Cond.code yX8_goSummer cX8_goSummer 3 none, Cond.fieldLink RX8 203 "DareBridgeModel" "badWhy" "I", Cond.fieldLink RX8 188 "DareBridgeModel" "did" "I", Cond.fieldLink RX8 191 "DareBridgeModel" "refused" "I"]
def wsX8_done_r3 : List Cond := [Cond.fieldLink RX8 194 "DareBridgeModel" "doubled" "I", Cond.methodLink RX8 206 yX8_passNight, Cond.instanceMethod yX8_passNight, Cond.selects RX8 yX8_passNight yX8_passNight, Cond.code yX8_passNight cX8_passNight 3 none, Cond.fieldLink RX8 90 "DareBridgeModel" "fade" "I", Cond.methodLink RX8 174 yX8_most, Cond.static yX8_most, Cond.code yX8_most cX8_most 2 (some .int), Cond.methodLink RX8 209 yX8_whyNot, Cond.instanceMethod yX8_whyNot, Cond.selects RX8 yX8_whyNot yX8_whyNot, Cond.code yX8_whyNot cX8_whyNot 4 (some .int), Cond.fieldLink RX8 80 "DareBridgeModel" "step" "I", Cond.methodLink RX8 123 yX8_isThere, Cond.instanceMethod yX8_isThere, Cond.selects RX8 yX8_isThere yX8_isThere, Cond.code yX8_isThere cX8_isThere 2 (some .boolean), Cond.fieldLink RX8 109 "DareBridgeModel" "people" "I", Cond.methodLink RX8 105 yX8_isNumber, Cond.static yX8_isNumber, Cond.code yX8_isNumber cX8_isNumber 1 (some .boolean), Cond.constantLong RX8 99 (5), Cond.methodLink RX8 213 yX8_happen]
def wsX8_done_r4 : List Cond := [Cond.instanceMethod yX8_happen, Cond.selects RX8 yX8_happen yX8_happen, Cond.code yX8_happen cX8_happen 4 none, Cond.methodLink RX8 185 yX8_doIt, Cond.instanceMethod yX8_doIt, Cond.selects RX8 yX8_doIt yX8_doIt, Cond.code yX8_doIt cX8_doIt 4 (some .boolean), Cond.fieldLink RX8 93 "DareBridgeModel" "plaster" "I", Cond.methodLink RX8 178 yX8_draw, Cond.instanceMethod yX8_draw, Cond.selects RX8 yX8_draw yX8_draw, Cond.code yX8_draw cX8_draw 1 (some .int), Cond.constantLong RX8 168 (75), Cond.constantLong RX8 170 (74), Cond.constantLong RX8 172 (65537), Cond.methodLink RX8 182 yX8_oddsOf, Cond.instanceMethod yX8_oddsOf, Cond.selects RX8 yX8_oddsOf yX8_oddsOf, Cond.code yX8_oddsOf cX8_oddsOf 4 (some .int), Cond.fieldLink RX8 132 "DareBridgeModel" "wet" "I", Cond.fieldLink RX8 7 "DareBridgeModel" "skill" "[I", Cond.methodLink RX8 228 yX8_putBack, Cond.instanceMethod yX8_putBack, Cond.selects RX8 yX8_putBack yX8_putBack]
def wsX8_done_r5 : List Cond := [Cond.code yX8_putBack cX8_putBack 2 none]
def wsX8_done : List Cond := .code yX8_done cX8_done 1 (some .int) :: ((wsX8_done_r1 ++ (wsX8_done_r2 ++ (wsX8_done_r3 ++ (wsX8_done_r4 ++ wsX8_done_r5)))) ++ wsX80)
def wsX8_refusal_r1 : List Cond := [Cond.fieldLink RX8 200 "DareBridgeModel" "badEvent" "I", Cond.methodLink RX8 219 yX8_fault, Cond.instanceMethod yX8_fault, Cond.selects RX8 yX8_fault yX8_fault, Cond.initialized RX8, Cond.code yX8_fault cX8_fault 3 (some .int), Cond.fieldLink RX8 149 "DareBridgeModel" "events" "I", Cond.fieldLink RX8 146 "DareBridgeModel" "padMany" "I", Cond.fieldLink RX8 40 "DareBridgeModel" "pad" "[I", Cond.fieldLink RX8 43 "DareBridgeModel" "sort" "[I", Cond.methodLink RX8 165 yX8_readsDare, Cond.instanceMethod yX8_readsDare, Cond.selects RX8 yX8_readsDare yX8_readsDare, Cond.code yX8_readsDare cX8_readsDare 3 (some .boolean), Cond.fieldLink RX8 46 "DareBridgeModel" "who" "[I", Cond.fieldLink RX8 49 "DareBridgeModel" "whom" "[I", Cond.constantLong RX8 152 (65), Cond.constantLong RX8 154 (70), Cond.fieldLink RX8 52 "DareBridgeModel" "height" "[I", Cond.constantLong RX8 156 (48), Cond.constantLong RX8 158 (49), Cond.constantLong RX8 160 (57), Cond.methodLink RX8 101 yX8_in, Cond.static yX8_in]
def wsX8_refusal_r2 : List Cond := [Cond.code yX8_in cX8_in 6 (some .boolean), Cond.methodLink RX8 162 yX8_isHeight, Cond.static yX8_isHeight, Cond.code yX8_isHeight cX8_isHeight 1 (some .boolean), Cond.constantLong RX8 114 (15), Cond.methodLink RX8 222 yX8_keepNow, Cond.instanceMethod yX8_keepNow, Cond.selects RX8 yX8_keepNow yX8_keepNow, Cond.code yX8_keepNow cX8_keepNow 2 none, Cond.fieldLink RX8 55 "DareBridgeModel" "hadHigh" "[I", Cond.fieldLink RX8 22 "DareBridgeModel" "high" "[I", Cond.fieldLink RX8 58 "DareBridgeModel" "hadFame" "[I", Cond.fieldLink RX8 25 "DareBridgeModel" "fame" "[I", Cond.fieldLink RX8 61 "DareBridgeModel" "hadNights" "[I", Cond.fieldLink RX8 28 "DareBridgeModel" "nights" "[I", Cond.fieldLink RX8 96 "DareBridgeModel" "x" "I", Cond.fieldLink RX8 197 "DareBridgeModel" "hadX" "I", Cond.methodLink RX8 225 yX8_goSummer, Cond.instanceMethod yX8_goSummer, Cond.selects RX8 yX8_goSummer yX8_goSummer, Cond.code yX8_goSummer cX8_goSummer 3 none, Cond.fieldLink RX8 203 "DareBridgeModel" "badWhy" "I", Cond.fieldLink RX8 188 "DareBridgeModel" "did" "I", Cond.fieldLink RX8 191 "DareBridgeModel" "refused" "I"]
def wsX8_refusal_r3 : List Cond := [Cond.fieldLink RX8 194 "DareBridgeModel" "doubled" "I", Cond.methodLink RX8 206 yX8_passNight, Cond.instanceMethod yX8_passNight, Cond.selects RX8 yX8_passNight yX8_passNight, Cond.code yX8_passNight cX8_passNight 3 none, Cond.fieldLink RX8 90 "DareBridgeModel" "fade" "I", Cond.methodLink RX8 174 yX8_most, Cond.static yX8_most, Cond.code yX8_most cX8_most 2 (some .int), Cond.methodLink RX8 209 yX8_whyNot, Cond.instanceMethod yX8_whyNot, Cond.selects RX8 yX8_whyNot yX8_whyNot, Cond.code yX8_whyNot cX8_whyNot 4 (some .int), Cond.fieldLink RX8 80 "DareBridgeModel" "step" "I", Cond.methodLink RX8 123 yX8_isThere, Cond.instanceMethod yX8_isThere, Cond.selects RX8 yX8_isThere yX8_isThere, Cond.code yX8_isThere cX8_isThere 2 (some .boolean), Cond.fieldLink RX8 109 "DareBridgeModel" "people" "I", Cond.methodLink RX8 105 yX8_isNumber, Cond.static yX8_isNumber, Cond.code yX8_isNumber cX8_isNumber 1 (some .boolean), Cond.constantLong RX8 99 (5), Cond.methodLink RX8 213 yX8_happen]
def wsX8_refusal_r4 : List Cond := [Cond.instanceMethod yX8_happen, Cond.selects RX8 yX8_happen yX8_happen, Cond.code yX8_happen cX8_happen 4 none, Cond.methodLink RX8 185 yX8_doIt, Cond.instanceMethod yX8_doIt, Cond.selects RX8 yX8_doIt yX8_doIt, Cond.code yX8_doIt cX8_doIt 4 (some .boolean), Cond.fieldLink RX8 93 "DareBridgeModel" "plaster" "I", Cond.methodLink RX8 178 yX8_draw, Cond.instanceMethod yX8_draw, Cond.selects RX8 yX8_draw yX8_draw, Cond.code yX8_draw cX8_draw 1 (some .int), Cond.constantLong RX8 168 (75), Cond.constantLong RX8 170 (74), Cond.constantLong RX8 172 (65537), Cond.methodLink RX8 182 yX8_oddsOf, Cond.instanceMethod yX8_oddsOf, Cond.selects RX8 yX8_oddsOf yX8_oddsOf, Cond.code yX8_oddsOf cX8_oddsOf 4 (some .int), Cond.fieldLink RX8 132 "DareBridgeModel" "wet" "I", Cond.fieldLink RX8 7 "DareBridgeModel" "skill" "[I", Cond.methodLink RX8 228 yX8_putBack, Cond.instanceMethod yX8_putBack, Cond.selects RX8 yX8_putBack yX8_putBack]
def wsX8_refusal_r5 : List Cond := [Cond.code yX8_putBack cX8_putBack 2 none]
def wsX8_refusal : List Cond := .code yX8_refusal cX8_refusal 1 (some .int) :: ((wsX8_refusal_r1 ++ (wsX8_refusal_r2 ++ (wsX8_refusal_r3 ++ (wsX8_refusal_r4 ++ wsX8_refusal_r5)))) ++ wsX80)
def wsX8_daresOf : List Cond := .code yX8_daresOf cX8_daresOf 5 (some .int) :: ([.fieldLink RX8 149 "DareBridgeModel" "events" "I", .fieldLink RX8 43 "DareBridgeModel" "sort" "[I", .fieldLink RX8 46 "DareBridgeModel" "who" "[I", .fieldLink RX8 49 "DareBridgeModel" "whom" "[I"] ++ wsX80)
def wsX8_ties_r1 : List Cond := [Cond.methodLink RX8 101 yX8_in, Cond.static yX8_in, Cond.initialized RX8, Cond.code yX8_in cX8_in 6 (some .boolean), Cond.methodLink RX8 236 yX8_refusal, Cond.instanceMethod yX8_refusal, Cond.selects RX8 yX8_refusal yX8_refusal, Cond.code yX8_refusal cX8_refusal 1 (some .int), Cond.fieldLink RX8 200 "DareBridgeModel" "badEvent" "I", Cond.methodLink RX8 219 yX8_fault, Cond.instanceMethod yX8_fault, Cond.selects RX8 yX8_fault yX8_fault, Cond.code yX8_fault cX8_fault 3 (some .int), Cond.fieldLink RX8 149 "DareBridgeModel" "events" "I", Cond.fieldLink RX8 146 "DareBridgeModel" "padMany" "I", Cond.fieldLink RX8 40 "DareBridgeModel" "pad" "[I", Cond.fieldLink RX8 43 "DareBridgeModel" "sort" "[I", Cond.methodLink RX8 165 yX8_readsDare, Cond.instanceMethod yX8_readsDare, Cond.selects RX8 yX8_readsDare yX8_readsDare, Cond.code yX8_readsDare cX8_readsDare 3 (some .boolean), Cond.fieldLink RX8 46 "DareBridgeModel" "who" "[I", Cond.fieldLink RX8 49 "DareBridgeModel" "whom" "[I", Cond.constantLong RX8 152 (65)]
def wsX8_ties_r2 : List Cond := [Cond.constantLong RX8 154 (70), Cond.fieldLink RX8 52 "DareBridgeModel" "height" "[I", Cond.constantLong RX8 156 (48), Cond.constantLong RX8 158 (49), Cond.constantLong RX8 160 (57), Cond.methodLink RX8 162 yX8_isHeight, Cond.static yX8_isHeight, Cond.code yX8_isHeight cX8_isHeight 1 (some .boolean), Cond.constantLong RX8 114 (15), Cond.methodLink RX8 222 yX8_keepNow, Cond.instanceMethod yX8_keepNow, Cond.selects RX8 yX8_keepNow yX8_keepNow, Cond.code yX8_keepNow cX8_keepNow 2 none, Cond.fieldLink RX8 55 "DareBridgeModel" "hadHigh" "[I", Cond.fieldLink RX8 22 "DareBridgeModel" "high" "[I", Cond.fieldLink RX8 58 "DareBridgeModel" "hadFame" "[I", Cond.fieldLink RX8 25 "DareBridgeModel" "fame" "[I", Cond.fieldLink RX8 61 "DareBridgeModel" "hadNights" "[I", Cond.fieldLink RX8 28 "DareBridgeModel" "nights" "[I", Cond.fieldLink RX8 96 "DareBridgeModel" "x" "I", Cond.fieldLink RX8 197 "DareBridgeModel" "hadX" "I", Cond.methodLink RX8 225 yX8_goSummer, Cond.instanceMethod yX8_goSummer, Cond.selects RX8 yX8_goSummer yX8_goSummer]
def wsX8_ties_r3 : List Cond := [Cond.code yX8_goSummer cX8_goSummer 3 none, Cond.fieldLink RX8 203 "DareBridgeModel" "badWhy" "I", Cond.fieldLink RX8 188 "DareBridgeModel" "did" "I", Cond.fieldLink RX8 191 "DareBridgeModel" "refused" "I", Cond.fieldLink RX8 194 "DareBridgeModel" "doubled" "I", Cond.methodLink RX8 206 yX8_passNight, Cond.instanceMethod yX8_passNight, Cond.selects RX8 yX8_passNight yX8_passNight, Cond.code yX8_passNight cX8_passNight 3 none, Cond.fieldLink RX8 90 "DareBridgeModel" "fade" "I", Cond.methodLink RX8 174 yX8_most, Cond.static yX8_most, Cond.code yX8_most cX8_most 2 (some .int), Cond.methodLink RX8 209 yX8_whyNot, Cond.instanceMethod yX8_whyNot, Cond.selects RX8 yX8_whyNot yX8_whyNot, Cond.code yX8_whyNot cX8_whyNot 4 (some .int), Cond.fieldLink RX8 80 "DareBridgeModel" "step" "I", Cond.methodLink RX8 123 yX8_isThere, Cond.instanceMethod yX8_isThere, Cond.selects RX8 yX8_isThere yX8_isThere, Cond.code yX8_isThere cX8_isThere 2 (some .boolean), Cond.fieldLink RX8 109 "DareBridgeModel" "people" "I", Cond.methodLink RX8 105 yX8_isNumber]
def wsX8_ties_r4 : List Cond := [Cond.static yX8_isNumber, Cond.code yX8_isNumber cX8_isNumber 1 (some .boolean), Cond.constantLong RX8 99 (5), Cond.methodLink RX8 213 yX8_happen, Cond.instanceMethod yX8_happen, Cond.selects RX8 yX8_happen yX8_happen, Cond.code yX8_happen cX8_happen 4 none, Cond.methodLink RX8 185 yX8_doIt, Cond.instanceMethod yX8_doIt, Cond.selects RX8 yX8_doIt yX8_doIt, Cond.code yX8_doIt cX8_doIt 4 (some .boolean), Cond.fieldLink RX8 93 "DareBridgeModel" "plaster" "I", Cond.methodLink RX8 178 yX8_draw, Cond.instanceMethod yX8_draw, Cond.selects RX8 yX8_draw yX8_draw, Cond.code yX8_draw cX8_draw 1 (some .int), Cond.constantLong RX8 168 (75), Cond.constantLong RX8 170 (74), Cond.constantLong RX8 172 (65537), Cond.methodLink RX8 182 yX8_oddsOf, Cond.instanceMethod yX8_oddsOf, Cond.selects RX8 yX8_oddsOf yX8_oddsOf, Cond.code yX8_oddsOf cX8_oddsOf 4 (some .int), Cond.fieldLink RX8 132 "DareBridgeModel" "wet" "I"]
def wsX8_ties_r5 : List Cond := [Cond.fieldLink RX8 7 "DareBridgeModel" "skill" "[I", Cond.methodLink RX8 228 yX8_putBack, Cond.instanceMethod yX8_putBack, Cond.selects RX8 yX8_putBack yX8_putBack, Cond.code yX8_putBack cX8_putBack 2 none, Cond.methodLink RX8 239 yX8_daresOf, Cond.instanceMethod yX8_daresOf, Cond.selects RX8 yX8_daresOf yX8_daresOf, Cond.code yX8_daresOf cX8_daresOf 5 (some .int)]
def wsX8_ties : List Cond := .code yX8_ties cX8_ties 7 (some .int) :: ((wsX8_ties_r1 ++ (wsX8_ties_r2 ++ (wsX8_ties_r3 ++ (wsX8_ties_r4 ++ wsX8_ties_r5)))) ++ wsX80)
def wsX8_lowest : List Cond := .code yX8_lowest cX8_lowest 11 (some .long) :: ([])
def wsX8_tens : List Cond := .code yX8_tens cX8_tens 4 (some .long) :: ([.constantLong RX8 242 (10)])
def wsX8_unhurt_r1 : List Cond := [Cond.constantLong RX8 244 (-1000000000000000002), Cond.constantLong RX8 246 (-1000000000000000000), Cond.fieldLink RX8 149 "DareBridgeModel" "events" "I", Cond.fieldLink RX8 43 "DareBridgeModel" "sort" "[I", Cond.fieldLink RX8 46 "DareBridgeModel" "who" "[I", Cond.fieldLink RX8 52 "DareBridgeModel" "height" "[I", Cond.fieldLink RX8 49 "DareBridgeModel" "whom" "[I", Cond.constantLong RX8 248 (-1000000000000000004), Cond.methodLink RX8 101 yX8_in, Cond.static yX8_in, Cond.initialized RX8, Cond.code yX8_in cX8_in 6 (some .boolean), Cond.methodLink RX8 236 yX8_refusal, Cond.instanceMethod yX8_refusal, Cond.selects RX8 yX8_refusal yX8_refusal, Cond.code yX8_refusal cX8_refusal 1 (some .int), Cond.fieldLink RX8 200 "DareBridgeModel" "badEvent" "I", Cond.methodLink RX8 219 yX8_fault, Cond.instanceMethod yX8_fault, Cond.selects RX8 yX8_fault yX8_fault, Cond.code yX8_fault cX8_fault 3 (some .int), Cond.fieldLink RX8 146 "DareBridgeModel" "padMany" "I", Cond.fieldLink RX8 40 "DareBridgeModel" "pad" "[I", Cond.methodLink RX8 165 yX8_readsDare]
def wsX8_unhurt_r2 : List Cond := [Cond.instanceMethod yX8_readsDare, Cond.selects RX8 yX8_readsDare yX8_readsDare, Cond.code yX8_readsDare cX8_readsDare 3 (some .boolean), Cond.constantLong RX8 152 (65), Cond.constantLong RX8 154 (70), Cond.constantLong RX8 156 (48), Cond.constantLong RX8 158 (49), Cond.constantLong RX8 160 (57), Cond.methodLink RX8 162 yX8_isHeight, Cond.static yX8_isHeight, Cond.code yX8_isHeight cX8_isHeight 1 (some .boolean), Cond.constantLong RX8 114 (15), Cond.methodLink RX8 222 yX8_keepNow, Cond.instanceMethod yX8_keepNow, Cond.selects RX8 yX8_keepNow yX8_keepNow, Cond.code yX8_keepNow cX8_keepNow 2 none, Cond.fieldLink RX8 55 "DareBridgeModel" "hadHigh" "[I", Cond.fieldLink RX8 22 "DareBridgeModel" "high" "[I", Cond.fieldLink RX8 58 "DareBridgeModel" "hadFame" "[I", Cond.fieldLink RX8 25 "DareBridgeModel" "fame" "[I", Cond.fieldLink RX8 61 "DareBridgeModel" "hadNights" "[I", Cond.fieldLink RX8 28 "DareBridgeModel" "nights" "[I", Cond.fieldLink RX8 96 "DareBridgeModel" "x" "I", Cond.fieldLink RX8 197 "DareBridgeModel" "hadX" "I"]
def wsX8_unhurt_r3 : List Cond := [Cond.methodLink RX8 225 yX8_goSummer, Cond.instanceMethod yX8_goSummer, Cond.selects RX8 yX8_goSummer yX8_goSummer, Cond.code yX8_goSummer cX8_goSummer 3 none, Cond.fieldLink RX8 203 "DareBridgeModel" "badWhy" "I", Cond.fieldLink RX8 188 "DareBridgeModel" "did" "I", Cond.fieldLink RX8 191 "DareBridgeModel" "refused" "I", Cond.fieldLink RX8 194 "DareBridgeModel" "doubled" "I", Cond.methodLink RX8 206 yX8_passNight, Cond.instanceMethod yX8_passNight, Cond.selects RX8 yX8_passNight yX8_passNight, Cond.code yX8_passNight cX8_passNight 3 none, Cond.fieldLink RX8 90 "DareBridgeModel" "fade" "I", Cond.methodLink RX8 174 yX8_most, Cond.static yX8_most, Cond.code yX8_most cX8_most 2 (some .int), Cond.methodLink RX8 209 yX8_whyNot, Cond.instanceMethod yX8_whyNot, Cond.selects RX8 yX8_whyNot yX8_whyNot, Cond.code yX8_whyNot cX8_whyNot 4 (some .int), Cond.fieldLink RX8 80 "DareBridgeModel" "step" "I", Cond.methodLink RX8 123 yX8_isThere, Cond.instanceMethod yX8_isThere, Cond.selects RX8 yX8_isThere yX8_isThere]
def wsX8_unhurt_r4 : List Cond := [Cond.code yX8_isThere cX8_isThere 2 (some .boolean), Cond.fieldLink RX8 109 "DareBridgeModel" "people" "I", Cond.methodLink RX8 105 yX8_isNumber, Cond.static yX8_isNumber, Cond.code yX8_isNumber cX8_isNumber 1 (some .boolean), Cond.constantLong RX8 99 (5), Cond.methodLink RX8 213 yX8_happen, Cond.instanceMethod yX8_happen, Cond.selects RX8 yX8_happen yX8_happen, Cond.code yX8_happen cX8_happen 4 none, Cond.methodLink RX8 185 yX8_doIt, Cond.instanceMethod yX8_doIt, Cond.selects RX8 yX8_doIt yX8_doIt, Cond.code yX8_doIt cX8_doIt 4 (some .boolean), Cond.fieldLink RX8 93 "DareBridgeModel" "plaster" "I", Cond.methodLink RX8 178 yX8_draw, Cond.instanceMethod yX8_draw, Cond.selects RX8 yX8_draw yX8_draw, Cond.code yX8_draw cX8_draw 1 (some .int), Cond.constantLong RX8 168 (75), Cond.constantLong RX8 170 (74), Cond.constantLong RX8 172 (65537), Cond.methodLink RX8 182 yX8_oddsOf, Cond.instanceMethod yX8_oddsOf]
def wsX8_unhurt_r5 : List Cond := [Cond.selects RX8 yX8_oddsOf yX8_oddsOf, Cond.code yX8_oddsOf cX8_oddsOf 4 (some .int), Cond.fieldLink RX8 132 "DareBridgeModel" "wet" "I", Cond.fieldLink RX8 7 "DareBridgeModel" "skill" "[I", Cond.methodLink RX8 228 yX8_putBack, Cond.instanceMethod yX8_putBack, Cond.selects RX8 yX8_putBack yX8_putBack, Cond.code yX8_putBack cX8_putBack 2 none, Cond.methodLink RX8 250 yX8_tens, Cond.static yX8_tens, Cond.code yX8_tens cX8_tens 4 (some .long), Cond.constantLong RX8 242 (10), Cond.methodLink RX8 254 yX8_lowest, Cond.static yX8_lowest, Cond.code yX8_lowest cX8_lowest 11 (some .long)]
def wsX8_unhurt : List Cond := .code yX8_unhurt cX8_unhurt 8 (some .long) :: ((wsX8_unhurt_r1 ++ (wsX8_unhurt_r2 ++ (wsX8_unhurt_r3 ++ (wsX8_unhurt_r4 ++ wsX8_unhurt_r5)))) ++ wsX80)
def wsX8_odds : List Cond := .code yX8_odds cX8_odds 3 (some .int) :: ([.methodLink RX8 123 yX8_isThere, .instanceMethod yX8_isThere, .selects RX8 yX8_isThere yX8_isThere, .initialized RX8, .code yX8_isThere cX8_isThere 2 (some .boolean), .fieldLink RX8 109 "DareBridgeModel" "people" "I", .methodLink RX8 105 yX8_isNumber, .static yX8_isNumber, .code yX8_isNumber cX8_isNumber 1 (some .boolean), .constantLong RX8 99 (5), .methodLink RX8 101 yX8_in, .static yX8_in, .code yX8_in cX8_in 6 (some .boolean), .methodLink RX8 162 yX8_isHeight, .static yX8_isHeight, .code yX8_isHeight cX8_isHeight 1 (some .boolean), .constantLong RX8 114 (15), .methodLink RX8 182 yX8_oddsOf, .instanceMethod yX8_oddsOf, .selects RX8 yX8_oddsOf yX8_oddsOf, .code yX8_oddsOf cX8_oddsOf 4 (some .int), .fieldLink RX8 132 "DareBridgeModel" "wet" "I", .fieldLink RX8 7 "DareBridgeModel" "skill" "[I"] ++ wsX80)
def wsX8_doneBy : List Cond := .code yX8_doneBy cX8_doneBy 4 (some .int) :: ([.fieldLink RX8 87 "DareBridgeModel" "cost" "I", .fieldLink RX8 13 "DareBridgeModel" "fear" "[I", .methodLink RX8 182 yX8_oddsOf, .instanceMethod yX8_oddsOf, .selects RX8 yX8_oddsOf yX8_oddsOf, .initialized RX8, .code yX8_oddsOf cX8_oddsOf 4 (some .int), .fieldLink RX8 132 "DareBridgeModel" "wet" "I", .fieldLink RX8 7 "DareBridgeModel" "skill" "[I"] ++ wsX80)
def wsX8_refusedBy : List Cond := .code yX8_refusedBy cX8_refusedBy 2 (some .int) :: ([])
def wsX8_worthDone : List Cond := .code yX8_worthDone cX8_worthDone 3 (some .int) :: ([.fieldLink RX8 16 "DareBridgeModel" "pride" "[I", .methodLink RX8 258 yX8_doneBy, .instanceMethod yX8_doneBy, .selects RX8 yX8_doneBy yX8_doneBy, .initialized RX8, .code yX8_doneBy cX8_doneBy 4 (some .int), .fieldLink RX8 87 "DareBridgeModel" "cost" "I", .fieldLink RX8 13 "DareBridgeModel" "fear" "[I", .methodLink RX8 182 yX8_oddsOf, .instanceMethod yX8_oddsOf, .selects RX8 yX8_oddsOf yX8_oddsOf, .code yX8_oddsOf cX8_oddsOf 4 (some .int), .fieldLink RX8 132 "DareBridgeModel" "wet" "I", .fieldLink RX8 7 "DareBridgeModel" "skill" "[I"] ++ wsX80)
def wsX8_worthRefused : List Cond := .code yX8_worthRefused cX8_worthRefused 3 (some .int) :: ([.fieldLink RX8 16 "DareBridgeModel" "pride" "[I", .methodLink RX8 261 yX8_refusedBy, .static yX8_refusedBy, .initialized RX8, .code yX8_refusedBy cX8_refusedBy 2 (some .int)] ++ wsX80)
def wsX8_doesBy : List Cond := .code yX8_doesBy cX8_doesBy 4 (some .boolean) :: ([.methodLink RX8 258 yX8_doneBy, .instanceMethod yX8_doneBy, .selects RX8 yX8_doneBy yX8_doneBy, .initialized RX8, .code yX8_doneBy cX8_doneBy 4 (some .int), .fieldLink RX8 87 "DareBridgeModel" "cost" "I", .fieldLink RX8 13 "DareBridgeModel" "fear" "[I", .methodLink RX8 182 yX8_oddsOf, .instanceMethod yX8_oddsOf, .selects RX8 yX8_oddsOf yX8_oddsOf, .code yX8_oddsOf cX8_oddsOf 4 (some .int), .fieldLink RX8 132 "DareBridgeModel" "wet" "I", .fieldLink RX8 7 "DareBridgeModel" "skill" "[I", .methodLink RX8 261 yX8_refusedBy, .static yX8_refusedBy, .code yX8_refusedBy cX8_refusedBy 2 (some .int)] ++ wsX80)
def wsX8_doesIt : List Cond := .code yX8_doesIt cX8_doesIt 3 (some .boolean) :: ([.fieldLink RX8 16 "DareBridgeModel" "pride" "[I", .methodLink RX8 264 yX8_doesBy, .instanceMethod yX8_doesBy, .selects RX8 yX8_doesBy yX8_doesBy, .initialized RX8, .code yX8_doesBy cX8_doesBy 4 (some .boolean), .methodLink RX8 258 yX8_doneBy, .instanceMethod yX8_doneBy, .selects RX8 yX8_doneBy yX8_doneBy, .code yX8_doneBy cX8_doneBy 4 (some .int), .fieldLink RX8 87 "DareBridgeModel" "cost" "I", .fieldLink RX8 13 "DareBridgeModel" "fear" "[I", .methodLink RX8 182 yX8_oddsOf, .instanceMethod yX8_oddsOf, .selects RX8 yX8_oddsOf yX8_oddsOf, .code yX8_oddsOf cX8_oddsOf 4 (some .int), .fieldLink RX8 132 "DareBridgeModel" "wet" "I", .fieldLink RX8 7 "DareBridgeModel" "skill" "[I", .methodLink RX8 261 yX8_refusedBy, .static yX8_refusedBy, .code yX8_refusedBy cX8_refusedBy 2 (some .int)] ++ wsX80)
def wsX8_worth_r1 : List Cond := [Cond.constant RX8 268 (1000000), Cond.methodLink RX8 123 yX8_isThere, Cond.instanceMethod yX8_isThere, Cond.selects RX8 yX8_isThere yX8_isThere, Cond.initialized RX8, Cond.code yX8_isThere cX8_isThere 2 (some .boolean), Cond.fieldLink RX8 109 "DareBridgeModel" "people" "I", Cond.methodLink RX8 105 yX8_isNumber, Cond.static yX8_isNumber, Cond.code yX8_isNumber cX8_isNumber 1 (some .boolean), Cond.constantLong RX8 99 (5), Cond.methodLink RX8 101 yX8_in, Cond.static yX8_in, Cond.code yX8_in cX8_in 6 (some .boolean), Cond.methodLink RX8 162 yX8_isHeight, Cond.static yX8_isHeight, Cond.code yX8_isHeight cX8_isHeight 1 (some .boolean), Cond.constantLong RX8 114 (15), Cond.methodLink RX8 269 yX8_worthDone, Cond.instanceMethod yX8_worthDone, Cond.selects RX8 yX8_worthDone yX8_worthDone, Cond.code yX8_worthDone cX8_worthDone 3 (some .int), Cond.fieldLink RX8 16 "DareBridgeModel" "pride" "[I", Cond.methodLink RX8 258 yX8_doneBy]
def wsX8_worth_r2 : List Cond := [Cond.instanceMethod yX8_doneBy, Cond.selects RX8 yX8_doneBy yX8_doneBy, Cond.code yX8_doneBy cX8_doneBy 4 (some .int), Cond.fieldLink RX8 87 "DareBridgeModel" "cost" "I", Cond.fieldLink RX8 13 "DareBridgeModel" "fear" "[I", Cond.methodLink RX8 182 yX8_oddsOf, Cond.instanceMethod yX8_oddsOf, Cond.selects RX8 yX8_oddsOf yX8_oddsOf, Cond.code yX8_oddsOf cX8_oddsOf 4 (some .int), Cond.fieldLink RX8 132 "DareBridgeModel" "wet" "I", Cond.fieldLink RX8 7 "DareBridgeModel" "skill" "[I", Cond.methodLink RX8 272 yX8_worthRefused, Cond.instanceMethod yX8_worthRefused, Cond.selects RX8 yX8_worthRefused yX8_worthRefused, Cond.code yX8_worthRefused cX8_worthRefused 3 (some .int), Cond.methodLink RX8 261 yX8_refusedBy, Cond.static yX8_refusedBy, Cond.code yX8_refusedBy cX8_refusedBy 2 (some .int)]
def wsX8_worth : List Cond := .code yX8_worth cX8_worth 4 (some .int) :: ((wsX8_worth_r1 ++ wsX8_worth_r2) ++ wsX80)
def wsX8_does_r1 : List Cond := [Cond.methodLink RX8 123 yX8_isThere, Cond.instanceMethod yX8_isThere, Cond.selects RX8 yX8_isThere yX8_isThere, Cond.initialized RX8, Cond.code yX8_isThere cX8_isThere 2 (some .boolean), Cond.fieldLink RX8 109 "DareBridgeModel" "people" "I", Cond.methodLink RX8 105 yX8_isNumber, Cond.static yX8_isNumber, Cond.code yX8_isNumber cX8_isNumber 1 (some .boolean), Cond.constantLong RX8 99 (5), Cond.methodLink RX8 101 yX8_in, Cond.static yX8_in, Cond.code yX8_in cX8_in 6 (some .boolean), Cond.methodLink RX8 162 yX8_isHeight, Cond.static yX8_isHeight, Cond.code yX8_isHeight cX8_isHeight 1 (some .boolean), Cond.constantLong RX8 114 (15), Cond.methodLink RX8 275 yX8_doesIt, Cond.instanceMethod yX8_doesIt, Cond.selects RX8 yX8_doesIt yX8_doesIt, Cond.code yX8_doesIt cX8_doesIt 3 (some .boolean), Cond.fieldLink RX8 16 "DareBridgeModel" "pride" "[I", Cond.methodLink RX8 264 yX8_doesBy, Cond.instanceMethod yX8_doesBy]
def wsX8_does_r2 : List Cond := [Cond.selects RX8 yX8_doesBy yX8_doesBy, Cond.code yX8_doesBy cX8_doesBy 4 (some .boolean), Cond.methodLink RX8 258 yX8_doneBy, Cond.instanceMethod yX8_doneBy, Cond.selects RX8 yX8_doneBy yX8_doneBy, Cond.code yX8_doneBy cX8_doneBy 4 (some .int), Cond.fieldLink RX8 87 "DareBridgeModel" "cost" "I", Cond.fieldLink RX8 13 "DareBridgeModel" "fear" "[I", Cond.methodLink RX8 182 yX8_oddsOf, Cond.instanceMethod yX8_oddsOf, Cond.selects RX8 yX8_oddsOf yX8_oddsOf, Cond.code yX8_oddsOf cX8_oddsOf 4 (some .int), Cond.fieldLink RX8 132 "DareBridgeModel" "wet" "I", Cond.fieldLink RX8 7 "DareBridgeModel" "skill" "[I", Cond.methodLink RX8 261 yX8_refusedBy, Cond.static yX8_refusedBy, Cond.code yX8_refusedBy cX8_refusedBy 2 (some .int)]
def wsX8_does : List Cond := .code yX8_does cX8_does 3 (some .int) :: ((wsX8_does_r1 ++ wsX8_does_r2) ++ wsX80)
def wsX8_nerve_r1 : List Cond := [Cond.constantLong RX8 231 (2), Cond.methodLink RX8 123 yX8_isThere, Cond.instanceMethod yX8_isThere, Cond.selects RX8 yX8_isThere yX8_isThere, Cond.initialized RX8, Cond.code yX8_isThere cX8_isThere 2 (some .boolean), Cond.fieldLink RX8 109 "DareBridgeModel" "people" "I", Cond.methodLink RX8 105 yX8_isNumber, Cond.static yX8_isNumber, Cond.code yX8_isNumber cX8_isNumber 1 (some .boolean), Cond.constantLong RX8 99 (5), Cond.methodLink RX8 101 yX8_in, Cond.static yX8_in, Cond.code yX8_in cX8_in 6 (some .boolean), Cond.methodLink RX8 275 yX8_doesIt, Cond.instanceMethod yX8_doesIt, Cond.selects RX8 yX8_doesIt yX8_doesIt, Cond.code yX8_doesIt cX8_doesIt 3 (some .boolean), Cond.fieldLink RX8 16 "DareBridgeModel" "pride" "[I", Cond.methodLink RX8 264 yX8_doesBy, Cond.instanceMethod yX8_doesBy, Cond.selects RX8 yX8_doesBy yX8_doesBy, Cond.code yX8_doesBy cX8_doesBy 4 (some .boolean), Cond.methodLink RX8 258 yX8_doneBy]
def wsX8_nerve_r2 : List Cond := [Cond.instanceMethod yX8_doneBy, Cond.selects RX8 yX8_doneBy yX8_doneBy, Cond.code yX8_doneBy cX8_doneBy 4 (some .int), Cond.fieldLink RX8 87 "DareBridgeModel" "cost" "I", Cond.fieldLink RX8 13 "DareBridgeModel" "fear" "[I", Cond.methodLink RX8 182 yX8_oddsOf, Cond.instanceMethod yX8_oddsOf, Cond.selects RX8 yX8_oddsOf yX8_oddsOf, Cond.code yX8_oddsOf cX8_oddsOf 4 (some .int), Cond.fieldLink RX8 132 "DareBridgeModel" "wet" "I", Cond.fieldLink RX8 7 "DareBridgeModel" "skill" "[I", Cond.methodLink RX8 261 yX8_refusedBy, Cond.static yX8_refusedBy, Cond.code yX8_refusedBy cX8_refusedBy 2 (some .int)]
def wsX8_nerve : List Cond := .code yX8_nerve cX8_nerve 6 (some .int) :: ((wsX8_nerve_r1 ++ wsX8_nerve_r2) ++ wsX80)
def wsX8_climbUp_r1 : List Cond := [Cond.fieldLink RX8 278 "DareBridgeModel" "climbed" "I", Cond.fieldLink RX8 281 "DareBridgeModel" "lastHeight" "I", Cond.fieldLink RX8 284 "DareBridgeModel" "refuses" "I", Cond.fieldLink RX8 287 "DareBridgeModel" "safeWays" "J", Cond.fieldLink RX8 80 "DareBridgeModel" "step" "I", Cond.methodLink RX8 275 yX8_doesIt, Cond.instanceMethod yX8_doesIt, Cond.selects RX8 yX8_doesIt yX8_doesIt, Cond.initialized RX8, Cond.code yX8_doesIt cX8_doesIt 3 (some .boolean), Cond.fieldLink RX8 16 "DareBridgeModel" "pride" "[I", Cond.methodLink RX8 264 yX8_doesBy, Cond.instanceMethod yX8_doesBy, Cond.selects RX8 yX8_doesBy yX8_doesBy, Cond.code yX8_doesBy cX8_doesBy 4 (some .boolean), Cond.methodLink RX8 258 yX8_doneBy, Cond.instanceMethod yX8_doneBy, Cond.selects RX8 yX8_doneBy yX8_doneBy, Cond.code yX8_doneBy cX8_doneBy 4 (some .int), Cond.fieldLink RX8 87 "DareBridgeModel" "cost" "I", Cond.fieldLink RX8 13 "DareBridgeModel" "fear" "[I", Cond.methodLink RX8 182 yX8_oddsOf, Cond.instanceMethod yX8_oddsOf, Cond.selects RX8 yX8_oddsOf yX8_oddsOf]
def wsX8_climbUp_r2 : List Cond := [Cond.code yX8_oddsOf cX8_oddsOf 4 (some .int), Cond.fieldLink RX8 132 "DareBridgeModel" "wet" "I", Cond.fieldLink RX8 7 "DareBridgeModel" "skill" "[I", Cond.methodLink RX8 261 yX8_refusedBy, Cond.static yX8_refusedBy, Cond.code yX8_refusedBy cX8_refusedBy 2 (some .int)]
def wsX8_climbUp : List Cond := .code yX8_climbUp cX8_climbUp 7 none :: ((wsX8_climbUp_r1 ++ wsX8_climbUp_r2) ++ wsX80)
def wsX8_areTwo : List Cond := .code yX8_areTwo cX8_areTwo 3 (some .boolean) :: ([.methodLink RX8 123 yX8_isThere, .instanceMethod yX8_isThere, .selects RX8 yX8_isThere yX8_isThere, .initialized RX8, .code yX8_isThere cX8_isThere 2 (some .boolean), .fieldLink RX8 109 "DareBridgeModel" "people" "I", .methodLink RX8 105 yX8_isNumber, .static yX8_isNumber, .code yX8_isNumber cX8_isNumber 1 (some .boolean), .constantLong RX8 99 (5), .methodLink RX8 101 yX8_in, .static yX8_in, .code yX8_in cX8_in 6 (some .boolean)] ++ wsX80)
def wsX8_isClimb : List Cond := .code yX8_isClimb cX8_isClimb 2 (some .boolean) :: ([.methodLink RX8 162 yX8_isHeight, .static yX8_isHeight, .initialized RX8, .code yX8_isHeight cX8_isHeight 1 (some .boolean), .constantLong RX8 114 (15), .methodLink RX8 101 yX8_in, .static yX8_in, .code yX8_in cX8_in 6 (some .boolean)])
def wsX8_climb_r1 : List Cond := [Cond.constantLong RX8 231 (2), Cond.fieldLink RX8 278 "DareBridgeModel" "climbed" "I", Cond.fieldLink RX8 281 "DareBridgeModel" "lastHeight" "I", Cond.fieldLink RX8 284 "DareBridgeModel" "refuses" "I", Cond.methodLink RX8 291 yX8_areTwo, Cond.instanceMethod yX8_areTwo, Cond.selects RX8 yX8_areTwo yX8_areTwo, Cond.initialized RX8, Cond.code yX8_areTwo cX8_areTwo 3 (some .boolean), Cond.methodLink RX8 123 yX8_isThere, Cond.instanceMethod yX8_isThere, Cond.selects RX8 yX8_isThere yX8_isThere, Cond.code yX8_isThere cX8_isThere 2 (some .boolean), Cond.fieldLink RX8 109 "DareBridgeModel" "people" "I", Cond.methodLink RX8 105 yX8_isNumber, Cond.static yX8_isNumber, Cond.code yX8_isNumber cX8_isNumber 1 (some .boolean), Cond.constantLong RX8 99 (5), Cond.methodLink RX8 101 yX8_in, Cond.static yX8_in, Cond.code yX8_in cX8_in 6 (some .boolean), Cond.methodLink RX8 294 yX8_isClimb, Cond.static yX8_isClimb, Cond.code yX8_isClimb cX8_isClimb 2 (some .boolean)]
def wsX8_climb_r2 : List Cond := [Cond.methodLink RX8 162 yX8_isHeight, Cond.static yX8_isHeight, Cond.code yX8_isHeight cX8_isHeight 1 (some .boolean), Cond.constantLong RX8 114 (15), Cond.methodLink RX8 297 yX8_climbUp, Cond.instanceMethod yX8_climbUp, Cond.selects RX8 yX8_climbUp yX8_climbUp, Cond.code yX8_climbUp cX8_climbUp 7 none, Cond.fieldLink RX8 287 "DareBridgeModel" "safeWays" "J", Cond.fieldLink RX8 80 "DareBridgeModel" "step" "I", Cond.methodLink RX8 275 yX8_doesIt, Cond.instanceMethod yX8_doesIt, Cond.selects RX8 yX8_doesIt yX8_doesIt, Cond.code yX8_doesIt cX8_doesIt 3 (some .boolean), Cond.fieldLink RX8 16 "DareBridgeModel" "pride" "[I", Cond.methodLink RX8 264 yX8_doesBy, Cond.instanceMethod yX8_doesBy, Cond.selects RX8 yX8_doesBy yX8_doesBy, Cond.code yX8_doesBy cX8_doesBy 4 (some .boolean), Cond.methodLink RX8 258 yX8_doneBy, Cond.instanceMethod yX8_doneBy, Cond.selects RX8 yX8_doneBy yX8_doneBy, Cond.code yX8_doneBy cX8_doneBy 4 (some .int), Cond.fieldLink RX8 87 "DareBridgeModel" "cost" "I"]
def wsX8_climb_r3 : List Cond := [Cond.fieldLink RX8 13 "DareBridgeModel" "fear" "[I", Cond.methodLink RX8 182 yX8_oddsOf, Cond.instanceMethod yX8_oddsOf, Cond.selects RX8 yX8_oddsOf yX8_oddsOf, Cond.code yX8_oddsOf cX8_oddsOf 4 (some .int), Cond.fieldLink RX8 132 "DareBridgeModel" "wet" "I", Cond.fieldLink RX8 7 "DareBridgeModel" "skill" "[I", Cond.methodLink RX8 261 yX8_refusedBy, Cond.static yX8_refusedBy, Cond.code yX8_refusedBy cX8_refusedBy 2 (some .int)]
def wsX8_climb : List Cond := .code yX8_climb cX8_climb 6 (some .int) :: ((wsX8_climb_r1 ++ (wsX8_climb_r2 ++ wsX8_climb_r3)) ++ wsX80)
def wsX8_safe_r1 : List Cond := [Cond.constantLong RX8 301 (-1000000000000000001), Cond.constantLong RX8 244 (-1000000000000000002), Cond.fieldLink RX8 287 "DareBridgeModel" "safeWays" "J", Cond.fieldLink RX8 278 "DareBridgeModel" "climbed" "I", Cond.methodLink RX8 291 yX8_areTwo, Cond.instanceMethod yX8_areTwo, Cond.selects RX8 yX8_areTwo yX8_areTwo, Cond.initialized RX8, Cond.code yX8_areTwo cX8_areTwo 3 (some .boolean), Cond.methodLink RX8 123 yX8_isThere, Cond.instanceMethod yX8_isThere, Cond.selects RX8 yX8_isThere yX8_isThere, Cond.code yX8_isThere cX8_isThere 2 (some .boolean), Cond.fieldLink RX8 109 "DareBridgeModel" "people" "I", Cond.methodLink RX8 105 yX8_isNumber, Cond.static yX8_isNumber, Cond.code yX8_isNumber cX8_isNumber 1 (some .boolean), Cond.constantLong RX8 99 (5), Cond.methodLink RX8 101 yX8_in, Cond.static yX8_in, Cond.code yX8_in cX8_in 6 (some .boolean), Cond.methodLink RX8 294 yX8_isClimb, Cond.static yX8_isClimb, Cond.code yX8_isClimb cX8_isClimb 2 (some .boolean)]
def wsX8_safe_r2 : List Cond := [Cond.methodLink RX8 162 yX8_isHeight, Cond.static yX8_isHeight, Cond.code yX8_isHeight cX8_isHeight 1 (some .boolean), Cond.constantLong RX8 114 (15), Cond.methodLink RX8 297 yX8_climbUp, Cond.instanceMethod yX8_climbUp, Cond.selects RX8 yX8_climbUp yX8_climbUp, Cond.code yX8_climbUp cX8_climbUp 7 none, Cond.fieldLink RX8 281 "DareBridgeModel" "lastHeight" "I", Cond.fieldLink RX8 284 "DareBridgeModel" "refuses" "I", Cond.fieldLink RX8 80 "DareBridgeModel" "step" "I", Cond.methodLink RX8 275 yX8_doesIt, Cond.instanceMethod yX8_doesIt, Cond.selects RX8 yX8_doesIt yX8_doesIt, Cond.code yX8_doesIt cX8_doesIt 3 (some .boolean), Cond.fieldLink RX8 16 "DareBridgeModel" "pride" "[I", Cond.methodLink RX8 264 yX8_doesBy, Cond.instanceMethod yX8_doesBy, Cond.selects RX8 yX8_doesBy yX8_doesBy, Cond.code yX8_doesBy cX8_doesBy 4 (some .boolean), Cond.methodLink RX8 258 yX8_doneBy, Cond.instanceMethod yX8_doneBy, Cond.selects RX8 yX8_doneBy yX8_doneBy, Cond.code yX8_doneBy cX8_doneBy 4 (some .int)]
def wsX8_safe_r3 : List Cond := [Cond.fieldLink RX8 87 "DareBridgeModel" "cost" "I", Cond.fieldLink RX8 13 "DareBridgeModel" "fear" "[I", Cond.methodLink RX8 182 yX8_oddsOf, Cond.instanceMethod yX8_oddsOf, Cond.selects RX8 yX8_oddsOf yX8_oddsOf, Cond.code yX8_oddsOf cX8_oddsOf 4 (some .int), Cond.fieldLink RX8 132 "DareBridgeModel" "wet" "I", Cond.fieldLink RX8 7 "DareBridgeModel" "skill" "[I", Cond.methodLink RX8 261 yX8_refusedBy, Cond.static yX8_refusedBy, Cond.code yX8_refusedBy cX8_refusedBy 2 (some .int), Cond.methodLink RX8 250 yX8_tens, Cond.static yX8_tens, Cond.code yX8_tens cX8_tens 4 (some .long), Cond.constantLong RX8 242 (10), Cond.methodLink RX8 254 yX8_lowest, Cond.static yX8_lowest, Cond.code yX8_lowest cX8_lowest 11 (some .long)]
def wsX8_safe : List Cond := .code yX8_safe cX8_safe 6 (some .long) :: ((wsX8_safe_r1 ++ (wsX8_safe_r2 ++ wsX8_safe_r3)) ++ wsX80)
def wsX8_law_r1 : List Cond := [Cond.constantLong RX8 303 (100), Cond.fieldLink RX8 287 "DareBridgeModel" "safeWays" "J", Cond.fieldLink RX8 278 "DareBridgeModel" "climbed" "I", Cond.methodLink RX8 291 yX8_areTwo, Cond.instanceMethod yX8_areTwo, Cond.selects RX8 yX8_areTwo yX8_areTwo, Cond.initialized RX8, Cond.code yX8_areTwo cX8_areTwo 3 (some .boolean), Cond.methodLink RX8 123 yX8_isThere, Cond.instanceMethod yX8_isThere, Cond.selects RX8 yX8_isThere yX8_isThere, Cond.code yX8_isThere cX8_isThere 2 (some .boolean), Cond.fieldLink RX8 109 "DareBridgeModel" "people" "I", Cond.methodLink RX8 105 yX8_isNumber, Cond.static yX8_isNumber, Cond.code yX8_isNumber cX8_isNumber 1 (some .boolean), Cond.constantLong RX8 99 (5), Cond.methodLink RX8 101 yX8_in, Cond.static yX8_in, Cond.code yX8_in cX8_in 6 (some .boolean), Cond.methodLink RX8 162 yX8_isHeight, Cond.static yX8_isHeight, Cond.code yX8_isHeight cX8_isHeight 1 (some .boolean), Cond.constantLong RX8 114 (15)]
def wsX8_law_r2 : List Cond := [Cond.methodLink RX8 297 yX8_climbUp, Cond.instanceMethod yX8_climbUp, Cond.selects RX8 yX8_climbUp yX8_climbUp, Cond.code yX8_climbUp cX8_climbUp 7 none, Cond.fieldLink RX8 281 "DareBridgeModel" "lastHeight" "I", Cond.fieldLink RX8 284 "DareBridgeModel" "refuses" "I", Cond.fieldLink RX8 80 "DareBridgeModel" "step" "I", Cond.methodLink RX8 275 yX8_doesIt, Cond.instanceMethod yX8_doesIt, Cond.selects RX8 yX8_doesIt yX8_doesIt, Cond.code yX8_doesIt cX8_doesIt 3 (some .boolean), Cond.fieldLink RX8 16 "DareBridgeModel" "pride" "[I", Cond.methodLink RX8 264 yX8_doesBy, Cond.instanceMethod yX8_doesBy, Cond.selects RX8 yX8_doesBy yX8_doesBy, Cond.code yX8_doesBy cX8_doesBy 4 (some .boolean), Cond.methodLink RX8 258 yX8_doneBy, Cond.instanceMethod yX8_doneBy, Cond.selects RX8 yX8_doneBy yX8_doneBy, Cond.code yX8_doneBy cX8_doneBy 4 (some .int), Cond.fieldLink RX8 87 "DareBridgeModel" "cost" "I", Cond.fieldLink RX8 13 "DareBridgeModel" "fear" "[I", Cond.methodLink RX8 182 yX8_oddsOf, Cond.instanceMethod yX8_oddsOf]
def wsX8_law_r3 : List Cond := [Cond.selects RX8 yX8_oddsOf yX8_oddsOf, Cond.code yX8_oddsOf cX8_oddsOf 4 (some .int), Cond.fieldLink RX8 132 "DareBridgeModel" "wet" "I", Cond.fieldLink RX8 7 "DareBridgeModel" "skill" "[I", Cond.methodLink RX8 261 yX8_refusedBy, Cond.static yX8_refusedBy, Cond.code yX8_refusedBy cX8_refusedBy 2 (some .int), Cond.methodLink RX8 250 yX8_tens, Cond.static yX8_tens, Cond.code yX8_tens cX8_tens 4 (some .long), Cond.constantLong RX8 242 (10)]
def wsX8_law : List Cond := .code yX8_law cX8_law 8 (some .int) :: ((wsX8_law_r1 ++ (wsX8_law_r2 ++ wsX8_law_r3)) ++ wsX80)
def wsX8_play_r1 : List Cond := [Cond.fieldLink RX8 16 "DareBridgeModel" "pride" "[I", Cond.fieldLink RX8 64 "DareBridgeModel" "act" "[I", Cond.fieldLink RX8 67 "DareBridgeModel" "toDared" "[I", Cond.fieldLink RX8 70 "DareBridgeModel" "toOther" "[I", Cond.methodLink RX8 269 yX8_worthDone, Cond.instanceMethod yX8_worthDone, Cond.selects RX8 yX8_worthDone yX8_worthDone, Cond.initialized RX8, Cond.code yX8_worthDone cX8_worthDone 3 (some .int), Cond.methodLink RX8 258 yX8_doneBy, Cond.instanceMethod yX8_doneBy, Cond.selects RX8 yX8_doneBy yX8_doneBy, Cond.code yX8_doneBy cX8_doneBy 4 (some .int), Cond.fieldLink RX8 87 "DareBridgeModel" "cost" "I", Cond.fieldLink RX8 13 "DareBridgeModel" "fear" "[I", Cond.methodLink RX8 182 yX8_oddsOf, Cond.instanceMethod yX8_oddsOf, Cond.selects RX8 yX8_oddsOf yX8_oddsOf, Cond.code yX8_oddsOf cX8_oddsOf 4 (some .int), Cond.fieldLink RX8 132 "DareBridgeModel" "wet" "I", Cond.fieldLink RX8 7 "DareBridgeModel" "skill" "[I", Cond.methodLink RX8 272 yX8_worthRefused, Cond.instanceMethod yX8_worthRefused, Cond.selects RX8 yX8_worthRefused yX8_worthRefused]
def wsX8_play_r2 : List Cond := [Cond.code yX8_worthRefused cX8_worthRefused 3 (some .int), Cond.methodLink RX8 261 yX8_refusedBy, Cond.static yX8_refusedBy, Cond.code yX8_refusedBy cX8_refusedBy 2 (some .int)]
def wsX8_play : List Cond := .code yX8_play cX8_play 13 none :: ((wsX8_play_r1 ++ wsX8_play_r2) ++ wsX80)
def wsX8_findGame_r1 : List Cond := [Cond.fieldLink RX8 80 "DareBridgeModel" "step" "I", Cond.fieldLink RX8 70 "DareBridgeModel" "toOther" "[I", Cond.fieldLink RX8 67 "DareBridgeModel" "toDared" "[I", Cond.methodLink RX8 305 yX8_play, Cond.instanceMethod yX8_play, Cond.selects RX8 yX8_play yX8_play, Cond.initialized RX8, Cond.code yX8_play cX8_play 13 none, Cond.fieldLink RX8 16 "DareBridgeModel" "pride" "[I", Cond.fieldLink RX8 64 "DareBridgeModel" "act" "[I", Cond.methodLink RX8 269 yX8_worthDone, Cond.instanceMethod yX8_worthDone, Cond.selects RX8 yX8_worthDone yX8_worthDone, Cond.code yX8_worthDone cX8_worthDone 3 (some .int), Cond.methodLink RX8 258 yX8_doneBy, Cond.instanceMethod yX8_doneBy, Cond.selects RX8 yX8_doneBy yX8_doneBy, Cond.code yX8_doneBy cX8_doneBy 4 (some .int), Cond.fieldLink RX8 87 "DareBridgeModel" "cost" "I", Cond.fieldLink RX8 13 "DareBridgeModel" "fear" "[I", Cond.methodLink RX8 182 yX8_oddsOf, Cond.instanceMethod yX8_oddsOf, Cond.selects RX8 yX8_oddsOf yX8_oddsOf, Cond.code yX8_oddsOf cX8_oddsOf 4 (some .int)]
def wsX8_findGame_r2 : List Cond := [Cond.fieldLink RX8 132 "DareBridgeModel" "wet" "I", Cond.fieldLink RX8 7 "DareBridgeModel" "skill" "[I", Cond.methodLink RX8 272 yX8_worthRefused, Cond.instanceMethod yX8_worthRefused, Cond.selects RX8 yX8_worthRefused yX8_worthRefused, Cond.code yX8_worthRefused cX8_worthRefused 3 (some .int), Cond.methodLink RX8 261 yX8_refusedBy, Cond.static yX8_refusedBy, Cond.code yX8_refusedBy cX8_refusedBy 2 (some .int)]
def wsX8_findGame : List Cond := .code yX8_findGame cX8_findGame 12 none :: ((wsX8_findGame_r1 ++ wsX8_findGame_r2) ++ wsX80)
def wsX8_game_r1 : List Cond := [Cond.constantLong RX8 231 (2), Cond.fieldLink RX8 64 "DareBridgeModel" "act" "[I", Cond.constant RX8 268 (1000000), Cond.fieldLink RX8 67 "DareBridgeModel" "toDared" "[I", Cond.fieldLink RX8 70 "DareBridgeModel" "toOther" "[I", Cond.methodLink RX8 291 yX8_areTwo, Cond.instanceMethod yX8_areTwo, Cond.selects RX8 yX8_areTwo yX8_areTwo, Cond.initialized RX8, Cond.code yX8_areTwo cX8_areTwo 3 (some .boolean), Cond.methodLink RX8 123 yX8_isThere, Cond.instanceMethod yX8_isThere, Cond.selects RX8 yX8_isThere yX8_isThere, Cond.code yX8_isThere cX8_isThere 2 (some .boolean), Cond.fieldLink RX8 109 "DareBridgeModel" "people" "I", Cond.methodLink RX8 105 yX8_isNumber, Cond.static yX8_isNumber, Cond.code yX8_isNumber cX8_isNumber 1 (some .boolean), Cond.constantLong RX8 99 (5), Cond.methodLink RX8 101 yX8_in, Cond.static yX8_in, Cond.code yX8_in cX8_in 6 (some .boolean), Cond.methodLink RX8 294 yX8_isClimb, Cond.static yX8_isClimb]
def wsX8_game_r2 : List Cond := [Cond.code yX8_isClimb cX8_isClimb 2 (some .boolean), Cond.methodLink RX8 162 yX8_isHeight, Cond.static yX8_isHeight, Cond.code yX8_isHeight cX8_isHeight 1 (some .boolean), Cond.constantLong RX8 114 (15), Cond.methodLink RX8 309 yX8_findGame, Cond.instanceMethod yX8_findGame, Cond.selects RX8 yX8_findGame yX8_findGame, Cond.code yX8_findGame cX8_findGame 12 none, Cond.fieldLink RX8 80 "DareBridgeModel" "step" "I", Cond.methodLink RX8 305 yX8_play, Cond.instanceMethod yX8_play, Cond.selects RX8 yX8_play yX8_play, Cond.code yX8_play cX8_play 13 none, Cond.fieldLink RX8 16 "DareBridgeModel" "pride" "[I", Cond.methodLink RX8 269 yX8_worthDone, Cond.instanceMethod yX8_worthDone, Cond.selects RX8 yX8_worthDone yX8_worthDone, Cond.code yX8_worthDone cX8_worthDone 3 (some .int), Cond.methodLink RX8 258 yX8_doneBy, Cond.instanceMethod yX8_doneBy, Cond.selects RX8 yX8_doneBy yX8_doneBy, Cond.code yX8_doneBy cX8_doneBy 4 (some .int), Cond.fieldLink RX8 87 "DareBridgeModel" "cost" "I"]
def wsX8_game_r3 : List Cond := [Cond.fieldLink RX8 13 "DareBridgeModel" "fear" "[I", Cond.methodLink RX8 182 yX8_oddsOf, Cond.instanceMethod yX8_oddsOf, Cond.selects RX8 yX8_oddsOf yX8_oddsOf, Cond.code yX8_oddsOf cX8_oddsOf 4 (some .int), Cond.fieldLink RX8 132 "DareBridgeModel" "wet" "I", Cond.fieldLink RX8 7 "DareBridgeModel" "skill" "[I", Cond.methodLink RX8 272 yX8_worthRefused, Cond.instanceMethod yX8_worthRefused, Cond.selects RX8 yX8_worthRefused yX8_worthRefused, Cond.code yX8_worthRefused cX8_worthRefused 3 (some .int), Cond.methodLink RX8 261 yX8_refusedBy, Cond.static yX8_refusedBy, Cond.code yX8_refusedBy cX8_refusedBy 2 (some .int)]
def wsX8_game : List Cond := .code yX8_game cX8_game 7 (some .int) :: ((wsX8_game_r1 ++ (wsX8_game_r2 ++ wsX8_game_r3)) ++ wsX80)
def wsX8_saidBy : List Cond := .code yX8_saidBy cX8_saidBy 7 (some .int) :: ([.fieldLink RX8 19 "DareBridgeModel" "wish" "[I", .fieldLink RX8 16 "DareBridgeModel" "pride" "[I", .methodLink RX8 123 yX8_isThere, .instanceMethod yX8_isThere, .selects RX8 yX8_isThere yX8_isThere, .initialized RX8, .code yX8_isThere cX8_isThere 2 (some .boolean), .fieldLink RX8 109 "DareBridgeModel" "people" "I", .methodLink RX8 105 yX8_isNumber, .static yX8_isNumber, .code yX8_isNumber cX8_isNumber 1 (some .boolean), .constantLong RX8 99 (5), .methodLink RX8 101 yX8_in, .static yX8_in, .code yX8_in cX8_in 6 (some .boolean), .methodLink RX8 119 yX8_ones, .static yX8_ones, .code yX8_ones cX8_ones 3 (some .int)] ++ wsX80)
def wsX8_isHeld : List Cond := .code yX8_isHeld cX8_isHeld 2 (some .boolean) :: ([.fieldLink RX8 109 "DareBridgeModel" "people" "I", .methodLink RX8 119 yX8_ones, .static yX8_ones, .initialized RX8, .code yX8_ones cX8_ones 3 (some .int)] ++ wsX80)
def wsX8_enough : List Cond := .code yX8_enough cX8_enough 2 (some .int) :: ([.methodLink RX8 123 yX8_isThere, .instanceMethod yX8_isThere, .selects RX8 yX8_isThere yX8_isThere, .initialized RX8, .code yX8_isThere cX8_isThere 2 (some .boolean), .fieldLink RX8 109 "DareBridgeModel" "people" "I", .methodLink RX8 105 yX8_isNumber, .static yX8_isNumber, .code yX8_isNumber cX8_isNumber 1 (some .boolean), .constantLong RX8 99 (5), .methodLink RX8 101 yX8_in, .static yX8_in, .code yX8_in cX8_in 6 (some .boolean), .methodLink RX8 313 yX8_saidBy, .instanceMethod yX8_saidBy, .selects RX8 yX8_saidBy yX8_saidBy, .code yX8_saidBy cX8_saidBy 7 (some .int), .fieldLink RX8 19 "DareBridgeModel" "wish" "[I", .fieldLink RX8 16 "DareBridgeModel" "pride" "[I", .methodLink RX8 119 yX8_ones, .static yX8_ones, .code yX8_ones cX8_ones 3 (some .int)] ++ wsX80)
def wsX8_holds_r1 : List Cond := [Cond.methodLink RX8 123 yX8_isThere, Cond.instanceMethod yX8_isThere, Cond.selects RX8 yX8_isThere yX8_isThere, Cond.initialized RX8, Cond.code yX8_isThere cX8_isThere 2 (some .boolean), Cond.fieldLink RX8 109 "DareBridgeModel" "people" "I", Cond.methodLink RX8 105 yX8_isNumber, Cond.static yX8_isNumber, Cond.code yX8_isNumber cX8_isNumber 1 (some .boolean), Cond.constantLong RX8 99 (5), Cond.methodLink RX8 101 yX8_in, Cond.static yX8_in, Cond.code yX8_in cX8_in 6 (some .boolean), Cond.methodLink RX8 313 yX8_saidBy, Cond.instanceMethod yX8_saidBy, Cond.selects RX8 yX8_saidBy yX8_saidBy, Cond.code yX8_saidBy cX8_saidBy 7 (some .int), Cond.fieldLink RX8 19 "DareBridgeModel" "wish" "[I", Cond.fieldLink RX8 16 "DareBridgeModel" "pride" "[I", Cond.methodLink RX8 119 yX8_ones, Cond.static yX8_ones, Cond.code yX8_ones cX8_ones 3 (some .int), Cond.methodLink RX8 316 yX8_isHeld, Cond.instanceMethod yX8_isHeld]
def wsX8_holds_r2 : List Cond := [Cond.selects RX8 yX8_isHeld yX8_isHeld, Cond.code yX8_isHeld cX8_isHeld 2 (some .boolean)]
def wsX8_holds : List Cond := .code yX8_holds cX8_holds 2 (some .int) :: ((wsX8_holds_r1 ++ wsX8_holds_r2) ++ wsX80)
def wsX8_without : List Cond := .code yX8_without cX8_without 3 (some .int) :: ([.fieldLink RX8 19 "DareBridgeModel" "wish" "[I", .methodLink RX8 123 yX8_isThere, .instanceMethod yX8_isThere, .selects RX8 yX8_isThere yX8_isThere, .initialized RX8, .code yX8_isThere cX8_isThere 2 (some .boolean), .fieldLink RX8 109 "DareBridgeModel" "people" "I", .methodLink RX8 105 yX8_isNumber, .static yX8_isNumber, .code yX8_isNumber cX8_isNumber 1 (some .boolean), .constantLong RX8 99 (5), .methodLink RX8 101 yX8_in, .static yX8_in, .code yX8_in cX8_in 6 (some .boolean)] ++ wsX80)
def wsX8_won_r1 : List Cond := [Cond.methodLink RX8 101 yX8_in, Cond.static yX8_in, Cond.initialized RX8, Cond.code yX8_in cX8_in 6 (some .boolean), Cond.methodLink RX8 319 yX8_without, Cond.instanceMethod yX8_without, Cond.selects RX8 yX8_without yX8_without, Cond.code yX8_without cX8_without 3 (some .int), Cond.fieldLink RX8 19 "DareBridgeModel" "wish" "[I", Cond.methodLink RX8 123 yX8_isThere, Cond.instanceMethod yX8_isThere, Cond.selects RX8 yX8_isThere yX8_isThere, Cond.code yX8_isThere cX8_isThere 2 (some .boolean), Cond.fieldLink RX8 109 "DareBridgeModel" "people" "I", Cond.methodLink RX8 105 yX8_isNumber, Cond.static yX8_isNumber, Cond.code yX8_isNumber cX8_isNumber 1 (some .boolean), Cond.constantLong RX8 99 (5), Cond.methodLink RX8 119 yX8_ones, Cond.static yX8_ones, Cond.code yX8_ones cX8_ones 3 (some .int), Cond.methodLink RX8 313 yX8_saidBy, Cond.instanceMethod yX8_saidBy, Cond.selects RX8 yX8_saidBy yX8_saidBy]
def wsX8_won_r2 : List Cond := [Cond.code yX8_saidBy cX8_saidBy 7 (some .int), Cond.fieldLink RX8 16 "DareBridgeModel" "pride" "[I", Cond.methodLink RX8 316 yX8_isHeld, Cond.instanceMethod yX8_isHeld, Cond.selects RX8 yX8_isHeld yX8_isHeld, Cond.code yX8_isHeld cX8_isHeld 2 (some .boolean)]
def wsX8_won : List Cond := .code yX8_won cX8_won 6 (some .int) :: ((wsX8_won_r1 ++ wsX8_won_r2) ++ wsX80)
def wsX8_refuser_r1 : List Cond := [Cond.fieldLink RX8 28 "DareBridgeModel" "nights" "[I", Cond.fieldLink RX8 22 "DareBridgeModel" "high" "[I", Cond.methodLink RX8 123 yX8_isThere, Cond.instanceMethod yX8_isThere, Cond.selects RX8 yX8_isThere yX8_isThere, Cond.initialized RX8, Cond.code yX8_isThere cX8_isThere 2 (some .boolean), Cond.fieldLink RX8 109 "DareBridgeModel" "people" "I", Cond.methodLink RX8 105 yX8_isNumber, Cond.static yX8_isNumber, Cond.code yX8_isNumber cX8_isNumber 1 (some .boolean), Cond.constantLong RX8 99 (5), Cond.methodLink RX8 101 yX8_in, Cond.static yX8_in, Cond.code yX8_in cX8_in 6 (some .boolean), Cond.methodLink RX8 162 yX8_isHeight, Cond.static yX8_isHeight, Cond.code yX8_isHeight cX8_isHeight 1 (some .boolean), Cond.constantLong RX8 114 (15), Cond.methodLink RX8 275 yX8_doesIt, Cond.instanceMethod yX8_doesIt, Cond.selects RX8 yX8_doesIt yX8_doesIt, Cond.code yX8_doesIt cX8_doesIt 3 (some .boolean), Cond.fieldLink RX8 16 "DareBridgeModel" "pride" "[I"]
def wsX8_refuser_r2 : List Cond := [Cond.methodLink RX8 264 yX8_doesBy, Cond.instanceMethod yX8_doesBy, Cond.selects RX8 yX8_doesBy yX8_doesBy, Cond.code yX8_doesBy cX8_doesBy 4 (some .boolean), Cond.methodLink RX8 258 yX8_doneBy, Cond.instanceMethod yX8_doneBy, Cond.selects RX8 yX8_doneBy yX8_doneBy, Cond.code yX8_doneBy cX8_doneBy 4 (some .int), Cond.fieldLink RX8 87 "DareBridgeModel" "cost" "I", Cond.fieldLink RX8 13 "DareBridgeModel" "fear" "[I", Cond.methodLink RX8 182 yX8_oddsOf, Cond.instanceMethod yX8_oddsOf, Cond.selects RX8 yX8_oddsOf yX8_oddsOf, Cond.code yX8_oddsOf cX8_oddsOf 4 (some .int), Cond.fieldLink RX8 132 "DareBridgeModel" "wet" "I", Cond.fieldLink RX8 7 "DareBridgeModel" "skill" "[I", Cond.methodLink RX8 261 yX8_refusedBy, Cond.static yX8_refusedBy, Cond.code yX8_refusedBy cX8_refusedBy 2 (some .int)]
def wsX8_refuser : List Cond := .code yX8_refuser cX8_refuser 4 (some .int) :: ((wsX8_refuser_r1 ++ wsX8_refuser_r2) ++ wsX80)
def wsX8_likely_r1 : List Cond := [Cond.methodLink RX8 123 yX8_isThere, Cond.instanceMethod yX8_isThere, Cond.selects RX8 yX8_isThere yX8_isThere, Cond.initialized RX8, Cond.code yX8_isThere cX8_isThere 2 (some .boolean), Cond.fieldLink RX8 109 "DareBridgeModel" "people" "I", Cond.methodLink RX8 105 yX8_isNumber, Cond.static yX8_isNumber, Cond.code yX8_isNumber cX8_isNumber 1 (some .boolean), Cond.constantLong RX8 99 (5), Cond.methodLink RX8 101 yX8_in, Cond.static yX8_in, Cond.code yX8_in cX8_in 6 (some .boolean), Cond.methodLink RX8 162 yX8_isHeight, Cond.static yX8_isHeight, Cond.code yX8_isHeight cX8_isHeight 1 (some .boolean), Cond.constantLong RX8 114 (15), Cond.methodLink RX8 264 yX8_doesBy, Cond.instanceMethod yX8_doesBy, Cond.selects RX8 yX8_doesBy yX8_doesBy, Cond.code yX8_doesBy cX8_doesBy 4 (some .boolean), Cond.methodLink RX8 258 yX8_doneBy, Cond.instanceMethod yX8_doneBy, Cond.selects RX8 yX8_doneBy yX8_doneBy]
def wsX8_likely_r2 : List Cond := [Cond.code yX8_doneBy cX8_doneBy 4 (some .int), Cond.fieldLink RX8 87 "DareBridgeModel" "cost" "I", Cond.fieldLink RX8 13 "DareBridgeModel" "fear" "[I", Cond.methodLink RX8 182 yX8_oddsOf, Cond.instanceMethod yX8_oddsOf, Cond.selects RX8 yX8_oddsOf yX8_oddsOf, Cond.code yX8_oddsOf cX8_oddsOf 4 (some .int), Cond.fieldLink RX8 132 "DareBridgeModel" "wet" "I", Cond.fieldLink RX8 7 "DareBridgeModel" "skill" "[I", Cond.methodLink RX8 261 yX8_refusedBy, Cond.static yX8_refusedBy, Cond.code yX8_refusedBy cX8_refusedBy 2 (some .int)]
def wsX8_likely : List Cond := .code yX8_likely cX8_likely 5 (some .int) :: ((wsX8_likely_r1 ++ wsX8_likely_r2) ++ wsX80)
def wsX8_seen : List Cond := .code yX8_seen cX8_seen 4 (some .int) :: ([.fieldLink RX8 322 "DareBridgeModel" "sights" "I", .fieldLink RX8 31 "DareBridgeModel" "sightOf" "[I", .fieldLink RX8 34 "DareBridgeModel" "sightHeight" "[I", .fieldLink RX8 37 "DareBridgeModel" "sightDid" "[I", .methodLink RX8 123 yX8_isThere, .instanceMethod yX8_isThere, .selects RX8 yX8_isThere yX8_isThere, .initialized RX8, .code yX8_isThere cX8_isThere 2 (some .boolean), .fieldLink RX8 109 "DareBridgeModel" "people" "I", .methodLink RX8 105 yX8_isNumber, .static yX8_isNumber, .code yX8_isNumber cX8_isNumber 1 (some .boolean), .constantLong RX8 99 (5), .methodLink RX8 101 yX8_in, .static yX8_in, .code yX8_in cX8_in 6 (some .boolean), .methodLink RX8 162 yX8_isHeight, .static yX8_isHeight, .code yX8_isHeight cX8_isHeight 1 (some .boolean), .constantLong RX8 114 (15)] ++ wsX80)
def wsX8_forget : List Cond := .code yX8_forget cX8_forget 2 (some .int) :: ([.fieldLink RX8 322 "DareBridgeModel" "sights" "I"] ++ wsX80)
def wsX8_holdsAll : List Cond := .code yX8_holdsAll cX8_holdsAll 5 (some .boolean) :: ([.fieldLink RX8 322 "DareBridgeModel" "sights" "I", .fieldLink RX8 31 "DareBridgeModel" "sightOf" "[I", .fieldLink RX8 34 "DareBridgeModel" "sightHeight" "[I", .fieldLink RX8 37 "DareBridgeModel" "sightDid" "[I", .methodLink RX8 264 yX8_doesBy, .instanceMethod yX8_doesBy, .selects RX8 yX8_doesBy yX8_doesBy, .initialized RX8, .code yX8_doesBy cX8_doesBy 4 (some .boolean), .methodLink RX8 258 yX8_doneBy, .instanceMethod yX8_doneBy, .selects RX8 yX8_doneBy yX8_doneBy, .code yX8_doneBy cX8_doneBy 4 (some .int), .fieldLink RX8 87 "DareBridgeModel" "cost" "I", .fieldLink RX8 13 "DareBridgeModel" "fear" "[I", .methodLink RX8 182 yX8_oddsOf, .instanceMethod yX8_oddsOf, .selects RX8 yX8_oddsOf yX8_oddsOf, .code yX8_oddsOf cX8_oddsOf 4 (some .int), .fieldLink RX8 132 "DareBridgeModel" "wet" "I", .fieldLink RX8 7 "DareBridgeModel" "skill" "[I", .methodLink RX8 261 yX8_refusedBy, .static yX8_refusedBy, .code yX8_refusedBy cX8_refusedBy 2 (some .int)] ++ wsX80)
def wsX8_prides_r1 : List Cond := [Cond.constantLong RX8 231 (2), Cond.methodLink RX8 123 yX8_isThere, Cond.instanceMethod yX8_isThere, Cond.selects RX8 yX8_isThere yX8_isThere, Cond.initialized RX8, Cond.code yX8_isThere cX8_isThere 2 (some .boolean), Cond.fieldLink RX8 109 "DareBridgeModel" "people" "I", Cond.methodLink RX8 105 yX8_isNumber, Cond.static yX8_isNumber, Cond.code yX8_isNumber cX8_isNumber 1 (some .boolean), Cond.constantLong RX8 99 (5), Cond.methodLink RX8 101 yX8_in, Cond.static yX8_in, Cond.code yX8_in cX8_in 6 (some .boolean), Cond.methodLink RX8 325 yX8_holdsAll, Cond.instanceMethod yX8_holdsAll, Cond.selects RX8 yX8_holdsAll yX8_holdsAll, Cond.code yX8_holdsAll cX8_holdsAll 5 (some .boolean), Cond.fieldLink RX8 322 "DareBridgeModel" "sights" "I", Cond.fieldLink RX8 31 "DareBridgeModel" "sightOf" "[I", Cond.fieldLink RX8 34 "DareBridgeModel" "sightHeight" "[I", Cond.fieldLink RX8 37 "DareBridgeModel" "sightDid" "[I", Cond.methodLink RX8 264 yX8_doesBy, Cond.instanceMethod yX8_doesBy]
def wsX8_prides_r2 : List Cond := [Cond.selects RX8 yX8_doesBy yX8_doesBy, Cond.code yX8_doesBy cX8_doesBy 4 (some .boolean), Cond.methodLink RX8 258 yX8_doneBy, Cond.instanceMethod yX8_doneBy, Cond.selects RX8 yX8_doneBy yX8_doneBy, Cond.code yX8_doneBy cX8_doneBy 4 (some .int), Cond.fieldLink RX8 87 "DareBridgeModel" "cost" "I", Cond.fieldLink RX8 13 "DareBridgeModel" "fear" "[I", Cond.methodLink RX8 182 yX8_oddsOf, Cond.instanceMethod yX8_oddsOf, Cond.selects RX8 yX8_oddsOf yX8_oddsOf, Cond.code yX8_oddsOf cX8_oddsOf 4 (some .int), Cond.fieldLink RX8 132 "DareBridgeModel" "wet" "I", Cond.fieldLink RX8 7 "DareBridgeModel" "skill" "[I", Cond.methodLink RX8 261 yX8_refusedBy, Cond.static yX8_refusedBy, Cond.code yX8_refusedBy cX8_refusedBy 2 (some .int)]
def wsX8_prides : List Cond := .code yX8_prides cX8_prides 7 (some .int) :: ((wsX8_prides_r1 ++ wsX8_prides_r2) ++ wsX80)
def wsX8_year_r1 : List Cond := [Cond.constantLong RX8 130 (9999), Cond.constantLong RX8 126 (99), Cond.constantLong RX8 231 (2), Cond.constantLong RX8 168 (75), Cond.constantLong RX8 170 (74), Cond.constantLong RX8 172 (65537), Cond.fieldLink RX8 22 "DareBridgeModel" "high" "[I", Cond.fieldLink RX8 80 "DareBridgeModel" "step" "I", Cond.fieldLink RX8 25 "DareBridgeModel" "fame" "[I", Cond.methodLink RX8 101 yX8_in, Cond.static yX8_in, Cond.initialized RX8, Cond.code yX8_in cX8_in 6 (some .boolean), Cond.methodLink RX8 222 yX8_keepNow, Cond.instanceMethod yX8_keepNow, Cond.selects RX8 yX8_keepNow yX8_keepNow, Cond.code yX8_keepNow cX8_keepNow 2 none, Cond.fieldLink RX8 55 "DareBridgeModel" "hadHigh" "[I", Cond.fieldLink RX8 58 "DareBridgeModel" "hadFame" "[I", Cond.fieldLink RX8 61 "DareBridgeModel" "hadNights" "[I", Cond.fieldLink RX8 28 "DareBridgeModel" "nights" "[I", Cond.fieldLink RX8 96 "DareBridgeModel" "x" "I", Cond.fieldLink RX8 197 "DareBridgeModel" "hadX" "I", Cond.methodLink RX8 209 yX8_whyNot]
def wsX8_year_r2 : List Cond := [Cond.instanceMethod yX8_whyNot, Cond.selects RX8 yX8_whyNot yX8_whyNot, Cond.code yX8_whyNot cX8_whyNot 4 (some .int), Cond.methodLink RX8 123 yX8_isThere, Cond.instanceMethod yX8_isThere, Cond.selects RX8 yX8_isThere yX8_isThere, Cond.code yX8_isThere cX8_isThere 2 (some .boolean), Cond.fieldLink RX8 109 "DareBridgeModel" "people" "I", Cond.methodLink RX8 105 yX8_isNumber, Cond.static yX8_isNumber, Cond.code yX8_isNumber cX8_isNumber 1 (some .boolean), Cond.constantLong RX8 99 (5), Cond.methodLink RX8 275 yX8_doesIt, Cond.instanceMethod yX8_doesIt, Cond.selects RX8 yX8_doesIt yX8_doesIt, Cond.code yX8_doesIt cX8_doesIt 3 (some .boolean), Cond.fieldLink RX8 16 "DareBridgeModel" "pride" "[I", Cond.methodLink RX8 264 yX8_doesBy, Cond.instanceMethod yX8_doesBy, Cond.selects RX8 yX8_doesBy yX8_doesBy, Cond.code yX8_doesBy cX8_doesBy 4 (some .boolean), Cond.methodLink RX8 258 yX8_doneBy, Cond.instanceMethod yX8_doneBy, Cond.selects RX8 yX8_doneBy yX8_doneBy]
def wsX8_year_r3 : List Cond := [Cond.code yX8_doneBy cX8_doneBy 4 (some .int), Cond.fieldLink RX8 87 "DareBridgeModel" "cost" "I", Cond.fieldLink RX8 13 "DareBridgeModel" "fear" "[I", Cond.methodLink RX8 182 yX8_oddsOf, Cond.instanceMethod yX8_oddsOf, Cond.selects RX8 yX8_oddsOf yX8_oddsOf, Cond.code yX8_oddsOf cX8_oddsOf 4 (some .int), Cond.fieldLink RX8 132 "DareBridgeModel" "wet" "I", Cond.fieldLink RX8 7 "DareBridgeModel" "skill" "[I", Cond.methodLink RX8 261 yX8_refusedBy, Cond.static yX8_refusedBy, Cond.code yX8_refusedBy cX8_refusedBy 2 (some .int), Cond.methodLink RX8 185 yX8_doIt, Cond.instanceMethod yX8_doIt, Cond.selects RX8 yX8_doIt yX8_doIt, Cond.code yX8_doIt cX8_doIt 4 (some .boolean), Cond.fieldLink RX8 93 "DareBridgeModel" "plaster" "I", Cond.methodLink RX8 174 yX8_most, Cond.static yX8_most, Cond.code yX8_most cX8_most 2 (some .int), Cond.methodLink RX8 178 yX8_draw, Cond.instanceMethod yX8_draw, Cond.selects RX8 yX8_draw yX8_draw, Cond.code yX8_draw cX8_draw 1 (some .int)]
def wsX8_year_r4 : List Cond := [Cond.methodLink RX8 206 yX8_passNight, Cond.instanceMethod yX8_passNight, Cond.selects RX8 yX8_passNight yX8_passNight, Cond.code yX8_passNight cX8_passNight 3 none, Cond.fieldLink RX8 90 "DareBridgeModel" "fade" "I", Cond.methodLink RX8 228 yX8_putBack, Cond.instanceMethod yX8_putBack, Cond.selects RX8 yX8_putBack yX8_putBack, Cond.code yX8_putBack cX8_putBack 2 none]
def wsX8_year : List Cond := .code yX8_year cX8_year 12 (some .int) :: ((wsX8_year_r1 ++ (wsX8_year_r2 ++ (wsX8_year_r3 ++ wsX8_year_r4))) ++ wsX80)
def wsX8_pass : List Cond := .code yX8_pass cX8_pass 3 (some .int) :: ([.fieldLink RX8 328 "DareBridgeModel" "isWriting" "Z", .fieldLink RX8 73 "DareBridgeModel" "kept" "[I", .fieldLink RX8 332 "DareBridgeModel" "keptAt" "I"] ++ wsX80)
def wsX8_passAll_r1 : List Cond := [Cond.fieldLink RX8 109 "DareBridgeModel" "people" "I", Cond.fieldLink RX8 80 "DareBridgeModel" "step" "I", Cond.fieldLink RX8 84 "DareBridgeModel" "start" "I", Cond.fieldLink RX8 87 "DareBridgeModel" "cost" "I", Cond.fieldLink RX8 90 "DareBridgeModel" "fade" "I", Cond.fieldLink RX8 93 "DareBridgeModel" "plaster" "I", Cond.fieldLink RX8 132 "DareBridgeModel" "wet" "I", Cond.fieldLink RX8 96 "DareBridgeModel" "x" "I", Cond.fieldLink RX8 322 "DareBridgeModel" "sights" "I", Cond.fieldLink RX8 7 "DareBridgeModel" "skill" "[I", Cond.fieldLink RX8 13 "DareBridgeModel" "fear" "[I", Cond.fieldLink RX8 16 "DareBridgeModel" "pride" "[I", Cond.fieldLink RX8 19 "DareBridgeModel" "wish" "[I", Cond.fieldLink RX8 22 "DareBridgeModel" "high" "[I", Cond.fieldLink RX8 25 "DareBridgeModel" "fame" "[I", Cond.fieldLink RX8 28 "DareBridgeModel" "nights" "[I", Cond.fieldLink RX8 31 "DareBridgeModel" "sightOf" "[I", Cond.fieldLink RX8 34 "DareBridgeModel" "sightHeight" "[I", Cond.fieldLink RX8 37 "DareBridgeModel" "sightDid" "[I", Cond.methodLink RX8 335 yX8_pass, Cond.instanceMethod yX8_pass, Cond.selects RX8 yX8_pass yX8_pass, Cond.initialized RX8, Cond.code yX8_pass cX8_pass 3 (some .int)]
def wsX8_passAll_r2 : List Cond := [Cond.fieldLink RX8 328 "DareBridgeModel" "isWriting" "Z", Cond.fieldLink RX8 73 "DareBridgeModel" "kept" "[I", Cond.fieldLink RX8 332 "DareBridgeModel" "keptAt" "I"]
def wsX8_passAll : List Cond := .code yX8_passAll cX8_passAll 2 none :: ((wsX8_passAll_r1 ++ wsX8_passAll_r2) ++ wsX80)
def wsX8_image_r1 : List Cond := [Cond.fieldLink RX8 332 "DareBridgeModel" "keptAt" "I", Cond.fieldLink RX8 328 "DareBridgeModel" "isWriting" "Z", Cond.fieldLink RX8 76 "DareBridgeModel" "isKept" "[Z", Cond.methodLink RX8 101 yX8_in, Cond.static yX8_in, Cond.initialized RX8, Cond.code yX8_in cX8_in 6 (some .boolean), Cond.methodLink RX8 338 yX8_passAll, Cond.instanceMethod yX8_passAll, Cond.selects RX8 yX8_passAll yX8_passAll, Cond.code yX8_passAll cX8_passAll 2 none, Cond.fieldLink RX8 109 "DareBridgeModel" "people" "I", Cond.fieldLink RX8 80 "DareBridgeModel" "step" "I", Cond.fieldLink RX8 84 "DareBridgeModel" "start" "I", Cond.fieldLink RX8 87 "DareBridgeModel" "cost" "I", Cond.fieldLink RX8 90 "DareBridgeModel" "fade" "I", Cond.fieldLink RX8 93 "DareBridgeModel" "plaster" "I", Cond.fieldLink RX8 132 "DareBridgeModel" "wet" "I", Cond.fieldLink RX8 96 "DareBridgeModel" "x" "I", Cond.fieldLink RX8 322 "DareBridgeModel" "sights" "I", Cond.fieldLink RX8 7 "DareBridgeModel" "skill" "[I", Cond.fieldLink RX8 13 "DareBridgeModel" "fear" "[I", Cond.fieldLink RX8 16 "DareBridgeModel" "pride" "[I", Cond.fieldLink RX8 19 "DareBridgeModel" "wish" "[I"]
def wsX8_image_r2 : List Cond := [Cond.fieldLink RX8 22 "DareBridgeModel" "high" "[I", Cond.fieldLink RX8 25 "DareBridgeModel" "fame" "[I", Cond.fieldLink RX8 28 "DareBridgeModel" "nights" "[I", Cond.fieldLink RX8 31 "DareBridgeModel" "sightOf" "[I", Cond.fieldLink RX8 34 "DareBridgeModel" "sightHeight" "[I", Cond.fieldLink RX8 37 "DareBridgeModel" "sightDid" "[I", Cond.methodLink RX8 335 yX8_pass, Cond.instanceMethod yX8_pass, Cond.selects RX8 yX8_pass yX8_pass, Cond.code yX8_pass cX8_pass 3 (some .int), Cond.fieldLink RX8 73 "DareBridgeModel" "kept" "[I"]
def wsX8_image : List Cond := .code yX8_image cX8_image 2 (some .int) :: ((wsX8_image_r1 ++ wsX8_image_r2) ++ wsX80)
def wsX8_restore_r1 : List Cond := [Cond.fieldLink RX8 76 "DareBridgeModel" "isKept" "[Z", Cond.fieldLink RX8 332 "DareBridgeModel" "keptAt" "I", Cond.fieldLink RX8 328 "DareBridgeModel" "isWriting" "Z", Cond.methodLink RX8 101 yX8_in, Cond.static yX8_in, Cond.initialized RX8, Cond.code yX8_in cX8_in 6 (some .boolean), Cond.methodLink RX8 338 yX8_passAll, Cond.instanceMethod yX8_passAll, Cond.selects RX8 yX8_passAll yX8_passAll, Cond.code yX8_passAll cX8_passAll 2 none, Cond.fieldLink RX8 109 "DareBridgeModel" "people" "I", Cond.fieldLink RX8 80 "DareBridgeModel" "step" "I", Cond.fieldLink RX8 84 "DareBridgeModel" "start" "I", Cond.fieldLink RX8 87 "DareBridgeModel" "cost" "I", Cond.fieldLink RX8 90 "DareBridgeModel" "fade" "I", Cond.fieldLink RX8 93 "DareBridgeModel" "plaster" "I", Cond.fieldLink RX8 132 "DareBridgeModel" "wet" "I", Cond.fieldLink RX8 96 "DareBridgeModel" "x" "I", Cond.fieldLink RX8 322 "DareBridgeModel" "sights" "I", Cond.fieldLink RX8 7 "DareBridgeModel" "skill" "[I", Cond.fieldLink RX8 13 "DareBridgeModel" "fear" "[I", Cond.fieldLink RX8 16 "DareBridgeModel" "pride" "[I", Cond.fieldLink RX8 19 "DareBridgeModel" "wish" "[I"]
def wsX8_restore_r2 : List Cond := [Cond.fieldLink RX8 22 "DareBridgeModel" "high" "[I", Cond.fieldLink RX8 25 "DareBridgeModel" "fame" "[I", Cond.fieldLink RX8 28 "DareBridgeModel" "nights" "[I", Cond.fieldLink RX8 31 "DareBridgeModel" "sightOf" "[I", Cond.fieldLink RX8 34 "DareBridgeModel" "sightHeight" "[I", Cond.fieldLink RX8 37 "DareBridgeModel" "sightDid" "[I", Cond.methodLink RX8 335 yX8_pass, Cond.instanceMethod yX8_pass, Cond.selects RX8 yX8_pass yX8_pass, Cond.code yX8_pass cX8_pass 3 (some .int), Cond.fieldLink RX8 73 "DareBridgeModel" "kept" "[I"]
def wsX8_restore : List Cond := .code yX8_restore cX8_restore 2 (some .int) :: ((wsX8_restore_r1 ++ wsX8_restore_r2) ++ wsX80)
def wsX8_told_r1 : List Cond := [Cond.constantLong RX8 242 (10), Cond.constantLong RX8 341 (69), Cond.fieldLink RX8 7 "DareBridgeModel" "skill" "[I", Cond.fieldLink RX8 13 "DareBridgeModel" "fear" "[I", Cond.fieldLink RX8 16 "DareBridgeModel" "pride" "[I", Cond.fieldLink RX8 19 "DareBridgeModel" "wish" "[I", Cond.constantLong RX8 231 (2), Cond.constantLong RX8 343 (8), Cond.fieldLink RX8 146 "DareBridgeModel" "padMany" "I", Cond.fieldLink RX8 109 "DareBridgeModel" "people" "I", Cond.fieldLink RX8 322 "DareBridgeModel" "sights" "I", Cond.methodLink RX8 101 yX8_in, Cond.static yX8_in, Cond.initialized RX8, Cond.code yX8_in cX8_in 6 (some .boolean), Cond.methodLink RX8 123 yX8_isThere, Cond.instanceMethod yX8_isThere, Cond.selects RX8 yX8_isThere yX8_isThere, Cond.code yX8_isThere cX8_isThere 2 (some .boolean), Cond.methodLink RX8 105 yX8_isNumber, Cond.static yX8_isNumber, Cond.code yX8_isNumber cX8_isNumber 1 (some .boolean), Cond.constantLong RX8 99 (5), Cond.methodLink RX8 139 yX8_toldSet]
def wsX8_told_r2 : List Cond := [Cond.instanceMethod yX8_toldSet, Cond.selects RX8 yX8_toldSet yX8_toldSet, Cond.code yX8_toldSet cX8_toldSet 2 (some .int), Cond.fieldLink RX8 80 "DareBridgeModel" "step" "I", Cond.fieldLink RX8 84 "DareBridgeModel" "start" "I", Cond.fieldLink RX8 87 "DareBridgeModel" "cost" "I", Cond.fieldLink RX8 90 "DareBridgeModel" "fade" "I", Cond.fieldLink RX8 93 "DareBridgeModel" "plaster" "I", Cond.fieldLink RX8 132 "DareBridgeModel" "wet" "I", Cond.fieldLink RX8 96 "DareBridgeModel" "x" "I"]
def wsX8_told : List Cond := .code yX8_told cX8_told 4 (some .int) :: ((wsX8_told_r1 ++ wsX8_told_r2) ++ wsX80)
def wsJ9_max_7cf53 : List Cond := .code yJ9_max_7cf53 cJ9_max_7cf53 2 (some .int) :: ([])
def wsJ9_min_7cf53 : List Cond := .code yJ9_min_7cf53 cJ9_min_7cf53 2 (some .int) :: ([])
abbrev vwCl : List vw_C := [(RX0, TX0, 2), (RX1, TX1, 4), (RX2, TX2, 3), (RX3, TX3, 2), (RX4, TX4, 9), (RX5, TX5, 13), (RX6, TX6, 4), (RX7, TX7, 10), (RX8, TX8, 46)]
end
section
theorem inJ6 : ∀ w ∈ wsJ60, w ∈ lw_tbl := by decide +kernel
theorem inJ9 : ∀ w ∈ wsJ90, w ∈ lw_tbl := by decide +kernel
theorem dX0_init_0 : decode cX0_init 0 = .ok (.aload_n 0, 1) := by decide +kernel
theorem dX0_init_1 : decode cX0_init 1 = .ok (.invokespecial 1, 3) := by decide +kernel
theorem dX0_init_4 : decode cX0_init 4 = .ok (.aload_n 0, 1) := by decide +kernel
theorem dX0_init_5 : decode cX0_init 5 = .ok (.lconst 1, 1) := by decide +kernel
theorem dX0_init_6 : decode cX0_init 6 = .ok (.putfield 7, 3) := by decide +kernel
theorem dX0_init_9 : decode cX0_init 9 = .ok (.aload_n 0, 1) := by decide +kernel
theorem dX0_init_10 : decode cX0_init 10 = .ok (.lconst 1, 1) := by decide +kernel
theorem dX0_init_11 : decode cX0_init 11 = .ok (.putfield 13, 3) := by decide +kernel
theorem dX0_init_14 : decode cX0_init 14 = .ok (.return_, 1) := by decide +kernel
theorem dX0_begin_0 : decode cX0_begin 0 = .ok (.aload_n 0, 1) := by decide +kernel
theorem dX0_begin_1 : decode cX0_begin 1 = .ok (.lconst 1, 1) := by decide +kernel
theorem dX0_begin_2 : decode cX0_begin 2 = .ok (.putfield 7, 3) := by decide +kernel
theorem dX0_begin_5 : decode cX0_begin 5 = .ok (.aload_n 0, 1) := by decide +kernel
theorem dX0_begin_6 : decode cX0_begin 6 = .ok (.lconst 1, 1) := by decide +kernel
theorem dX0_begin_7 : decode cX0_begin 7 = .ok (.putfield 13, 3) := by decide +kernel
theorem dX0_begin_10 : decode cX0_begin 10 = .ok (.return_, 1) := by decide +kernel
theorem dX0_goesWell_0 : decode cX0_goesWell 0 = .ok (.aload_n 0, 1) := by decide +kernel
theorem dX0_goesWell_1 : decode cX0_goesWell 1 = .ok (.dup, 1) := by decide +kernel
theorem dX0_goesWell_2 : decode cX0_goesWell 2 = .ok (.getfield 7, 3) := by decide +kernel
theorem dX0_goesWell_5 : decode cX0_goesWell 5 = .ok (.bipush 10, 2) := by decide +kernel
theorem dX0_goesWell_7 : decode cX0_goesWell 7 = .ok (.iload_n 1, 1) := by decide +kernel
theorem dX0_goesWell_8 : decode cX0_goesWell 8 = .ok (.isub, 1) := by decide +kernel
theorem dX0_goesWell_9 : decode cX0_goesWell 9 = .ok (.i2l, 1) := by decide +kernel
theorem dX0_goesWell_10 : decode cX0_goesWell 10 = .ok (.lmul, 1) := by decide +kernel
theorem dX0_goesWell_11 : decode cX0_goesWell 11 = .ok (.putfield 7, 3) := by decide +kernel
theorem dX0_goesWell_14 : decode cX0_goesWell 14 = .ok (.aload_n 0, 1) := by decide +kernel
theorem dX0_goesWell_15 : decode cX0_goesWell 15 = .ok (.dup, 1) := by decide +kernel
theorem dX0_goesWell_16 : decode cX0_goesWell 16 = .ok (.getfield 13, 3) := by decide +kernel
theorem dX0_goesWell_19 : decode cX0_goesWell 19 = .ok (.ldc2_w 16, 3) := by decide +kernel
theorem dX0_goesWell_22 : decode cX0_goesWell 22 = .ok (.lmul, 1) := by decide +kernel
theorem dX0_goesWell_23 : decode cX0_goesWell 23 = .ok (.putfield 13, 3) := by decide +kernel
theorem dX0_goesWell_26 : decode cX0_goesWell 26 = .ok (.return_, 1) := by decide +kernel
theorem dX0_isAtLeast_0 : decode cX0_isAtLeast 0 = .ok (.aload_n 0, 1) := by decide +kernel
theorem dX0_isAtLeast_1 : decode cX0_isAtLeast 1 = .ok (.getfield 7, 3) := by decide +kernel
theorem dX0_isAtLeast_4 : decode cX0_isAtLeast 4 = .ok (.iload_n 2, 1) := by decide +kernel
theorem dX0_isAtLeast_5 : decode cX0_isAtLeast 5 = .ok (.i2l, 1) := by decide +kernel
theorem dX0_isAtLeast_6 : decode cX0_isAtLeast 6 = .ok (.lmul, 1) := by decide +kernel
theorem dX0_isAtLeast_7 : decode cX0_isAtLeast 7 = .ok (.iload_n 1, 1) := by decide +kernel
theorem dX0_isAtLeast_8 : decode cX0_isAtLeast 8 = .ok (.i2l, 1) := by decide +kernel
theorem dX0_isAtLeast_9 : decode cX0_isAtLeast 9 = .ok (.aload_n 0, 1) := by decide +kernel
theorem dX0_isAtLeast_10 : decode cX0_isAtLeast 10 = .ok (.getfield 13, 3) := by decide +kernel
theorem dX0_isAtLeast_13 : decode cX0_isAtLeast 13 = .ok (.lmul, 1) := by decide +kernel
theorem dX0_isAtLeast_14 : decode cX0_isAtLeast 14 = .ok (.lcmp, 1) := by decide +kernel
theorem dX0_isAtLeast_15 : decode cX0_isAtLeast 15 = .ok (.ifCond .lt 7, 3) := by decide +kernel
theorem dX0_isAtLeast_18 : decode cX0_isAtLeast 18 = .ok (.iconst 1, 1) := by decide +kernel
theorem dX0_isAtLeast_19 : decode cX0_isAtLeast 19 = .ok (.goto 4, 3) := by decide +kernel
theorem dX0_isAtLeast_22 : decode cX0_isAtLeast 22 = .ok (.iconst 0, 1) := by decide +kernel
theorem dX0_isAtLeast_23 : decode cX0_isAtLeast 23 = .ok (.ireturn, 1) := by decide +kernel
theorem dX0_lowest_0 : decode cX0_lowest 0 = .ok (.aload_n 0, 1) := by decide +kernel
theorem dX0_lowest_1 : decode cX0_lowest 1 = .ok (.getfield 13, 3) := by decide +kernel
theorem dX0_lowest_4 : decode cX0_lowest 4 = .ok (.lstore_n 2, 1) := by decide +kernel
theorem dX0_lowest_5 : decode cX0_lowest 5 = .ok (.aload_n 0, 1) := by decide +kernel
theorem dX0_lowest_6 : decode cX0_lowest 6 = .ok (.getfield 7, 3) := by decide +kernel
theorem dX0_lowest_9 : decode cX0_lowest 9 = .ok (.lstore 4, 2) := by decide +kernel
theorem dX0_lowest_11 : decode cX0_lowest 11 = .ok (.iconst 0, 1) := by decide +kernel
theorem dX0_lowest_12 : decode cX0_lowest 12 = .ok (.istore 6, 2) := by decide +kernel
theorem dX0_lowest_14 : decode cX0_lowest 14 = .ok (.iload 6, 2) := by decide +kernel
theorem dX0_lowest_16 : decode cX0_lowest 16 = .ok (.bipush 100, 2) := by decide +kernel
theorem dX0_lowest_18 : decode cX0_lowest 18 = .ok (.if_icmp .ge 29, 3) := by decide +kernel
theorem dX0_lowest_21 : decode cX0_lowest 21 = .ok (.lload 4, 2) := by decide +kernel
theorem dX0_lowest_23 : decode cX0_lowest 23 = .ok (.lconst 0, 1) := by decide +kernel
theorem dX0_lowest_24 : decode cX0_lowest 24 = .ok (.lcmp, 1) := by decide +kernel
theorem dX0_lowest_25 : decode cX0_lowest 25 = .ok (.ifCond .eq 22, 3) := by decide +kernel
theorem dX0_lowest_28 : decode cX0_lowest 28 = .ok (.lload_n 2, 1) := by decide +kernel
theorem dX0_lowest_29 : decode cX0_lowest 29 = .ok (.lload 4, 2) := by decide +kernel
theorem dX0_lowest_31 : decode cX0_lowest 31 = .ok (.lrem, 1) := by decide +kernel
theorem dX0_lowest_32 : decode cX0_lowest 32 = .ok (.lstore 7, 2) := by decide +kernel
theorem dX0_lowest_34 : decode cX0_lowest 34 = .ok (.lload 4, 2) := by decide +kernel
theorem dX0_lowest_36 : decode cX0_lowest 36 = .ok (.lstore_n 2, 1) := by decide +kernel
theorem dX0_lowest_37 : decode cX0_lowest 37 = .ok (.lload 7, 2) := by decide +kernel
theorem dX0_lowest_39 : decode cX0_lowest 39 = .ok (.lstore 4, 2) := by decide +kernel
theorem dX0_lowest_41 : decode cX0_lowest 41 = .ok (.iinc 6 1, 3) := by decide +kernel
theorem dX0_lowest_44 : decode cX0_lowest 44 = .ok (.goto (-30), 3) := by decide +kernel
theorem dX0_lowest_47 : decode cX0_lowest 47 = .ok (.iload_n 1, 1) := by decide +kernel
theorem dX0_lowest_48 : decode cX0_lowest 48 = .ok (.ifCond .ne 10, 3) := by decide +kernel
theorem dX0_lowest_51 : decode cX0_lowest 51 = .ok (.aload_n 0, 1) := by decide +kernel
theorem dX0_lowest_52 : decode cX0_lowest 52 = .ok (.getfield 7, 3) := by decide +kernel
theorem dX0_lowest_55 : decode cX0_lowest 55 = .ok (.goto 7, 3) := by decide +kernel
theorem dX0_lowest_58 : decode cX0_lowest 58 = .ok (.aload_n 0, 1) := by decide +kernel
theorem dX0_lowest_59 : decode cX0_lowest 59 = .ok (.getfield 13, 3) := by decide +kernel
theorem dX0_lowest_62 : decode cX0_lowest 62 = .ok (.lstore 6, 2) := by decide +kernel
theorem dX0_lowest_64 : decode cX0_lowest 64 = .ok (.lload_n 2, 1) := by decide +kernel
theorem dX0_lowest_65 : decode cX0_lowest 65 = .ok (.lconst 0, 1) := by decide +kernel
theorem dX0_lowest_66 : decode cX0_lowest 66 = .ok (.lcmp, 1) := by decide +kernel
theorem dX0_lowest_67 : decode cX0_lowest 67 = .ok (.ifCond .ne 8, 3) := by decide +kernel
theorem dX0_lowest_70 : decode cX0_lowest 70 = .ok (.lload 6, 2) := by decide +kernel
theorem dX0_lowest_72 : decode cX0_lowest 72 = .ok (.goto 7, 3) := by decide +kernel
theorem dX0_lowest_75 : decode cX0_lowest 75 = .ok (.lload 6, 2) := by decide +kernel
theorem dX0_lowest_77 : decode cX0_lowest 77 = .ok (.lload_n 2, 1) := by decide +kernel
theorem dX0_lowest_78 : decode cX0_lowest 78 = .ok (.ldiv, 1) := by decide +kernel
theorem dX0_lowest_79 : decode cX0_lowest 79 = .ok (.lreturn, 1) := by decide +kernel
set_option maxRecDepth 20000 in
theorem ggX1_init_X0_init : GoodIn wsX1_init wsX0_init := goodIn_r _ [9, 10, 2, 3, 11, 12, 13, 14] (by decide +kernel) (by decide +kernel)
set_option maxRecDepth 20000 in
theorem gX1_init_X0_init_n11 : GoodIn wsX1_init (wsX0_init) := ggX1_init_X0_init
theorem dX1_init_0 : decode cX1_init 0 = .ok (.aload_n 0, 1) := by decide +kernel
theorem dX1_init_1 : decode cX1_init 1 = .ok (.invokespecial 3, 3) := by decide +kernel
theorem dX1_init_4 : decode cX1_init 4 = .ok (.aload_n 0, 1) := by decide +kernel
theorem dX1_init_5 : decode cX1_init 5 = .ok (.new 9, 3) := by decide +kernel
theorem dX1_init_8 : decode cX1_init 8 = .ok (.dup, 1) := by decide +kernel
theorem dX1_init_9 : decode cX1_init 9 = .ok (.invokespecial 11, 3) := by decide +kernel
theorem dX1_init_12 : decode cX1_init 12 = .ok (.putfield 12, 3) := by decide +kernel
theorem dX1_init_15 : decode cX1_init 15 = .ok (.return_, 1) := by decide +kernel
set_option maxRecDepth 20000 in
theorem ggX1_go_X0_begin : GoodIn wsX1_go wsX0_begin := goodIn_r _ [13, 14, 15, 61, 62] (by decide +kernel) (by decide +kernel)
set_option maxRecDepth 20000 in
theorem gX1_go_X0_begin : GoodIn wsX1_go (wsV RX1 18 RX0 yX0_begin wsX0_begin) := goodIn_app (goodIn_of _ (by decide +kernel)) ggX1_go_X0_begin
set_option maxRecDepth 20000 in
theorem ggX1_go_X5_rule : GoodIn wsX1_go wsX5_rule := goodIn_r _ [20, 21, 22, 23, 24, 63, 64, 65, 66, 67, 68, 69, 70, 71, 72, 73, 74, 75] (by decide +kernel) (by decide +kernel)
set_option maxRecDepth 20000 in
theorem gX1_go_X5_rule : GoodIn wsX1_go (wsV RX1 31 RX5 yX5_rule wsX5_rule) := goodIn_app (goodIn_of _ (by decide +kernel)) ggX1_go_X5_rule
set_option maxRecDepth 20000 in
theorem ggX1_go_X5_prideOf : GoodIn wsX1_go wsX5_prideOf := goodIn_r _ [28, 29, 22, 23, 24, 63, 64, 65, 66, 67, 68, 69, 70, 71, 72, 73, 74, 75] (by decide +kernel) (by decide +kernel)
set_option maxRecDepth 20000 in
theorem gX1_go_X5_prideOf : GoodIn wsX1_go (wsV RX1 43 RX5 yX5_prideOf wsX5_prideOf) := goodIn_app (goodIn_of _ (by decide +kernel)) ggX1_go_X5_prideOf
set_option maxRecDepth 20000 in
theorem ggX1_go_X5_dares : GoodIn wsX1_go wsX5_dares := goodIn_r _ [33, 34, 35, 36, 19, 37, 21, 38, 22, 23, 24, 39, 40, 41, 42, 43, 44, 45, 7, 46, 47, 6, 8, 48, 49, 50, 63, 64, 65, 66, 67, 68, 69, 70, 71, 72, 73, 74, 75] (by decide +kernel) (by decide +kernel)
set_option maxRecDepth 20000 in
theorem gX1_go_X5_dares : GoodIn wsX1_go (wsV RX1 46 RX5 yX5_dares wsX5_dares) := goodIn_app (goodIn_of _ (by decide +kernel)) ggX1_go_X5_dares
set_option maxRecDepth 20000 in
theorem ggX1_go_X5_oddsOf : GoodIn wsX1_go wsX5_oddsOf := goodIn_r _ [42, 21, 43, 44, 45, 7, 46, 47, 6, 8, 22, 23, 24, 63, 64, 65, 66, 67, 68, 69, 70, 71, 72, 73, 74, 75] (by decide +kernel) (by decide +kernel)
set_option maxRecDepth 20000 in
theorem gX1_go_X5_oddsOf : GoodIn wsX1_go (wsV RX1 50 RX5 yX5_oddsOf wsX5_oddsOf) := goodIn_app (goodIn_of _ (by decide +kernel)) ggX1_go_X5_oddsOf
set_option maxRecDepth 20000 in
theorem ggX1_go_X0_goesWell : GoodIn wsX1_go wsX0_goesWell := goodIn_r _ [55, 14, 15, 56, 61, 62] (by decide +kernel) (by decide +kernel)
set_option maxRecDepth 20000 in
theorem gX1_go_X0_goesWell : GoodIn wsX1_go (wsV RX1 53 RX0 yX0_goesWell wsX0_goesWell) := goodIn_app (goodIn_of _ (by decide +kernel)) ggX1_go_X0_goesWell
theorem dX1_go_0 : decode cX1_go 0 = .ok (.aload_n 0, 1) := by decide +kernel
theorem dX1_go_1 : decode cX1_go 1 = .ok (.getfield 12, 3) := by decide +kernel
theorem dX1_go_4 : decode cX1_go 4 = .ok (.invokevirtual 18, 3) := by decide +kernel
theorem dX1_go_7 : decode cX1_go 7 = .ok (.aload_n 0, 1) := by decide +kernel
theorem dX1_go_8 : decode cX1_go 8 = .ok (.iconst 0, 1) := by decide +kernel
theorem dX1_go_9 : decode cX1_go 9 = .ok (.putfield 21, 3) := by decide +kernel
theorem dX1_go_12 : decode cX1_go 12 = .ok (.aload_n 0, 1) := by decide +kernel
theorem dX1_go_13 : decode cX1_go 13 = .ok (.iload 4, 2) := by decide +kernel
theorem dX1_go_15 : decode cX1_go 15 = .ok (.putfield 25, 3) := by decide +kernel
theorem dX1_go_18 : decode cX1_go 18 = .ok (.aload_n 0, 1) := by decide +kernel
theorem dX1_go_19 : decode cX1_go 19 = .ok (.bipush (-6), 2) := by decide +kernel
theorem dX1_go_21 : decode cX1_go 21 = .ok (.putfield 28, 3) := by decide +kernel
theorem dX1_go_24 : decode cX1_go 24 = .ok (.aload_n 1, 1) := by decide +kernel
theorem dX1_go_25 : decode cX1_go 25 = .ok (.ifnonnull 4, 3) := by decide +kernel
theorem dX1_go_28 : decode cX1_go 28 = .ok (.return_, 1) := by decide +kernel
theorem dX1_go_29 : decode cX1_go 29 = .ok (.iconst 1, 1) := by decide +kernel
theorem dX1_go_30 : decode cX1_go 30 = .ok (.aload_n 1, 1) := by decide +kernel
theorem dX1_go_31 : decode cX1_go 31 = .ok (.iconst 0, 1) := by decide +kernel
theorem dX1_go_32 : decode cX1_go 32 = .ok (.invokevirtual 31, 3) := by decide +kernel
theorem dX1_go_35 : decode cX1_go 35 = .ok (.invokestatic 37, 3) := by decide +kernel
theorem dX1_go_38 : decode cX1_go 38 = .ok (.istore 6, 2) := by decide +kernel
theorem dX1_go_40 : decode cX1_go 40 = .ok (.iload_n 3, 1) := by decide +kernel
theorem dX1_go_41 : decode cX1_go 41 = .ok (.istore 7, 2) := by decide +kernel
theorem dX1_go_43 : decode cX1_go 43 = .ok (.iload 4, 2) := by decide +kernel
theorem dX1_go_45 : decode cX1_go 45 = .ok (.istore 8, 2) := by decide +kernel
theorem dX1_go_47 : decode cX1_go 47 = .ok (.iload 8, 2) := by decide +kernel
theorem dX1_go_49 : decode cX1_go 49 = .ok (.iload 5, 2) := by decide +kernel
theorem dX1_go_51 : decode cX1_go 51 = .ok (.if_icmp .gt 81, 3) := by decide +kernel
theorem dX1_go_54 : decode cX1_go 54 = .ok (.aload_n 0, 1) := by decide +kernel
theorem dX1_go_55 : decode cX1_go 55 = .ok (.iload 8, 2) := by decide +kernel
theorem dX1_go_57 : decode cX1_go 57 = .ok (.putfield 25, 3) := by decide +kernel
theorem dX1_go_60 : decode cX1_go 60 = .ok (.aload_n 1, 1) := by decide +kernel
theorem dX1_go_61 : decode cX1_go 61 = .ok (.iload 7, 2) := by decide +kernel
theorem dX1_go_63 : decode cX1_go 63 = .ok (.iload 8, 2) := by decide +kernel
theorem dX1_go_65 : decode cX1_go 65 = .ok (.aload_n 1, 1) := by decide +kernel
theorem dX1_go_66 : decode cX1_go 66 = .ok (.iload 7, 2) := by decide +kernel
theorem dX1_go_68 : decode cX1_go 68 = .ok (.invokevirtual 43, 3) := by decide +kernel
theorem dX1_go_71 : decode cX1_go 71 = .ok (.invokevirtual 46, 3) := by decide +kernel
theorem dX1_go_74 : decode cX1_go 74 = .ok (.ifCond .ne 10, 3) := by decide +kernel
theorem dX1_go_77 : decode cX1_go 77 = .ok (.aload_n 0, 1) := by decide +kernel
theorem dX1_go_78 : decode cX1_go 78 = .ok (.iload 7, 2) := by decide +kernel
theorem dX1_go_80 : decode cX1_go 80 = .ok (.putfield 28, 3) := by decide +kernel
theorem dX1_go_83 : decode cX1_go 83 = .ok (.return_, 1) := by decide +kernel
theorem dX1_go_84 : decode cX1_go 84 = .ok (.aload_n 0, 1) := by decide +kernel
theorem dX1_go_85 : decode cX1_go 85 = .ok (.dup, 1) := by decide +kernel
theorem dX1_go_86 : decode cX1_go 86 = .ok (.getfield 21, 3) := by decide +kernel
theorem dX1_go_89 : decode cX1_go 89 = .ok (.iconst 1, 1) := by decide +kernel
theorem dX1_go_90 : decode cX1_go 90 = .ok (.iadd, 1) := by decide +kernel
theorem dX1_go_91 : decode cX1_go 91 = .ok (.putfield 21, 3) := by decide +kernel
theorem dX1_go_94 : decode cX1_go 94 = .ok (.aload_n 0, 1) := by decide +kernel
theorem dX1_go_95 : decode cX1_go 95 = .ok (.getfield 12, 3) := by decide +kernel
theorem dX1_go_98 : decode cX1_go 98 = .ok (.aload_n 1, 1) := by decide +kernel
theorem dX1_go_99 : decode cX1_go 99 = .ok (.iload 7, 2) := by decide +kernel
theorem dX1_go_101 : decode cX1_go 101 = .ok (.iload 8, 2) := by decide +kernel
theorem dX1_go_103 : decode cX1_go 103 = .ok (.invokevirtual 50, 3) := by decide +kernel
theorem dX1_go_106 : decode cX1_go 106 = .ok (.invokevirtual 53, 3) := by decide +kernel
theorem dX1_go_109 : decode cX1_go 109 = .ok (.iload 7, 2) := by decide +kernel
theorem dX1_go_111 : decode cX1_go 111 = .ok (.iload_n 3, 1) := by decide +kernel
theorem dX1_go_112 : decode cX1_go 112 = .ok (.if_icmp .ne 7, 3) := by decide +kernel
theorem dX1_go_115 : decode cX1_go 115 = .ok (.iload_n 2, 1) := by decide +kernel
theorem dX1_go_116 : decode cX1_go 116 = .ok (.goto 4, 3) := by decide +kernel
theorem dX1_go_119 : decode cX1_go 119 = .ok (.iload_n 3, 1) := by decide +kernel
theorem dX1_go_120 : decode cX1_go 120 = .ok (.istore 7, 2) := by decide +kernel
theorem dX1_go_122 : decode cX1_go 122 = .ok (.iload 8, 2) := by decide +kernel
theorem dX1_go_124 : decode cX1_go 124 = .ok (.iload 6, 2) := by decide +kernel
theorem dX1_go_126 : decode cX1_go 126 = .ok (.iadd, 1) := by decide +kernel
theorem dX1_go_127 : decode cX1_go 127 = .ok (.istore 8, 2) := by decide +kernel
theorem dX1_go_129 : decode cX1_go 129 = .ok (.goto (-82), 3) := by decide +kernel
theorem dX1_go_132 : decode cX1_go 132 = .ok (.return_, 1) := by decide +kernel
theorem dX2_init_0 : decode cX2_init 0 = .ok (.aload_n 0, 1) := by decide +kernel
theorem dX2_init_1 : decode cX2_init 1 = .ok (.invokespecial 3, 3) := by decide +kernel
theorem dX2_init_4 : decode cX2_init 4 = .ok (.return_, 1) := by decide +kernel
set_option maxRecDepth 20000 in
theorem ggX2_solve_X5_rule : GoodIn wsX2_solve wsX5_rule := goodIn_r _ [12, 13, 14, 15, 16, 51, 52, 53, 54, 55, 56, 57, 58, 59, 60, 61, 62, 63] (by decide +kernel) (by decide +kernel)
set_option maxRecDepth 20000 in
theorem gX2_solve_X5_rule : GoodIn wsX2_solve (wsV RX2 21 RX5 yX5_rule wsX5_rule) := goodIn_app (goodIn_of _ (by decide +kernel)) ggX2_solve_X5_rule
set_option maxRecDepth 20000 in
theorem ggX2_solve_X2_settle : GoodIn wsX2_solve wsX2_settle := goodIn_r _ [21, 3, 2, 22, 23, 24, 11, 25, 26, 14, 15, 16, 27, 28, 29, 30, 13, 31, 32, 33, 34, 35, 36, 37, 38, 6, 39, 40, 5, 7, 41, 42, 43, 44, 45, 46, 20, 47, 1, 48, 49, 50, 51, 52, 53, 54, 55, 56, 57, 58, 59, 60, 61, 62, 63] (by decide +kernel) (by decide +kernel)
set_option maxRecDepth 20000 in
theorem gX2_solve_X2_settle : GoodIn wsX2_solve (wsV RX2 33 RX2 yX2_settle wsX2_settle) := goodIn_app (goodIn_of _ (by decide +kernel)) ggX2_solve_X2_settle
theorem dX2_solve_0 : decode cX2_solve 0 = .ok (.aload_n 0, 1) := by decide +kernel
theorem dX2_solve_1 : decode cX2_solve 1 = .ok (.iconst 0, 1) := by decide +kernel
theorem dX2_solve_2 : decode cX2_solve 2 = .ok (.putfield 9, 3) := by decide +kernel
theorem dX2_solve_5 : decode cX2_solve 5 = .ok (.aload_n 0, 1) := by decide +kernel
theorem dX2_solve_6 : decode cX2_solve 6 = .ok (.iconst 0, 1) := by decide +kernel
theorem dX2_solve_7 : decode cX2_solve 7 = .ok (.putfield 15, 3) := by decide +kernel
theorem dX2_solve_10 : decode cX2_solve 10 = .ok (.aload_n 0, 1) := by decide +kernel
theorem dX2_solve_11 : decode cX2_solve 11 = .ok (.iconst 0, 1) := by decide +kernel
theorem dX2_solve_12 : decode cX2_solve 12 = .ok (.putfield 18, 3) := by decide +kernel
theorem dX2_solve_15 : decode cX2_solve 15 = .ok (.aload_n 1, 1) := by decide +kernel
theorem dX2_solve_16 : decode cX2_solve 16 = .ok (.ifnonnull 4, 3) := by decide +kernel
theorem dX2_solve_19 : decode cX2_solve 19 = .ok (.return_, 1) := by decide +kernel
theorem dX2_solve_20 : decode cX2_solve 20 = .ok (.iconst 1, 1) := by decide +kernel
theorem dX2_solve_21 : decode cX2_solve 21 = .ok (.aload_n 1, 1) := by decide +kernel
theorem dX2_solve_22 : decode cX2_solve 22 = .ok (.iconst 0, 1) := by decide +kernel
theorem dX2_solve_23 : decode cX2_solve 23 = .ok (.invokevirtual 21, 3) := by decide +kernel
theorem dX2_solve_26 : decode cX2_solve 26 = .ok (.invokestatic 27, 3) := by decide +kernel
theorem dX2_solve_29 : decode cX2_solve 29 = .ok (.istore 6, 2) := by decide +kernel
theorem dX2_solve_31 : decode cX2_solve 31 = .ok (.bipush 15, 2) := by decide +kernel
theorem dX2_solve_33 : decode cX2_solve 33 = .ok (.istore 7, 2) := by decide +kernel
theorem dX2_solve_35 : decode cX2_solve 35 = .ok (.iload 7, 2) := by decide +kernel
theorem dX2_solve_37 : decode cX2_solve 37 = .ok (.ifCond .lt 67, 3) := by decide +kernel
theorem dX2_solve_40 : decode cX2_solve 40 = .ok (.iload 4, 2) := by decide +kernel
theorem dX2_solve_42 : decode cX2_solve 42 = .ok (.iload 7, 2) := by decide +kernel
theorem dX2_solve_44 : decode cX2_solve 44 = .ok (.iload 6, 2) := by decide +kernel
theorem dX2_solve_46 : decode cX2_solve 46 = .ok (.imul, 1) := by decide +kernel
theorem dX2_solve_47 : decode cX2_solve 47 = .ok (.iadd, 1) := by decide +kernel
theorem dX2_solve_48 : decode cX2_solve 48 = .ok (.istore 8, 2) := by decide +kernel
theorem dX2_solve_50 : decode cX2_solve 50 = .ok (.iload 8, 2) := by decide +kernel
theorem dX2_solve_52 : decode cX2_solve 52 = .ok (.iload 5, 2) := by decide +kernel
theorem dX2_solve_54 : decode cX2_solve 54 = .ok (.if_icmp .gt 44, 3) := by decide +kernel
theorem dX2_solve_57 : decode cX2_solve 57 = .ok (.iload 7, 2) := by decide +kernel
theorem dX2_solve_59 : decode cX2_solve 59 = .ok (.iconst 2, 1) := by decide +kernel
theorem dX2_solve_60 : decode cX2_solve 60 = .ok (.irem, 1) := by decide +kernel
theorem dX2_solve_61 : decode cX2_solve 61 = .ok (.ifCond .ne 7, 3) := by decide +kernel
theorem dX2_solve_64 : decode cX2_solve 64 = .ok (.iconst 1, 1) := by decide +kernel
theorem dX2_solve_65 : decode cX2_solve 65 = .ok (.goto 4, 3) := by decide +kernel
theorem dX2_solve_68 : decode cX2_solve 68 = .ok (.iconst 0, 1) := by decide +kernel
theorem dX2_solve_69 : decode cX2_solve 69 = .ok (.istore 9, 2) := by decide +kernel
theorem dX2_solve_71 : decode cX2_solve 71 = .ok (.aload_n 0, 1) := by decide +kernel
theorem dX2_solve_72 : decode cX2_solve 72 = .ok (.aload_n 1, 1) := by decide +kernel
theorem dX2_solve_73 : decode cX2_solve 73 = .ok (.iload 9, 2) := by decide +kernel
theorem dX2_solve_75 : decode cX2_solve 75 = .ok (.ifCond .eq 7, 3) := by decide +kernel
theorem dX2_solve_78 : decode cX2_solve 78 = .ok (.iload_n 2, 1) := by decide +kernel
theorem dX2_solve_79 : decode cX2_solve 79 = .ok (.goto 4, 3) := by decide +kernel
theorem dX2_solve_82 : decode cX2_solve 82 = .ok (.iload_n 3, 1) := by decide +kernel
theorem dX2_solve_83 : decode cX2_solve 83 = .ok (.iload 9, 2) := by decide +kernel
theorem dX2_solve_85 : decode cX2_solve 85 = .ok (.ifCond .eq 7, 3) := by decide +kernel
theorem dX2_solve_88 : decode cX2_solve 88 = .ok (.iload_n 3, 1) := by decide +kernel
theorem dX2_solve_89 : decode cX2_solve 89 = .ok (.goto 4, 3) := by decide +kernel
theorem dX2_solve_92 : decode cX2_solve 92 = .ok (.iload_n 2, 1) := by decide +kernel
theorem dX2_solve_93 : decode cX2_solve 93 = .ok (.iload 8, 2) := by decide +kernel
theorem dX2_solve_95 : decode cX2_solve 95 = .ok (.invokevirtual 33, 3) := by decide +kernel
theorem dX2_solve_98 : decode cX2_solve 98 = .ok (.iinc 7 (-1), 3) := by decide +kernel
theorem dX2_solve_101 : decode cX2_solve 101 = .ok (.goto (-66), 3) := by decide +kernel
theorem dX2_solve_104 : decode cX2_solve 104 = .ok (.return_, 1) := by decide +kernel
set_option maxRecDepth 20000 in
theorem ggX2_settle_X5_prideOf : GoodIn wsX2_settle wsX5_prideOf := goodIn_r _ [7, 8, 9, 10, 11, 42, 43, 44, 45, 46, 47, 48, 49, 50, 51, 52, 53, 54] (by decide +kernel) (by decide +kernel)
set_option maxRecDepth 20000 in
theorem gX2_settle_X5_prideOf : GoodIn wsX2_settle (wsV RX2 37 RX5 yX5_prideOf wsX5_prideOf) := goodIn_app (goodIn_of _ (by decide +kernel)) ggX2_settle_X5_prideOf
set_option maxRecDepth 20000 in
theorem ggX2_settle_X5_worthDone : GoodIn wsX2_settle wsX5_worthDone := goodIn_r _ [15, 16, 17, 9, 10, 11, 18, 19, 20, 6, 21, 22, 23, 24, 25, 26, 27, 28, 29, 42, 43, 44, 45, 46, 47, 48, 49, 50, 51, 52, 53, 54] (by decide +kernel) (by decide +kernel)
set_option maxRecDepth 20000 in
theorem gX2_settle_X5_worthDone : GoodIn wsX2_settle (wsV RX2 40 RX5 yX5_worthDone wsX5_worthDone) := goodIn_app (goodIn_of _ (by decide +kernel)) ggX2_settle_X5_worthDone
set_option maxRecDepth 20000 in
theorem ggX2_settle_X5_worthRefused : GoodIn wsX2_settle wsX5_worthRefused := goodIn_r _ [32] (by decide +kernel) (by decide +kernel)
set_option maxRecDepth 20000 in
theorem gX2_settle_X5_worthRefused : GoodIn wsX2_settle (va_wsS RX2 44 yX5_worthRefused wsX5_worthRefused) := goodIn_app (goodIn_of _ (by decide +kernel)) ggX2_settle_X5_worthRefused
set_option maxRecDepth 20000 in
theorem ggX2_settle_X2_settleFor : GoodIn wsX2_settle wsX2_settleFor := goodIn_r _ [37, 38, 2, 1, 39, 40, 41] (by decide +kernel) (by decide +kernel)
set_option maxRecDepth 20000 in
theorem gX2_settle_X2_settleFor : GoodIn wsX2_settle (wsV RX2 47 RX2 yX2_settleFor wsX2_settleFor) := goodIn_app (goodIn_of _ (by decide +kernel)) ggX2_settle_X2_settleFor
theorem dX2_settle_0 : decode cX2_settle 0 = .ok (.aload_n 1, 1) := by decide +kernel
theorem dX2_settle_1 : decode cX2_settle 1 = .ok (.ifnonnull 4, 3) := by decide +kernel
theorem dX2_settle_4 : decode cX2_settle 4 = .ok (.return_, 1) := by decide +kernel
theorem dX2_settle_5 : decode cX2_settle 5 = .ok (.aload_n 1, 1) := by decide +kernel
theorem dX2_settle_6 : decode cX2_settle 6 = .ok (.iload_n 3, 1) := by decide +kernel
theorem dX2_settle_7 : decode cX2_settle 7 = .ok (.invokevirtual 37, 3) := by decide +kernel
theorem dX2_settle_10 : decode cX2_settle 10 = .ok (.istore 5, 2) := by decide +kernel
theorem dX2_settle_12 : decode cX2_settle 12 = .ok (.aload_n 1, 1) := by decide +kernel
theorem dX2_settle_13 : decode cX2_settle 13 = .ok (.iload_n 3, 1) := by decide +kernel
theorem dX2_settle_14 : decode cX2_settle 14 = .ok (.iload 4, 2) := by decide +kernel
theorem dX2_settle_16 : decode cX2_settle 16 = .ok (.iload 5, 2) := by decide +kernel
theorem dX2_settle_18 : decode cX2_settle 18 = .ok (.invokevirtual 40, 3) := by decide +kernel
theorem dX2_settle_21 : decode cX2_settle 21 = .ok (.aload_n 0, 1) := by decide +kernel
theorem dX2_settle_22 : decode cX2_settle 22 = .ok (.getfield 18, 3) := by decide +kernel
theorem dX2_settle_25 : decode cX2_settle 25 = .ok (.iadd, 1) := by decide +kernel
theorem dX2_settle_26 : decode cX2_settle 26 = .ok (.istore 6, 2) := by decide +kernel
theorem dX2_settle_28 : decode cX2_settle 28 = .ok (.aload_n 0, 1) := by decide +kernel
theorem dX2_settle_29 : decode cX2_settle 29 = .ok (.getfield 15, 3) := by decide +kernel
theorem dX2_settle_32 : decode cX2_settle 32 = .ok (.istore 7, 2) := by decide +kernel
theorem dX2_settle_34 : decode cX2_settle 34 = .ok (.iload 4, 2) := by decide +kernel
theorem dX2_settle_36 : decode cX2_settle 36 = .ok (.iload 5, 2) := by decide +kernel
theorem dX2_settle_38 : decode cX2_settle 38 = .ok (.invokestatic 44, 3) := by decide +kernel
theorem dX2_settle_41 : decode cX2_settle 41 = .ok (.istore 8, 2) := by decide +kernel
theorem dX2_settle_43 : decode cX2_settle 43 = .ok (.aload_n 1, 1) := by decide +kernel
theorem dX2_settle_44 : decode cX2_settle 44 = .ok (.iload_n 2, 1) := by decide +kernel
theorem dX2_settle_45 : decode cX2_settle 45 = .ok (.iload 4, 2) := by decide +kernel
theorem dX2_settle_47 : decode cX2_settle 47 = .ok (.aload_n 1, 1) := by decide +kernel
theorem dX2_settle_48 : decode cX2_settle 48 = .ok (.iload_n 2, 1) := by decide +kernel
theorem dX2_settle_49 : decode cX2_settle 49 = .ok (.invokevirtual 37, 3) := by decide +kernel
theorem dX2_settle_52 : decode cX2_settle 52 = .ok (.invokevirtual 40, 3) := by decide +kernel
theorem dX2_settle_55 : decode cX2_settle 55 = .ok (.aload_n 0, 1) := by decide +kernel
theorem dX2_settle_56 : decode cX2_settle 56 = .ok (.getfield 15, 3) := by decide +kernel
theorem dX2_settle_59 : decode cX2_settle 59 = .ok (.iadd, 1) := by decide +kernel
theorem dX2_settle_60 : decode cX2_settle 60 = .ok (.istore 9, 2) := by decide +kernel
theorem dX2_settle_62 : decode cX2_settle 62 = .ok (.bipush (-10), 2) := by decide +kernel
theorem dX2_settle_64 : decode cX2_settle 64 = .ok (.aload_n 1, 1) := by decide +kernel
theorem dX2_settle_65 : decode cX2_settle 65 = .ok (.iload_n 2, 1) := by decide +kernel
theorem dX2_settle_66 : decode cX2_settle 66 = .ok (.invokevirtual 37, 3) := by decide +kernel
theorem dX2_settle_69 : decode cX2_settle 69 = .ok (.imul, 1) := by decide +kernel
theorem dX2_settle_70 : decode cX2_settle 70 = .ok (.iload 4, 2) := by decide +kernel
theorem dX2_settle_72 : decode cX2_settle 72 = .ok (.imul, 1) := by decide +kernel
theorem dX2_settle_73 : decode cX2_settle 73 = .ok (.istore 10, 2) := by decide +kernel
theorem dX2_settle_75 : decode cX2_settle 75 = .ok (.iload 9, 2) := by decide +kernel
theorem dX2_settle_77 : decode cX2_settle 77 = .ok (.iload 10, 2) := by decide +kernel
theorem dX2_settle_79 : decode cX2_settle 79 = .ok (.if_icmp .lt 7, 3) := by decide +kernel
theorem dX2_settle_82 : decode cX2_settle 82 = .ok (.iconst 1, 1) := by decide +kernel
theorem dX2_settle_83 : decode cX2_settle 83 = .ok (.goto 4, 3) := by decide +kernel
theorem dX2_settle_86 : decode cX2_settle 86 = .ok (.iconst 0, 1) := by decide +kernel
theorem dX2_settle_87 : decode cX2_settle 87 = .ok (.istore 11, 2) := by decide +kernel
theorem dX2_settle_89 : decode cX2_settle 89 = .ok (.iload 11, 2) := by decide +kernel
theorem dX2_settle_91 : decode cX2_settle 91 = .ok (.ifCond .eq 8, 3) := by decide +kernel
theorem dX2_settle_94 : decode cX2_settle 94 = .ok (.iload 6, 2) := by decide +kernel
theorem dX2_settle_96 : decode cX2_settle 96 = .ok (.goto 10, 3) := by decide +kernel
theorem dX2_settle_99 : decode cX2_settle 99 = .ok (.iconst 5, 1) := by decide +kernel
theorem dX2_settle_100 : decode cX2_settle 100 = .ok (.iload 5, 2) := by decide +kernel
theorem dX2_settle_102 : decode cX2_settle 102 = .ok (.imul, 1) := by decide +kernel
theorem dX2_settle_103 : decode cX2_settle 103 = .ok (.iload 4, 2) := by decide +kernel
theorem dX2_settle_105 : decode cX2_settle 105 = .ok (.imul, 1) := by decide +kernel
theorem dX2_settle_106 : decode cX2_settle 106 = .ok (.istore 12, 2) := by decide +kernel
theorem dX2_settle_108 : decode cX2_settle 108 = .ok (.iload 6, 2) := by decide +kernel
theorem dX2_settle_110 : decode cX2_settle 110 = .ok (.iload 8, 2) := by decide +kernel
theorem dX2_settle_112 : decode cX2_settle 112 = .ok (.if_icmp .lt 22, 3) := by decide +kernel
theorem dX2_settle_115 : decode cX2_settle 115 = .ok (.iload 6, 2) := by decide +kernel
theorem dX2_settle_117 : decode cX2_settle 117 = .ok (.iload 12, 2) := by decide +kernel
theorem dX2_settle_119 : decode cX2_settle 119 = .ok (.if_icmp .lt 15, 3) := by decide +kernel
theorem dX2_settle_122 : decode cX2_settle 122 = .ok (.aload_n 0, 1) := by decide +kernel
theorem dX2_settle_123 : decode cX2_settle 123 = .ok (.iconst 0, 1) := by decide +kernel
theorem dX2_settle_124 : decode cX2_settle 124 = .ok (.iload 6, 2) := by decide +kernel
theorem dX2_settle_126 : decode cX2_settle 126 = .ok (.iload 7, 2) := by decide +kernel
theorem dX2_settle_128 : decode cX2_settle 128 = .ok (.invokevirtual 47, 3) := by decide +kernel
theorem dX2_settle_131 : decode cX2_settle 131 = .ok (.goto 40, 3) := by decide +kernel
theorem dX2_settle_134 : decode cX2_settle 134 = .ok (.iload 8, 2) := by decide +kernel
theorem dX2_settle_136 : decode cX2_settle 136 = .ok (.iload 12, 2) := by decide +kernel
theorem dX2_settle_138 : decode cX2_settle 138 = .ok (.if_icmp .lt 14, 3) := by decide +kernel
theorem dX2_settle_141 : decode cX2_settle 141 = .ok (.aload_n 0, 1) := by decide +kernel
theorem dX2_settle_142 : decode cX2_settle 142 = .ok (.iconst 1, 1) := by decide +kernel
theorem dX2_settle_143 : decode cX2_settle 143 = .ok (.iload 8, 2) := by decide +kernel
theorem dX2_settle_145 : decode cX2_settle 145 = .ok (.iconst 0, 1) := by decide +kernel
theorem dX2_settle_146 : decode cX2_settle 146 = .ok (.invokevirtual 47, 3) := by decide +kernel
theorem dX2_settle_149 : decode cX2_settle 149 = .ok (.goto 22, 3) := by decide +kernel
theorem dX2_settle_152 : decode cX2_settle 152 = .ok (.aload_n 0, 1) := by decide +kernel
theorem dX2_settle_153 : decode cX2_settle 153 = .ok (.iconst 2, 1) := by decide +kernel
theorem dX2_settle_154 : decode cX2_settle 154 = .ok (.iload 12, 2) := by decide +kernel
theorem dX2_settle_156 : decode cX2_settle 156 = .ok (.iload 11, 2) := by decide +kernel
theorem dX2_settle_158 : decode cX2_settle 158 = .ok (.ifCond .eq 8, 3) := by decide +kernel
theorem dX2_settle_161 : decode cX2_settle 161 = .ok (.iload 9, 2) := by decide +kernel
theorem dX2_settle_163 : decode cX2_settle 163 = .ok (.goto 5, 3) := by decide +kernel
theorem dX2_settle_166 : decode cX2_settle 166 = .ok (.iload 10, 2) := by decide +kernel
theorem dX2_settle_168 : decode cX2_settle 168 = .ok (.invokevirtual 47, 3) := by decide +kernel
theorem dX2_settle_171 : decode cX2_settle 171 = .ok (.return_, 1) := by decide +kernel
theorem dX2_settleFor_0 : decode cX2_settleFor 0 = .ok (.aload_n 0, 1) := by decide +kernel
theorem dX2_settleFor_1 : decode cX2_settleFor 1 = .ok (.iload_n 1, 1) := by decide +kernel
theorem dX2_settleFor_2 : decode cX2_settleFor 2 = .ok (.putfield 9, 3) := by decide +kernel
theorem dX2_settleFor_5 : decode cX2_settleFor 5 = .ok (.aload_n 0, 1) := by decide +kernel
theorem dX2_settleFor_6 : decode cX2_settleFor 6 = .ok (.iload_n 2, 1) := by decide +kernel
theorem dX2_settleFor_7 : decode cX2_settleFor 7 = .ok (.putfield 15, 3) := by decide +kernel
theorem dX2_settleFor_10 : decode cX2_settleFor 10 = .ok (.aload_n 0, 1) := by decide +kernel
theorem dX2_settleFor_11 : decode cX2_settleFor 11 = .ok (.iload_n 3, 1) := by decide +kernel
theorem dX2_settleFor_12 : decode cX2_settleFor 12 = .ok (.putfield 18, 3) := by decide +kernel
theorem dX2_settleFor_15 : decode cX2_settleFor 15 = .ok (.return_, 1) := by decide +kernel
theorem dX3_init_0 : decode cX3_init 0 = .ok (.aload_n 0, 1) := by decide +kernel
theorem dX3_init_1 : decode cX3_init 1 = .ok (.invokespecial 3, 3) := by decide +kernel
theorem dX3_init_4 : decode cX3_init 4 = .ok (.aload_n 0, 1) := by decide +kernel
theorem dX3_init_5 : decode cX3_init 5 = .ok (.bipush 60, 2) := by decide +kernel
theorem dX3_init_7 : decode cX3_init 7 = .ok (.newarray .int, 2) := by decide +kernel
theorem dX3_init_9 : decode cX3_init 9 = .ok (.putfield 9, 3) := by decide +kernel
theorem dX3_init_12 : decode cX3_init 12 = .ok (.aload_n 0, 1) := by decide +kernel
theorem dX3_init_13 : decode cX3_init 13 = .ok (.iconst 0, 1) := by decide +kernel
theorem dX3_init_14 : decode cX3_init 14 = .ok (.putfield 15, 3) := by decide +kernel
theorem dX3_init_17 : decode cX3_init 17 = .ok (.return_, 1) := by decide +kernel
set_option maxRecDepth 20000 in
theorem ggX3_add_X7_put : GoodIn wsX3_add wsX7_put := goodIn_r _ [5] (by decide +kernel) (by decide +kernel)
set_option maxRecDepth 20000 in
theorem gX3_add_X7_put_n19 : GoodIn wsX3_add (wsX7_put) := ggX3_add_X7_put
theorem dX3_add_0 : decode cX3_add 0 = .ok (.aload_n 0, 1) := by decide +kernel
theorem dX3_add_1 : decode cX3_add 1 = .ok (.getfield 15, 3) := by decide +kernel
theorem dX3_add_4 : decode cX3_add 4 = .ok (.bipush 60, 2) := by decide +kernel
theorem dX3_add_6 : decode cX3_add 6 = .ok (.if_icmp .lt 5, 3) := by decide +kernel
theorem dX3_add_9 : decode cX3_add 9 = .ok (.iconst 0, 1) := by decide +kernel
theorem dX3_add_10 : decode cX3_add 10 = .ok (.ireturn, 1) := by decide +kernel
theorem dX3_add_11 : decode cX3_add 11 = .ok (.aload_n 0, 1) := by decide +kernel
theorem dX3_add_12 : decode cX3_add 12 = .ok (.getfield 9, 3) := by decide +kernel
theorem dX3_add_15 : decode cX3_add 15 = .ok (.aload_n 0, 1) := by decide +kernel
theorem dX3_add_16 : decode cX3_add 16 = .ok (.getfield 15, 3) := by decide +kernel
theorem dX3_add_19 : decode cX3_add 19 = .ok (.iload_n 1, 1) := by decide +kernel
theorem dX3_add_20 : decode cX3_add 20 = .ok (.invokestatic 19, 3) := by decide +kernel
theorem dX3_add_23 : decode cX3_add 23 = .ok (.aload_n 0, 1) := by decide +kernel
theorem dX3_add_24 : decode cX3_add 24 = .ok (.dup, 1) := by decide +kernel
theorem dX3_add_25 : decode cX3_add 25 = .ok (.getfield 15, 3) := by decide +kernel
theorem dX3_add_28 : decode cX3_add 28 = .ok (.iconst 1, 1) := by decide +kernel
theorem dX3_add_29 : decode cX3_add 29 = .ok (.iadd, 1) := by decide +kernel
theorem dX3_add_30 : decode cX3_add 30 = .ok (.putfield 15, 3) := by decide +kernel
theorem dX3_add_33 : decode cX3_add 33 = .ok (.iconst 1, 1) := by decide +kernel
theorem dX3_add_34 : decode cX3_add 34 = .ok (.ireturn, 1) := by decide +kernel
theorem dX3_clear_0 : decode cX3_clear 0 = .ok (.aload_n 0, 1) := by decide +kernel
theorem dX3_clear_1 : decode cX3_clear 1 = .ok (.iconst 0, 1) := by decide +kernel
theorem dX3_clear_2 : decode cX3_clear 2 = .ok (.putfield 15, 3) := by decide +kernel
theorem dX3_clear_5 : decode cX3_clear 5 = .ok (.return_, 1) := by decide +kernel
set_option maxRecDepth 20000 in
theorem ggX3_faultAt_X7_at : GoodIn wsX3_faultAt wsX7_at := goodIn_r _ [5] (by decide +kernel) (by decide +kernel)
set_option maxRecDepth 20000 in
theorem gX3_faultAt_X7_at_n23 : GoodIn wsX3_faultAt (wsX7_at) := ggX3_faultAt_X7_at
set_option maxRecDepth 20000 in
theorem ggX3_faultAt_X3_canStand : GoodIn wsX3_faultAt wsX3_canStand := goodIn_r _ [9, 10, 11, 8, 12, 13, 4, 14] (by decide +kernel) (by decide +kernel)
set_option maxRecDepth 20000 in
theorem gX3_faultAt_X3_canStand : GoodIn wsX3_faultAt (va_wsS RX3 27 yX3_canStand wsX3_canStand) := goodIn_app (goodIn_of _ (by decide +kernel)) ggX3_faultAt_X3_canStand
theorem dX3_faultAt_0 : decode cX3_faultAt 0 = .ok (.iconst 0, 1) := by decide +kernel
theorem dX3_faultAt_1 : decode cX3_faultAt 1 = .ok (.istore_n 1, 1) := by decide +kernel
theorem dX3_faultAt_2 : decode cX3_faultAt 2 = .ok (.iconst 0, 1) := by decide +kernel
theorem dX3_faultAt_3 : decode cX3_faultAt 3 = .ok (.istore_n 2, 1) := by decide +kernel
theorem dX3_faultAt_4 : decode cX3_faultAt 4 = .ok (.iload_n 2, 1) := by decide +kernel
theorem dX3_faultAt_5 : decode cX3_faultAt 5 = .ok (.aload_n 0, 1) := by decide +kernel
theorem dX3_faultAt_6 : decode cX3_faultAt 6 = .ok (.getfield 15, 3) := by decide +kernel
theorem dX3_faultAt_9 : decode cX3_faultAt 9 = .ok (.if_icmp .ge 57, 3) := by decide +kernel
theorem dX3_faultAt_12 : decode cX3_faultAt 12 = .ok (.aload_n 0, 1) := by decide +kernel
theorem dX3_faultAt_13 : decode cX3_faultAt 13 = .ok (.getfield 9, 3) := by decide +kernel
theorem dX3_faultAt_16 : decode cX3_faultAt 16 = .ok (.iload_n 2, 1) := by decide +kernel
theorem dX3_faultAt_17 : decode cX3_faultAt 17 = .ok (.invokestatic 23, 3) := by decide +kernel
theorem dX3_faultAt_20 : decode cX3_faultAt 20 = .ok (.istore_n 3, 1) := by decide +kernel
theorem dX3_faultAt_21 : decode cX3_faultAt 21 = .ok (.iload_n 3, 1) := by decide +kernel
theorem dX3_faultAt_22 : decode cX3_faultAt 22 = .ok (.iload_n 1, 1) := by decide +kernel
theorem dX3_faultAt_23 : decode cX3_faultAt 23 = .ok (.aload_n 0, 1) := by decide +kernel
theorem dX3_faultAt_24 : decode cX3_faultAt 24 = .ok (.getfield 9, 3) := by decide +kernel
theorem dX3_faultAt_27 : decode cX3_faultAt 27 = .ok (.iload_n 2, 1) := by decide +kernel
theorem dX3_faultAt_28 : decode cX3_faultAt 28 = .ok (.iconst 1, 1) := by decide +kernel
theorem dX3_faultAt_29 : decode cX3_faultAt 29 = .ok (.isub, 1) := by decide +kernel
theorem dX3_faultAt_30 : decode cX3_faultAt 30 = .ok (.invokestatic 23, 3) := by decide +kernel
theorem dX3_faultAt_33 : decode cX3_faultAt 33 = .ok (.invokestatic 27, 3) := by decide +kernel
theorem dX3_faultAt_36 : decode cX3_faultAt 36 = .ok (.ifCond .ne 5, 3) := by decide +kernel
theorem dX3_faultAt_39 : decode cX3_faultAt 39 = .ok (.iload_n 2, 1) := by decide +kernel
theorem dX3_faultAt_40 : decode cX3_faultAt 40 = .ok (.ireturn, 1) := by decide +kernel
theorem dX3_faultAt_41 : decode cX3_faultAt 41 = .ok (.iload_n 3, 1) := by decide +kernel
theorem dX3_faultAt_42 : decode cX3_faultAt 42 = .ok (.bipush 46, 2) := by decide +kernel
theorem dX3_faultAt_44 : decode cX3_faultAt 44 = .ok (.if_icmp .eq 8, 3) := by decide +kernel
theorem dX3_faultAt_47 : decode cX3_faultAt 47 = .ok (.iload_n 1, 1) := by decide +kernel
theorem dX3_faultAt_48 : decode cX3_faultAt 48 = .ok (.iconst 4, 1) := by decide +kernel
theorem dX3_faultAt_49 : decode cX3_faultAt 49 = .ok (.if_icmp .ne 7, 3) := by decide +kernel
theorem dX3_faultAt_52 : decode cX3_faultAt 52 = .ok (.iconst 0, 1) := by decide +kernel
theorem dX3_faultAt_53 : decode cX3_faultAt 53 = .ok (.goto 6, 3) := by decide +kernel
theorem dX3_faultAt_56 : decode cX3_faultAt 56 = .ok (.iload_n 1, 1) := by decide +kernel
theorem dX3_faultAt_57 : decode cX3_faultAt 57 = .ok (.iconst 1, 1) := by decide +kernel
theorem dX3_faultAt_58 : decode cX3_faultAt 58 = .ok (.iadd, 1) := by decide +kernel
theorem dX3_faultAt_59 : decode cX3_faultAt 59 = .ok (.istore_n 1, 1) := by decide +kernel
theorem dX3_faultAt_60 : decode cX3_faultAt 60 = .ok (.iinc 2 1, 3) := by decide +kernel
theorem dX3_faultAt_63 : decode cX3_faultAt 63 = .ok (.goto (-59), 3) := by decide +kernel
theorem dX3_faultAt_66 : decode cX3_faultAt 66 = .ok (.iload_n 1, 1) := by decide +kernel
theorem dX3_faultAt_67 : decode cX3_faultAt 67 = .ok (.ifCond .ne 8, 3) := by decide +kernel
theorem dX3_faultAt_70 : decode cX3_faultAt 70 = .ok (.bipush (-6), 2) := by decide +kernel
theorem dX3_faultAt_72 : decode cX3_faultAt 72 = .ok (.goto 7, 3) := by decide +kernel
theorem dX3_faultAt_75 : decode cX3_faultAt 75 = .ok (.aload_n 0, 1) := by decide +kernel
theorem dX3_faultAt_76 : decode cX3_faultAt 76 = .ok (.getfield 15, 3) := by decide +kernel
theorem dX3_faultAt_79 : decode cX3_faultAt 79 = .ok (.ireturn, 1) := by decide +kernel
set_option maxRecDepth 20000 in
theorem ggX3_canStand_X3_isLetter : GoodIn wsX3_canStand wsX3_isLetter := goodIn_r _ [4, 5, 6, 7] (by decide +kernel) (by decide +kernel)
set_option maxRecDepth 20000 in
theorem gX3_canStand_X3_isLetter : GoodIn wsX3_canStand (va_wsS RX3 31 yX3_isLetter wsX3_isLetter) := goodIn_app (goodIn_of _ (by decide +kernel)) ggX3_canStand_X3_isLetter
set_option maxRecDepth 20000 in
theorem ggX3_canStand_X7_within : GoodIn wsX3_canStand wsX7_within := goodIn_r _ [7] (by decide +kernel) (by decide +kernel)
set_option maxRecDepth 20000 in
theorem gX3_canStand_X7_within_n35 : GoodIn wsX3_canStand (wsX7_within) := ggX3_canStand_X7_within
theorem dX3_canStand_0 : decode cX3_canStand 0 = .ok (.iload_n 1, 1) := by decide +kernel
theorem dX3_canStand_1 : decode cX3_canStand 1 = .ok (.tableswitch 99 0 3 #[31, 50, 55, 73], 31) := by decide +kernel
theorem dX3_canStand_32 : decode cX3_canStand 32 = .ok (.iload_n 0, 1) := by decide +kernel
theorem dX3_canStand_33 : decode cX3_canStand 33 = .ok (.bipush 46, 2) := by decide +kernel
theorem dX3_canStand_35 : decode cX3_canStand 35 = .ok (.if_icmp .eq 10, 3) := by decide +kernel
theorem dX3_canStand_38 : decode cX3_canStand 38 = .ok (.iload_n 0, 1) := by decide +kernel
theorem dX3_canStand_39 : decode cX3_canStand 39 = .ok (.invokestatic 31, 3) := by decide +kernel
theorem dX3_canStand_42 : decode cX3_canStand 42 = .ok (.ifCond .eq 7, 3) := by decide +kernel
theorem dX3_canStand_45 : decode cX3_canStand 45 = .ok (.iconst 1, 1) := by decide +kernel
theorem dX3_canStand_46 : decode cX3_canStand 46 = .ok (.goto 4, 3) := by decide +kernel
theorem dX3_canStand_49 : decode cX3_canStand 49 = .ok (.iconst 0, 1) := by decide +kernel
theorem dX3_canStand_50 : decode cX3_canStand 50 = .ok (.ireturn, 1) := by decide +kernel
theorem dX3_canStand_51 : decode cX3_canStand 51 = .ok (.iload_n 0, 1) := by decide +kernel
theorem dX3_canStand_52 : decode cX3_canStand 52 = .ok (.invokestatic 31, 3) := by decide +kernel
theorem dX3_canStand_55 : decode cX3_canStand 55 = .ok (.ireturn, 1) := by decide +kernel
theorem dX3_canStand_56 : decode cX3_canStand 56 = .ok (.iload_n 0, 1) := by decide +kernel
theorem dX3_canStand_57 : decode cX3_canStand 57 = .ok (.bipush 48, 2) := by decide +kernel
theorem dX3_canStand_59 : decode cX3_canStand 59 = .ok (.if_icmp .eq 9, 3) := by decide +kernel
theorem dX3_canStand_62 : decode cX3_canStand 62 = .ok (.iload_n 0, 1) := by decide +kernel
theorem dX3_canStand_63 : decode cX3_canStand 63 = .ok (.bipush 49, 2) := by decide +kernel
theorem dX3_canStand_65 : decode cX3_canStand 65 = .ok (.if_icmp .ne 7, 3) := by decide +kernel
theorem dX3_canStand_68 : decode cX3_canStand 68 = .ok (.iconst 1, 1) := by decide +kernel
theorem dX3_canStand_69 : decode cX3_canStand 69 = .ok (.goto 4, 3) := by decide +kernel
theorem dX3_canStand_72 : decode cX3_canStand 72 = .ok (.iconst 0, 1) := by decide +kernel
theorem dX3_canStand_73 : decode cX3_canStand 73 = .ok (.ireturn, 1) := by decide +kernel
theorem dX3_canStand_74 : decode cX3_canStand 74 = .ok (.iload_n 2, 1) := by decide +kernel
theorem dX3_canStand_75 : decode cX3_canStand 75 = .ok (.bipush 48, 2) := by decide +kernel
theorem dX3_canStand_77 : decode cX3_canStand 77 = .ok (.if_icmp .ne 14, 3) := by decide +kernel
theorem dX3_canStand_80 : decode cX3_canStand 80 = .ok (.iload_n 0, 1) := by decide +kernel
theorem dX3_canStand_81 : decode cX3_canStand 81 = .ok (.bipush 49, 2) := by decide +kernel
theorem dX3_canStand_83 : decode cX3_canStand 83 = .ok (.bipush 57, 2) := by decide +kernel
theorem dX3_canStand_85 : decode cX3_canStand 85 = .ok (.invokestatic 35, 3) := by decide +kernel
theorem dX3_canStand_88 : decode cX3_canStand 88 = .ok (.goto 11, 3) := by decide +kernel
theorem dX3_canStand_91 : decode cX3_canStand 91 = .ok (.iload_n 0, 1) := by decide +kernel
theorem dX3_canStand_92 : decode cX3_canStand 92 = .ok (.bipush 48, 2) := by decide +kernel
theorem dX3_canStand_94 : decode cX3_canStand 94 = .ok (.bipush 53, 2) := by decide +kernel
theorem dX3_canStand_96 : decode cX3_canStand 96 = .ok (.invokestatic 35, 3) := by decide +kernel
theorem dX3_canStand_99 : decode cX3_canStand 99 = .ok (.ireturn, 1) := by decide +kernel
theorem dX3_canStand_100 : decode cX3_canStand 100 = .ok (.iload_n 0, 1) := by decide +kernel
theorem dX3_canStand_101 : decode cX3_canStand 101 = .ok (.bipush 43, 2) := by decide +kernel
theorem dX3_canStand_103 : decode cX3_canStand 103 = .ok (.if_icmp .eq 15, 3) := by decide +kernel
theorem dX3_canStand_106 : decode cX3_canStand 106 = .ok (.iload_n 0, 1) := by decide +kernel
theorem dX3_canStand_107 : decode cX3_canStand 107 = .ok (.bipush 45, 2) := by decide +kernel
theorem dX3_canStand_109 : decode cX3_canStand 109 = .ok (.if_icmp .eq 9, 3) := by decide +kernel
theorem dX3_canStand_112 : decode cX3_canStand 112 = .ok (.iload_n 0, 1) := by decide +kernel
theorem dX3_canStand_113 : decode cX3_canStand 113 = .ok (.bipush 42, 2) := by decide +kernel
theorem dX3_canStand_115 : decode cX3_canStand 115 = .ok (.if_icmp .ne 7, 3) := by decide +kernel
theorem dX3_canStand_118 : decode cX3_canStand 118 = .ok (.iconst 1, 1) := by decide +kernel
theorem dX3_canStand_119 : decode cX3_canStand 119 = .ok (.goto 4, 3) := by decide +kernel
theorem dX3_canStand_122 : decode cX3_canStand 122 = .ok (.iconst 0, 1) := by decide +kernel
theorem dX3_canStand_123 : decode cX3_canStand 123 = .ok (.ireturn, 1) := by decide +kernel
set_option maxRecDepth 20000 in
theorem ggX3_isLetter_X7_within : GoodIn wsX3_isLetter wsX7_within := goodIn_r _ [3] (by decide +kernel) (by decide +kernel)
set_option maxRecDepth 20000 in
theorem gX3_isLetter_X7_within_n35 : GoodIn wsX3_isLetter (wsX7_within) := ggX3_isLetter_X7_within
theorem dX3_isLetter_0 : decode cX3_isLetter 0 = .ok (.iload_n 0, 1) := by decide +kernel
theorem dX3_isLetter_1 : decode cX3_isLetter 1 = .ok (.bipush 65, 2) := by decide +kernel
theorem dX3_isLetter_3 : decode cX3_isLetter 3 = .ok (.bipush 70, 2) := by decide +kernel
theorem dX3_isLetter_5 : decode cX3_isLetter 5 = .ok (.invokestatic 35, 3) := by decide +kernel
theorem dX3_isLetter_8 : decode cX3_isLetter 8 = .ok (.ireturn, 1) := by decide +kernel
set_option maxRecDepth 20000 in
theorem ggX4_init_X5_init : GoodIn wsX4_init wsX5_init := goodIn_r _ [16, 17, 2, 3, 8, 18, 19, 20, 21, 22, 23, 24, 25, 26, 27, 28, 29, 30, 31, 32, 33, 34, 35, 36, 37, 38, 39, 45, 46, 47, 48, 49, 50, 51, 52, 53, 54, 55, 56, 57] (by decide +kernel) (by decide +kernel)
set_option maxRecDepth 20000 in
theorem gX4_init_X5_init : GoodIn wsX4_init (wsX5_init) := ggX4_init_X5_init
set_option maxRecDepth 20000 in
theorem ggX4_init_X0_init : GoodIn wsX4_init wsX0_init := goodIn_r _ [41, 42, 2, 3, 43, 44, 67, 68] (by decide +kernel) (by decide +kernel)
set_option maxRecDepth 20000 in
theorem gX4_init_X0_init_n24 : GoodIn wsX4_init (wsX0_init) := ggX4_init_X0_init
theorem dX4_init_0 : decode cX4_init 0 = .ok (.aload_n 0, 1) := by decide +kernel
theorem dX4_init_1 : decode cX4_init 1 = .ok (.invokespecial 3, 3) := by decide +kernel
theorem dX4_init_4 : decode cX4_init 4 = .ok (.aload_n 0, 1) := by decide +kernel
theorem dX4_init_5 : decode cX4_init 5 = .ok (.new 9, 3) := by decide +kernel
theorem dX4_init_8 : decode cX4_init 8 = .ok (.dup, 1) := by decide +kernel
theorem dX4_init_9 : decode cX4_init 9 = .ok (.invokespecial 11, 3) := by decide +kernel
theorem dX4_init_12 : decode cX4_init 12 = .ok (.putfield 12, 3) := by decide +kernel
theorem dX4_init_15 : decode cX4_init 15 = .ok (.aload_n 0, 1) := by decide +kernel
theorem dX4_init_16 : decode cX4_init 16 = .ok (.bipush 36, 2) := by decide +kernel
theorem dX4_init_18 : decode cX4_init 18 = .ok (.newarray .int, 2) := by decide +kernel
theorem dX4_init_20 : decode cX4_init 20 = .ok (.putfield 18, 3) := by decide +kernel
theorem dX4_init_23 : decode cX4_init 23 = .ok (.aload_n 0, 1) := by decide +kernel
theorem dX4_init_24 : decode cX4_init 24 = .ok (.new 22, 3) := by decide +kernel
theorem dX4_init_27 : decode cX4_init 27 = .ok (.dup, 1) := by decide +kernel
theorem dX4_init_28 : decode cX4_init 28 = .ok (.invokespecial 24, 3) := by decide +kernel
theorem dX4_init_31 : decode cX4_init 31 = .ok (.putfield 25, 3) := by decide +kernel
theorem dX4_init_34 : decode cX4_init 34 = .ok (.return_, 1) := by decide +kernel
set_option maxRecDepth 20000 in
theorem ggX4_play_X4_begin : GoodIn wsX4_play wsX4_begin := goodIn_r _ [10, 3, 11, 12, 5, 4, 13, 14, 15, 16, 17, 18, 19, 20, 21, 22, 23, 24, 25, 26, 27, 28, 29, 30, 31, 32, 33, 34, 35, 36, 37, 38, 39, 40, 41, 42, 43, 44, 45, 46, 47, 48, 49, 50, 101, 102, 103, 104, 105, 106, 107, 108, 109, 110, 111, 112, 113, 114, 115, 116, 117, 118, 119, 120, 121, 122, 123, 124] (by decide +kernel) (by decide +kernel)
set_option maxRecDepth 20000 in
theorem gX4_play_X4_begin : GoodIn wsX4_play (wsV RX4 29 RX4 yX4_begin wsX4_begin) := goodIn_app (goodIn_of _ (by decide +kernel)) ggX4_play_X4_begin
set_option maxRecDepth 20000 in
theorem ggX4_play_X7_at : GoodIn wsX4_play wsX7_at := goodIn_r _ [40] (by decide +kernel) (by decide +kernel)
set_option maxRecDepth 20000 in
theorem gX4_play_X7_at_n42 : GoodIn wsX4_play (wsX7_at) := ggX4_play_X7_at
set_option maxRecDepth 20000 in
theorem ggX4_play_X5_night : GoodIn wsX4_play wsX5_night := goodIn_r _ [54, 22, 29, 55, 56, 57, 58, 59, 60, 61, 30, 39, 36, 40, 42, 43, 110, 111, 112, 113, 114, 115, 116, 117, 118, 119, 120, 121, 122] (by decide +kernel) (by decide +kernel)
set_option maxRecDepth 20000 in
theorem gX4_play_X5_night : GoodIn wsX4_play (wsV RX4 46 RX5 yX5_night wsX5_night) := goodIn_app (goodIn_of _ (by decide +kernel)) ggX4_play_X5_night
set_option maxRecDepth 20000 in
theorem ggX4_play_X4_playDare : GoodIn wsX4_play wsX4_playDare := goodIn_r _ [65, 3, 4, 11, 13, 14, 15, 39, 36, 40, 66, 67, 68, 20, 69, 30, 28, 22, 70, 71, 72, 73, 23, 42, 43, 74, 75, 76, 9, 77, 16, 12, 78, 79, 80, 81, 24, 59, 60, 57, 61, 55, 56, 58, 82, 83, 84, 47, 85, 49, 50, 86, 87, 88, 89, 90, 29, 91, 92, 93, 94, 95, 96, 97, 98, 101, 102, 103, 104, 105, 106, 107, 108, 109, 110, 111, 112, 113, 114, 115, 116, 117, 118, 119, 120, 121, 122, 123, 124] (by decide +kernel) (by decide +kernel)
set_option maxRecDepth 20000 in
theorem gX4_play_X4_playDare : GoodIn wsX4_play (wsV RX4 49 RX4 yX4_playDare wsX4_playDare) := goodIn_app (goodIn_of _ (by decide +kernel)) ggX4_play_X4_playDare
theorem dX4_play_0 : decode cX4_play 0 = .ok (.aload_n 1, 1) := by decide +kernel
theorem dX4_play_1 : decode cX4_play 1 = .ok (.ifnonnull 4, 3) := by decide +kernel
theorem dX4_play_4 : decode cX4_play 4 = .ok (.return_, 1) := by decide +kernel
theorem dX4_play_5 : decode cX4_play 5 = .ok (.aload_n 0, 1) := by decide +kernel
theorem dX4_play_6 : decode cX4_play 6 = .ok (.aload_n 2, 1) := by decide +kernel
theorem dX4_play_7 : decode cX4_play 7 = .ok (.invokevirtual 29, 3) := by decide +kernel
theorem dX4_play_10 : decode cX4_play 10 = .ok (.iconst 0, 1) := by decide +kernel
theorem dX4_play_11 : decode cX4_play 11 = .ok (.istore_n 3, 1) := by decide +kernel
theorem dX4_play_12 : decode cX4_play 12 = .ok (.iload_n 3, 1) := by decide +kernel
theorem dX4_play_13 : decode cX4_play 13 = .ok (.aload_n 1, 1) := by decide +kernel
theorem dX4_play_14 : decode cX4_play 14 = .ok (.getfield 33, 3) := by decide +kernel
theorem dX4_play_17 : decode cX4_play 17 = .ok (.if_icmp .ge 62, 3) := by decide +kernel
theorem dX4_play_20 : decode cX4_play 20 = .ok (.aload_n 1, 1) := by decide +kernel
theorem dX4_play_21 : decode cX4_play 21 = .ok (.getfield 39, 3) := by decide +kernel
theorem dX4_play_24 : decode cX4_play 24 = .ok (.iload_n 3, 1) := by decide +kernel
theorem dX4_play_25 : decode cX4_play 25 = .ok (.invokestatic 42, 3) := by decide +kernel
theorem dX4_play_28 : decode cX4_play 28 = .ok (.bipush 46, 2) := by decide +kernel
theorem dX4_play_30 : decode cX4_play 30 = .ok (.if_icmp .ne 16, 3) := by decide +kernel
theorem dX4_play_33 : decode cX4_play 33 = .ok (.aload_n 0, 1) := by decide +kernel
theorem dX4_play_34 : decode cX4_play 34 = .ok (.getfield 12, 3) := by decide +kernel
theorem dX4_play_37 : decode cX4_play 37 = .ok (.invokevirtual 46, 3) := by decide +kernel
theorem dX4_play_40 : decode cX4_play 40 = .ok (.iinc 3 1, 3) := by decide +kernel
theorem dX4_play_43 : decode cX4_play 43 = .ok (.goto 15, 3) := by decide +kernel
theorem dX4_play_46 : decode cX4_play 46 = .ok (.aload_n 0, 1) := by decide +kernel
theorem dX4_play_47 : decode cX4_play 47 = .ok (.aload_n 1, 1) := by decide +kernel
theorem dX4_play_48 : decode cX4_play 48 = .ok (.getfield 39, 3) := by decide +kernel
theorem dX4_play_51 : decode cX4_play 51 = .ok (.iload_n 3, 1) := by decide +kernel
theorem dX4_play_52 : decode cX4_play 52 = .ok (.invokevirtual 49, 3) := by decide +kernel
theorem dX4_play_55 : decode cX4_play 55 = .ok (.iinc 3 5, 3) := by decide +kernel
theorem dX4_play_58 : decode cX4_play 58 = .ok (.aload_n 0, 1) := by decide +kernel
theorem dX4_play_59 : decode cX4_play 59 = .ok (.getfield 53, 3) := by decide +kernel
theorem dX4_play_62 : decode cX4_play 62 = .ok (.ifCond .eq 4, 3) := by decide +kernel
theorem dX4_play_65 : decode cX4_play 65 = .ok (.return_, 1) := by decide +kernel
theorem dX4_play_66 : decode cX4_play 66 = .ok (.aload_n 0, 1) := by decide +kernel
theorem dX4_play_67 : decode cX4_play 67 = .ok (.dup, 1) := by decide +kernel
theorem dX4_play_68 : decode cX4_play 68 = .ok (.getfield 56, 3) := by decide +kernel
theorem dX4_play_71 : decode cX4_play 71 = .ok (.iconst 1, 1) := by decide +kernel
theorem dX4_play_72 : decode cX4_play 72 = .ok (.iadd, 1) := by decide +kernel
theorem dX4_play_73 : decode cX4_play 73 = .ok (.putfield 56, 3) := by decide +kernel
theorem dX4_play_76 : decode cX4_play 76 = .ok (.goto (-64), 3) := by decide +kernel
theorem dX4_play_79 : decode cX4_play 79 = .ok (.return_, 1) := by decide +kernel
set_option maxRecDepth 20000 in
theorem ggX4_begin_X5_copyFrom : GoodIn wsX4_begin wsX5_copyFrom := goodIn_r _ [14, 15, 16, 17, 18, 19, 20, 21, 22, 23, 24, 25, 26, 27, 28, 29, 30, 31, 32, 33, 34, 35, 36, 53, 54, 55, 56, 57, 58, 59, 60, 61, 62, 63, 64, 65] (by decide +kernel) (by decide +kernel)
set_option maxRecDepth 20000 in
theorem gX4_begin_X5_copyFrom : GoodIn wsX4_begin (wsV RX4 59 RX5 yX5_copyFrom wsX5_copyFrom) := goodIn_app (goodIn_of _ (by decide +kernel)) ggX4_begin_X5_copyFrom
set_option maxRecDepth 20000 in
theorem ggX4_begin_X7_put : GoodIn wsX4_begin wsX7_put := goodIn_r _ [36] (by decide +kernel) (by decide +kernel)
set_option maxRecDepth 20000 in
theorem gX4_begin_X7_put_n62 : GoodIn wsX4_begin (wsX7_put) := ggX4_begin_X7_put
set_option maxRecDepth 20000 in
theorem ggX4_begin_X0_begin : GoodIn wsX4_begin wsX0_begin := goodIn_r _ [41, 42, 43, 66, 67] (by decide +kernel) (by decide +kernel)
set_option maxRecDepth 20000 in
theorem gX4_begin_X0_begin : GoodIn wsX4_begin (wsV RX4 66 RX0 yX0_begin wsX0_begin) := goodIn_app (goodIn_of _ (by decide +kernel)) ggX4_begin_X0_begin
theorem dX4_begin_0 : decode cX4_begin 0 = .ok (.aload_n 0, 1) := by decide +kernel
theorem dX4_begin_1 : decode cX4_begin 1 = .ok (.getfield 12, 3) := by decide +kernel
theorem dX4_begin_4 : decode cX4_begin 4 = .ok (.aload_n 1, 1) := by decide +kernel
theorem dX4_begin_5 : decode cX4_begin 5 = .ok (.invokevirtual 59, 3) := by decide +kernel
theorem dX4_begin_8 : decode cX4_begin 8 = .ok (.iconst 0, 1) := by decide +kernel
theorem dX4_begin_9 : decode cX4_begin 9 = .ok (.istore_n 2, 1) := by decide +kernel
theorem dX4_begin_10 : decode cX4_begin 10 = .ok (.iload_n 2, 1) := by decide +kernel
theorem dX4_begin_11 : decode cX4_begin 11 = .ok (.aload_n 0, 1) := by decide +kernel
theorem dX4_begin_12 : decode cX4_begin 12 = .ok (.getfield 18, 3) := by decide +kernel
theorem dX4_begin_15 : decode cX4_begin 15 = .ok (.arraylength, 1) := by decide +kernel
theorem dX4_begin_16 : decode cX4_begin 16 = .ok (.if_icmp .ge 18, 3) := by decide +kernel
theorem dX4_begin_19 : decode cX4_begin 19 = .ok (.aload_n 0, 1) := by decide +kernel
theorem dX4_begin_20 : decode cX4_begin 20 = .ok (.getfield 18, 3) := by decide +kernel
theorem dX4_begin_23 : decode cX4_begin 23 = .ok (.iload_n 2, 1) := by decide +kernel
theorem dX4_begin_24 : decode cX4_begin 24 = .ok (.iconst 0, 1) := by decide +kernel
theorem dX4_begin_25 : decode cX4_begin 25 = .ok (.invokestatic 62, 3) := by decide +kernel
theorem dX4_begin_28 : decode cX4_begin 28 = .ok (.iinc 2 1, 3) := by decide +kernel
theorem dX4_begin_31 : decode cX4_begin 31 = .ok (.goto (-21), 3) := by decide +kernel
theorem dX4_begin_34 : decode cX4_begin 34 = .ok (.aload_n 0, 1) := by decide +kernel
theorem dX4_begin_35 : decode cX4_begin 35 = .ok (.getfield 25, 3) := by decide +kernel
theorem dX4_begin_38 : decode cX4_begin 38 = .ok (.invokevirtual 66, 3) := by decide +kernel
theorem dX4_begin_41 : decode cX4_begin 41 = .ok (.aload_n 0, 1) := by decide +kernel
theorem dX4_begin_42 : decode cX4_begin 42 = .ok (.iconst 0, 1) := by decide +kernel
theorem dX4_begin_43 : decode cX4_begin 43 = .ok (.putfield 56, 3) := by decide +kernel
theorem dX4_begin_46 : decode cX4_begin 46 = .ok (.aload_n 0, 1) := by decide +kernel
theorem dX4_begin_47 : decode cX4_begin 47 = .ok (.iconst 0, 1) := by decide +kernel
theorem dX4_begin_48 : decode cX4_begin 48 = .ok (.putfield 53, 3) := by decide +kernel
theorem dX4_begin_51 : decode cX4_begin 51 = .ok (.aload_n 0, 1) := by decide +kernel
theorem dX4_begin_52 : decode cX4_begin 52 = .ok (.iconst 0, 1) := by decide +kernel
theorem dX4_begin_53 : decode cX4_begin 53 = .ok (.putfield 68, 3) := by decide +kernel
theorem dX4_begin_56 : decode cX4_begin 56 = .ok (.aload_n 0, 1) := by decide +kernel
theorem dX4_begin_57 : decode cX4_begin 57 = .ok (.iconst 0, 1) := by decide +kernel
theorem dX4_begin_58 : decode cX4_begin 58 = .ok (.putfield 71, 3) := by decide +kernel
theorem dX4_begin_61 : decode cX4_begin 61 = .ok (.aload_n 0, 1) := by decide +kernel
theorem dX4_begin_62 : decode cX4_begin 62 = .ok (.iconst 0, 1) := by decide +kernel
theorem dX4_begin_63 : decode cX4_begin 63 = .ok (.putfield 74, 3) := by decide +kernel
theorem dX4_begin_66 : decode cX4_begin 66 = .ok (.aload_n 0, 1) := by decide +kernel
theorem dX4_begin_67 : decode cX4_begin 67 = .ok (.iconst 0, 1) := by decide +kernel
theorem dX4_begin_68 : decode cX4_begin 68 = .ok (.putfield 77, 3) := by decide +kernel
theorem dX4_begin_71 : decode cX4_begin 71 = .ok (.return_, 1) := by decide +kernel
set_option maxRecDepth 20000 in
theorem ggX4_playDare_X7_at : GoodIn wsX4_playDare wsX7_at := goodIn_r _ [9] (by decide +kernel) (by decide +kernel)
set_option maxRecDepth 20000 in
theorem gX4_playDare_X7_at_n42 : GoodIn wsX4_playDare (wsX7_at) := ggX4_playDare_X7_at
set_option maxRecDepth 20000 in
theorem ggX4_playDare_X5_whyNot : GoodIn wsX4_playDare wsX5_whyNot := goodIn_r _ [14, 15, 16, 17, 18, 19, 20, 13, 21, 22, 7, 8, 9, 74, 75, 76, 77, 78, 79, 80, 81, 82, 83, 84, 85, 86] (by decide +kernel) (by decide +kernel)
set_option maxRecDepth 20000 in
theorem gX4_playDare_X5_whyNot : GoodIn wsX4_playDare (wsV RX4 80 RX5 yX5_whyNot wsX5_whyNot) := goodIn_app (goodIn_of _ (by decide +kernel)) ggX4_playDare_X5_whyNot
set_option maxRecDepth 20000 in
theorem ggX4_playDare_X7_put : GoodIn wsX4_playDare wsX7_put := goodIn_r _ [24] (by decide +kernel) (by decide +kernel)
set_option maxRecDepth 20000 in
theorem gX4_playDare_X7_put_n62 : GoodIn wsX4_playDare (wsX7_put) := ggX4_playDare_X7_put
set_option maxRecDepth 20000 in
theorem ggX4_playDare_X4_reckon : GoodIn wsX4_playDare wsX4_reckon := goodIn_r _ [29, 30, 31, 1, 32, 33, 34, 13, 35, 17, 36, 37, 38, 39, 40, 41, 42, 43, 7, 8, 9, 44, 45, 46, 47, 48, 49, 50, 51, 65, 66, 67, 68, 69, 70, 71, 72, 73, 74, 75, 76, 77, 78, 79, 80, 81, 82, 83, 84, 85, 86, 87, 88] (by decide +kernel) (by decide +kernel)
set_option maxRecDepth 20000 in
theorem gX4_playDare_X4_reckon : GoodIn wsX4_playDare (wsV RX4 84 RX4 yX4_reckon wsX4_reckon) := goodIn_app (goodIn_of _ (by decide +kernel)) ggX4_playDare_X4_reckon
set_option maxRecDepth 20000 in
theorem ggX4_playDare_X5_perform : GoodIn wsX4_playDare wsX5_perform := goodIn_r _ [55, 16, 41, 42, 39, 43, 56, 17, 15, 7, 8, 9, 23, 24, 57, 58, 59, 60, 33, 34, 13, 35, 36, 37, 38, 40, 74, 75, 76, 77, 78, 79, 80, 81, 82, 83, 84, 85, 86] (by decide +kernel) (by decide +kernel)
set_option maxRecDepth 20000 in
theorem gX4_playDare_X5_perform : GoodIn wsX4_playDare (wsV RX4 88 RX5 yX5_perform wsX5_perform) := goodIn_app (goodIn_of _ (by decide +kernel)) ggX4_playDare_X5_perform
set_option maxRecDepth 20000 in
theorem ggX4_playDare_X5_refuse : GoodIn wsX4_playDare wsX5_refuse := goodIn_r _ [64, 56, 7, 8, 9, 23, 24, 74, 75, 76, 77, 78, 79, 80, 81, 82, 83, 84, 85, 86] (by decide +kernel) (by decide +kernel)
set_option maxRecDepth 20000 in
theorem gX4_playDare_X5_refuse : GoodIn wsX4_playDare (wsV RX4 92 RX5 yX5_refuse wsX5_refuse) := goodIn_app (goodIn_of _ (by decide +kernel)) ggX4_playDare_X5_refuse
theorem dX4_playDare_0 : decode cX4_playDare 0 = .ok (.aload_n 1, 1) := by decide +kernel
theorem dX4_playDare_1 : decode cX4_playDare 1 = .ok (.iload_n 2, 1) := by decide +kernel
theorem dX4_playDare_2 : decode cX4_playDare 2 = .ok (.invokestatic 42, 3) := by decide +kernel
theorem dX4_playDare_5 : decode cX4_playDare 5 = .ok (.bipush 65, 2) := by decide +kernel
theorem dX4_playDare_7 : decode cX4_playDare 7 = .ok (.isub, 1) := by decide +kernel
theorem dX4_playDare_8 : decode cX4_playDare 8 = .ok (.istore_n 3, 1) := by decide +kernel
theorem dX4_playDare_9 : decode cX4_playDare 9 = .ok (.aload_n 1, 1) := by decide +kernel
theorem dX4_playDare_10 : decode cX4_playDare 10 = .ok (.iload_n 2, 1) := by decide +kernel
theorem dX4_playDare_11 : decode cX4_playDare 11 = .ok (.iconst 1, 1) := by decide +kernel
theorem dX4_playDare_12 : decode cX4_playDare 12 = .ok (.iadd, 1) := by decide +kernel
theorem dX4_playDare_13 : decode cX4_playDare 13 = .ok (.invokestatic 42, 3) := by decide +kernel
theorem dX4_playDare_16 : decode cX4_playDare 16 = .ok (.bipush 65, 2) := by decide +kernel
theorem dX4_playDare_18 : decode cX4_playDare 18 = .ok (.isub, 1) := by decide +kernel
theorem dX4_playDare_19 : decode cX4_playDare 19 = .ok (.istore 4, 2) := by decide +kernel
theorem dX4_playDare_21 : decode cX4_playDare 21 = .ok (.bipush 10, 2) := by decide +kernel
theorem dX4_playDare_23 : decode cX4_playDare 23 = .ok (.aload_n 1, 1) := by decide +kernel
theorem dX4_playDare_24 : decode cX4_playDare 24 = .ok (.iload_n 2, 1) := by decide +kernel
theorem dX4_playDare_25 : decode cX4_playDare 25 = .ok (.iconst 2, 1) := by decide +kernel
theorem dX4_playDare_26 : decode cX4_playDare 26 = .ok (.iadd, 1) := by decide +kernel
theorem dX4_playDare_27 : decode cX4_playDare 27 = .ok (.invokestatic 42, 3) := by decide +kernel
theorem dX4_playDare_30 : decode cX4_playDare 30 = .ok (.bipush 48, 2) := by decide +kernel
theorem dX4_playDare_32 : decode cX4_playDare 32 = .ok (.isub, 1) := by decide +kernel
theorem dX4_playDare_33 : decode cX4_playDare 33 = .ok (.imul, 1) := by decide +kernel
theorem dX4_playDare_34 : decode cX4_playDare 34 = .ok (.aload_n 1, 1) := by decide +kernel
theorem dX4_playDare_35 : decode cX4_playDare 35 = .ok (.iload_n 2, 1) := by decide +kernel
theorem dX4_playDare_36 : decode cX4_playDare 36 = .ok (.iconst 3, 1) := by decide +kernel
theorem dX4_playDare_37 : decode cX4_playDare 37 = .ok (.iadd, 1) := by decide +kernel
theorem dX4_playDare_38 : decode cX4_playDare 38 = .ok (.invokestatic 42, 3) := by decide +kernel
theorem dX4_playDare_41 : decode cX4_playDare 41 = .ok (.iadd, 1) := by decide +kernel
theorem dX4_playDare_42 : decode cX4_playDare 42 = .ok (.bipush 48, 2) := by decide +kernel
theorem dX4_playDare_44 : decode cX4_playDare 44 = .ok (.isub, 1) := by decide +kernel
theorem dX4_playDare_45 : decode cX4_playDare 45 = .ok (.istore 5, 2) := by decide +kernel
theorem dX4_playDare_47 : decode cX4_playDare 47 = .ok (.aload_n 0, 1) := by decide +kernel
theorem dX4_playDare_48 : decode cX4_playDare 48 = .ok (.aload_n 0, 1) := by decide +kernel
theorem dX4_playDare_49 : decode cX4_playDare 49 = .ok (.getfield 12, 3) := by decide +kernel
theorem dX4_playDare_52 : decode cX4_playDare 52 = .ok (.iload_n 3, 1) := by decide +kernel
theorem dX4_playDare_53 : decode cX4_playDare 53 = .ok (.iload 4, 2) := by decide +kernel
theorem dX4_playDare_55 : decode cX4_playDare 55 = .ok (.iload 5, 2) := by decide +kernel
theorem dX4_playDare_57 : decode cX4_playDare 57 = .ok (.invokevirtual 80, 3) := by decide +kernel
theorem dX4_playDare_60 : decode cX4_playDare 60 = .ok (.putfield 53, 3) := by decide +kernel
theorem dX4_playDare_63 : decode cX4_playDare 63 = .ok (.aload_n 0, 1) := by decide +kernel
theorem dX4_playDare_64 : decode cX4_playDare 64 = .ok (.getfield 53, 3) := by decide +kernel
theorem dX4_playDare_67 : decode cX4_playDare 67 = .ok (.ifCond .eq 4, 3) := by decide +kernel
theorem dX4_playDare_70 : decode cX4_playDare 70 = .ok (.return_, 1) := by decide +kernel
theorem dX4_playDare_71 : decode cX4_playDare 71 = .ok (.iload_n 3, 1) := by decide +kernel
theorem dX4_playDare_72 : decode cX4_playDare 72 = .ok (.bipush 6, 2) := by decide +kernel
theorem dX4_playDare_74 : decode cX4_playDare 74 = .ok (.imul, 1) := by decide +kernel
theorem dX4_playDare_75 : decode cX4_playDare 75 = .ok (.iload 4, 2) := by decide +kernel
theorem dX4_playDare_77 : decode cX4_playDare 77 = .ok (.iadd, 1) := by decide +kernel
theorem dX4_playDare_78 : decode cX4_playDare 78 = .ok (.istore 6, 2) := by decide +kernel
theorem dX4_playDare_80 : decode cX4_playDare 80 = .ok (.aload_n 0, 1) := by decide +kernel
theorem dX4_playDare_81 : decode cX4_playDare 81 = .ok (.getfield 18, 3) := by decide +kernel
theorem dX4_playDare_84 : decode cX4_playDare 84 = .ok (.iload 6, 2) := by decide +kernel
theorem dX4_playDare_86 : decode cX4_playDare 86 = .ok (.aload_n 0, 1) := by decide +kernel
theorem dX4_playDare_87 : decode cX4_playDare 87 = .ok (.getfield 18, 3) := by decide +kernel
theorem dX4_playDare_90 : decode cX4_playDare 90 = .ok (.iload 6, 2) := by decide +kernel
theorem dX4_playDare_92 : decode cX4_playDare 92 = .ok (.invokestatic 42, 3) := by decide +kernel
theorem dX4_playDare_95 : decode cX4_playDare 95 = .ok (.iconst 1, 1) := by decide +kernel
theorem dX4_playDare_96 : decode cX4_playDare 96 = .ok (.iadd, 1) := by decide +kernel
theorem dX4_playDare_97 : decode cX4_playDare 97 = .ok (.invokestatic 62, 3) := by decide +kernel
theorem dX4_playDare_100 : decode cX4_playDare 100 = .ok (.aload_n 1, 1) := by decide +kernel
theorem dX4_playDare_101 : decode cX4_playDare 101 = .ok (.iload_n 2, 1) := by decide +kernel
theorem dX4_playDare_102 : decode cX4_playDare 102 = .ok (.iconst 4, 1) := by decide +kernel
theorem dX4_playDare_103 : decode cX4_playDare 103 = .ok (.iadd, 1) := by decide +kernel
theorem dX4_playDare_104 : decode cX4_playDare 104 = .ok (.invokestatic 42, 3) := by decide +kernel
theorem dX4_playDare_107 : decode cX4_playDare 107 = .ok (.lookupswitch 82 #[(43, 25), (45, 58)], 25) := by decide +kernel
theorem dX4_playDare_132 : decode cX4_playDare 132 = .ok (.aload_n 0, 1) := by decide +kernel
theorem dX4_playDare_133 : decode cX4_playDare 133 = .ok (.dup, 1) := by decide +kernel
theorem dX4_playDare_134 : decode cX4_playDare 134 = .ok (.getfield 68, 3) := by decide +kernel
theorem dX4_playDare_137 : decode cX4_playDare 137 = .ok (.iconst 1, 1) := by decide +kernel
theorem dX4_playDare_138 : decode cX4_playDare 138 = .ok (.iadd, 1) := by decide +kernel
theorem dX4_playDare_139 : decode cX4_playDare 139 = .ok (.putfield 68, 3) := by decide +kernel
theorem dX4_playDare_142 : decode cX4_playDare 142 = .ok (.aload_n 0, 1) := by decide +kernel
theorem dX4_playDare_143 : decode cX4_playDare 143 = .ok (.iload 4, 2) := by decide +kernel
theorem dX4_playDare_145 : decode cX4_playDare 145 = .ok (.iload 5, 2) := by decide +kernel
theorem dX4_playDare_147 : decode cX4_playDare 147 = .ok (.invokevirtual 84, 3) := by decide +kernel
theorem dX4_playDare_150 : decode cX4_playDare 150 = .ok (.aload_n 0, 1) := by decide +kernel
theorem dX4_playDare_151 : decode cX4_playDare 151 = .ok (.getfield 12, 3) := by decide +kernel
theorem dX4_playDare_154 : decode cX4_playDare 154 = .ok (.iload 4, 2) := by decide +kernel
theorem dX4_playDare_156 : decode cX4_playDare 156 = .ok (.iload 5, 2) := by decide +kernel
theorem dX4_playDare_158 : decode cX4_playDare 158 = .ok (.invokevirtual 88, 3) := by decide +kernel
theorem dX4_playDare_161 : decode cX4_playDare 161 = .ok (.pop, 1) := by decide +kernel
theorem dX4_playDare_162 : decode cX4_playDare 162 = .ok (.goto 77, 3) := by decide +kernel
theorem dX4_playDare_165 : decode cX4_playDare 165 = .ok (.aload_n 0, 1) := by decide +kernel
theorem dX4_playDare_166 : decode cX4_playDare 166 = .ok (.dup, 1) := by decide +kernel
theorem dX4_playDare_167 : decode cX4_playDare 167 = .ok (.getfield 71, 3) := by decide +kernel
theorem dX4_playDare_170 : decode cX4_playDare 170 = .ok (.iconst 1, 1) := by decide +kernel
theorem dX4_playDare_171 : decode cX4_playDare 171 = .ok (.iadd, 1) := by decide +kernel
theorem dX4_playDare_172 : decode cX4_playDare 172 = .ok (.putfield 71, 3) := by decide +kernel
theorem dX4_playDare_175 : decode cX4_playDare 175 = .ok (.aload_n 0, 1) := by decide +kernel
theorem dX4_playDare_176 : decode cX4_playDare 176 = .ok (.getfield 12, 3) := by decide +kernel
theorem dX4_playDare_179 : decode cX4_playDare 179 = .ok (.iload 4, 2) := by decide +kernel
theorem dX4_playDare_181 : decode cX4_playDare 181 = .ok (.iload 5, 2) := by decide +kernel
theorem dX4_playDare_183 : decode cX4_playDare 183 = .ok (.invokevirtual 92, 3) := by decide +kernel
theorem dX4_playDare_186 : decode cX4_playDare 186 = .ok (.goto 53, 3) := by decide +kernel
theorem dX4_playDare_189 : decode cX4_playDare 189 = .ok (.aload_n 0, 1) := by decide +kernel
theorem dX4_playDare_190 : decode cX4_playDare 190 = .ok (.dup, 1) := by decide +kernel
theorem dX4_playDare_191 : decode cX4_playDare 191 = .ok (.getfield 74, 3) := by decide +kernel
theorem dX4_playDare_194 : decode cX4_playDare 194 = .ok (.iconst 1, 1) := by decide +kernel
theorem dX4_playDare_195 : decode cX4_playDare 195 = .ok (.iadd, 1) := by decide +kernel
theorem dX4_playDare_196 : decode cX4_playDare 196 = .ok (.putfield 74, 3) := by decide +kernel
theorem dX4_playDare_199 : decode cX4_playDare 199 = .ok (.aload_n 0, 1) := by decide +kernel
theorem dX4_playDare_200 : decode cX4_playDare 200 = .ok (.iload_n 3, 1) := by decide +kernel
theorem dX4_playDare_201 : decode cX4_playDare 201 = .ok (.iload 5, 2) := by decide +kernel
theorem dX4_playDare_203 : decode cX4_playDare 203 = .ok (.invokevirtual 84, 3) := by decide +kernel
theorem dX4_playDare_206 : decode cX4_playDare 206 = .ok (.aload_n 0, 1) := by decide +kernel
theorem dX4_playDare_207 : decode cX4_playDare 207 = .ok (.iload 4, 2) := by decide +kernel
theorem dX4_playDare_209 : decode cX4_playDare 209 = .ok (.iload 5, 2) := by decide +kernel
theorem dX4_playDare_211 : decode cX4_playDare 211 = .ok (.invokevirtual 84, 3) := by decide +kernel
theorem dX4_playDare_214 : decode cX4_playDare 214 = .ok (.aload_n 0, 1) := by decide +kernel
theorem dX4_playDare_215 : decode cX4_playDare 215 = .ok (.getfield 12, 3) := by decide +kernel
theorem dX4_playDare_218 : decode cX4_playDare 218 = .ok (.iload_n 3, 1) := by decide +kernel
theorem dX4_playDare_219 : decode cX4_playDare 219 = .ok (.iload 5, 2) := by decide +kernel
theorem dX4_playDare_221 : decode cX4_playDare 221 = .ok (.invokevirtual 88, 3) := by decide +kernel
theorem dX4_playDare_224 : decode cX4_playDare 224 = .ok (.ifCond .ne 15, 3) := by decide +kernel
theorem dX4_playDare_227 : decode cX4_playDare 227 = .ok (.aload_n 0, 1) := by decide +kernel
theorem dX4_playDare_228 : decode cX4_playDare 228 = .ok (.getfield 12, 3) := by decide +kernel
theorem dX4_playDare_231 : decode cX4_playDare 231 = .ok (.iload 4, 2) := by decide +kernel
theorem dX4_playDare_233 : decode cX4_playDare 233 = .ok (.iload 5, 2) := by decide +kernel
theorem dX4_playDare_235 : decode cX4_playDare 235 = .ok (.invokevirtual 88, 3) := by decide +kernel
theorem dX4_playDare_238 : decode cX4_playDare 238 = .ok (.pop, 1) := by decide +kernel
theorem dX4_playDare_239 : decode cX4_playDare 239 = .ok (.return_, 1) := by decide +kernel
set_option maxRecDepth 20000 in
theorem ggX4_reckon_X5_oddsOf : GoodIn wsX4_reckon wsX5_oddsOf := goodIn_r _ [8, 9, 10, 11, 12, 13, 14, 15, 16, 17, 18, 19, 20, 38, 39, 40, 41, 42, 43, 44, 45, 46, 47, 48, 49, 50] (by decide +kernel) (by decide +kernel)
set_option maxRecDepth 20000 in
theorem gX4_reckon_X5_oddsOf : GoodIn wsX4_reckon (wsV RX4 95 RX5 yX5_oddsOf wsX5_oddsOf) := goodIn_app (goodIn_of _ (by decide +kernel)) ggX4_reckon_X5_oddsOf
set_option maxRecDepth 20000 in
theorem ggX4_reckon_X0_goesWell : GoodIn wsX4_reckon wsX0_goesWell := goodIn_r _ [25, 26, 27, 28, 51, 52] (by decide +kernel) (by decide +kernel)
set_option maxRecDepth 20000 in
theorem gX4_reckon_X0_goesWell : GoodIn wsX4_reckon (wsV RX4 99 RX0 yX0_goesWell wsX0_goesWell) := goodIn_app (goodIn_of _ (by decide +kernel)) ggX4_reckon_X0_goesWell
theorem dX4_reckon_0 : decode cX4_reckon 0 = .ok (.aload_n 0, 1) := by decide +kernel
theorem dX4_reckon_1 : decode cX4_reckon 1 = .ok (.dup, 1) := by decide +kernel
theorem dX4_reckon_2 : decode cX4_reckon 2 = .ok (.getfield 77, 3) := by decide +kernel
theorem dX4_reckon_5 : decode cX4_reckon 5 = .ok (.iconst 1, 1) := by decide +kernel
theorem dX4_reckon_6 : decode cX4_reckon 6 = .ok (.iadd, 1) := by decide +kernel
theorem dX4_reckon_7 : decode cX4_reckon 7 = .ok (.putfield 77, 3) := by decide +kernel
theorem dX4_reckon_10 : decode cX4_reckon 10 = .ok (.aload_n 0, 1) := by decide +kernel
theorem dX4_reckon_11 : decode cX4_reckon 11 = .ok (.getfield 77, 3) := by decide +kernel
theorem dX4_reckon_14 : decode cX4_reckon 14 = .ok (.bipush 15, 2) := by decide +kernel
theorem dX4_reckon_16 : decode cX4_reckon 16 = .ok (.if_icmp .gt 19, 3) := by decide +kernel
theorem dX4_reckon_19 : decode cX4_reckon 19 = .ok (.aload_n 0, 1) := by decide +kernel
theorem dX4_reckon_20 : decode cX4_reckon 20 = .ok (.getfield 25, 3) := by decide +kernel
theorem dX4_reckon_23 : decode cX4_reckon 23 = .ok (.aload_n 0, 1) := by decide +kernel
theorem dX4_reckon_24 : decode cX4_reckon 24 = .ok (.getfield 12, 3) := by decide +kernel
theorem dX4_reckon_27 : decode cX4_reckon 27 = .ok (.iload_n 1, 1) := by decide +kernel
theorem dX4_reckon_28 : decode cX4_reckon 28 = .ok (.iload_n 2, 1) := by decide +kernel
theorem dX4_reckon_29 : decode cX4_reckon 29 = .ok (.invokevirtual 95, 3) := by decide +kernel
theorem dX4_reckon_32 : decode cX4_reckon 32 = .ok (.invokevirtual 99, 3) := by decide +kernel
theorem dX4_reckon_35 : decode cX4_reckon 35 = .ok (.return_, 1) := by decide +kernel
set_option maxRecDepth 20000 in
theorem ggX4_closest_X7_at : GoodIn wsX4_closest wsX7_at := goodIn_r _ [4] (by decide +kernel) (by decide +kernel)
set_option maxRecDepth 20000 in
theorem gX4_closest_X7_at_n42 : GoodIn wsX4_closest (wsX7_at) := ggX4_closest_X7_at
theorem dX4_closest_0 : decode cX4_closest 0 = .ok (.iconst (-1), 1) := by decide +kernel
theorem dX4_closest_1 : decode cX4_closest 1 = .ok (.istore_n 1, 1) := by decide +kernel
theorem dX4_closest_2 : decode cX4_closest 2 = .ok (.iconst 0, 1) := by decide +kernel
theorem dX4_closest_3 : decode cX4_closest 3 = .ok (.istore_n 2, 1) := by decide +kernel
theorem dX4_closest_4 : decode cX4_closest 4 = .ok (.iconst 0, 1) := by decide +kernel
theorem dX4_closest_5 : decode cX4_closest 5 = .ok (.istore_n 3, 1) := by decide +kernel
theorem dX4_closest_6 : decode cX4_closest 6 = .ok (.iload_n 3, 1) := by decide +kernel
theorem dX4_closest_7 : decode cX4_closest 7 = .ok (.aload_n 0, 1) := by decide +kernel
theorem dX4_closest_8 : decode cX4_closest 8 = .ok (.getfield 18, 3) := by decide +kernel
theorem dX4_closest_11 : decode cX4_closest 11 = .ok (.arraylength, 1) := by decide +kernel
theorem dX4_closest_12 : decode cX4_closest 12 = .ok (.if_icmp .ge 32, 3) := by decide +kernel
theorem dX4_closest_15 : decode cX4_closest 15 = .ok (.aload_n 0, 1) := by decide +kernel
theorem dX4_closest_16 : decode cX4_closest 16 = .ok (.getfield 18, 3) := by decide +kernel
theorem dX4_closest_19 : decode cX4_closest 19 = .ok (.iload_n 3, 1) := by decide +kernel
theorem dX4_closest_20 : decode cX4_closest 20 = .ok (.invokestatic 42, 3) := by decide +kernel
theorem dX4_closest_23 : decode cX4_closest 23 = .ok (.iload_n 2, 1) := by decide +kernel
theorem dX4_closest_24 : decode cX4_closest 24 = .ok (.if_icmp .le 14, 3) := by decide +kernel
theorem dX4_closest_27 : decode cX4_closest 27 = .ok (.aload_n 0, 1) := by decide +kernel
theorem dX4_closest_28 : decode cX4_closest 28 = .ok (.getfield 18, 3) := by decide +kernel
theorem dX4_closest_31 : decode cX4_closest 31 = .ok (.iload_n 3, 1) := by decide +kernel
theorem dX4_closest_32 : decode cX4_closest 32 = .ok (.invokestatic 42, 3) := by decide +kernel
theorem dX4_closest_35 : decode cX4_closest 35 = .ok (.istore_n 2, 1) := by decide +kernel
theorem dX4_closest_36 : decode cX4_closest 36 = .ok (.iload_n 3, 1) := by decide +kernel
theorem dX4_closest_37 : decode cX4_closest 37 = .ok (.istore_n 1, 1) := by decide +kernel
theorem dX4_closest_38 : decode cX4_closest 38 = .ok (.iinc 3 1, 3) := by decide +kernel
theorem dX4_closest_41 : decode cX4_closest 41 = .ok (.goto (-35), 3) := by decide +kernel
theorem dX4_closest_44 : decode cX4_closest 44 = .ok (.iload_n 1, 1) := by decide +kernel
theorem dX4_closest_45 : decode cX4_closest 45 = .ok (.ireturn, 1) := by decide +kernel
set_option maxRecDepth 20000 in
theorem ggX5_init_X7_copyRow : GoodIn wsX5_init wsX7_copyRow := goodIn_r _ [20, 21, 22, 19, 23, 24, 25, 26] (by decide +kernel) (by decide +kernel)
set_option maxRecDepth 20000 in
theorem gX5_init_X7_copyRow_n55 : GoodIn wsX5_init (wsX7_copyRow) := ggX5_init_X7_copyRow
theorem dX5_init_0 : decode cX5_init 0 = .ok (.aload_n 0, 1) := by decide +kernel
theorem dX5_init_1 : decode cX5_init 1 = .ok (.invokespecial 3, 3) := by decide +kernel
theorem dX5_init_4 : decode cX5_init 4 = .ok (.aload_n 0, 1) := by decide +kernel
theorem dX5_init_5 : decode cX5_init 5 = .ok (.bipush 7, 2) := by decide +kernel
theorem dX5_init_7 : decode cX5_init 7 = .ok (.newarray .int, 2) := by decide +kernel
theorem dX5_init_9 : decode cX5_init 9 = .ok (.putfield 9, 3) := by decide +kernel
theorem dX5_init_12 : decode cX5_init 12 = .ok (.aload_n 0, 1) := by decide +kernel
theorem dX5_init_13 : decode cX5_init 13 = .ok (.bipush 6, 2) := by decide +kernel
theorem dX5_init_15 : decode cX5_init 15 = .ok (.newarray .int, 2) := by decide +kernel
theorem dX5_init_17 : decode cX5_init 17 = .ok (.putfield 15, 3) := by decide +kernel
theorem dX5_init_20 : decode cX5_init 20 = .ok (.aload_n 0, 1) := by decide +kernel
theorem dX5_init_21 : decode cX5_init 21 = .ok (.bipush 6, 2) := by decide +kernel
theorem dX5_init_23 : decode cX5_init 23 = .ok (.newarray .int, 2) := by decide +kernel
theorem dX5_init_25 : decode cX5_init 25 = .ok (.putfield 18, 3) := by decide +kernel
theorem dX5_init_28 : decode cX5_init 28 = .ok (.aload_n 0, 1) := by decide +kernel
theorem dX5_init_29 : decode cX5_init 29 = .ok (.bipush 6, 2) := by decide +kernel
theorem dX5_init_31 : decode cX5_init 31 = .ok (.newarray .int, 2) := by decide +kernel
theorem dX5_init_33 : decode cX5_init 33 = .ok (.putfield 21, 3) := by decide +kernel
theorem dX5_init_36 : decode cX5_init 36 = .ok (.aload_n 0, 1) := by decide +kernel
theorem dX5_init_37 : decode cX5_init 37 = .ok (.bipush 6, 2) := by decide +kernel
theorem dX5_init_39 : decode cX5_init 39 = .ok (.newarray .int, 2) := by decide +kernel
theorem dX5_init_41 : decode cX5_init 41 = .ok (.putfield 24, 3) := by decide +kernel
theorem dX5_init_44 : decode cX5_init 44 = .ok (.aload_n 0, 1) := by decide +kernel
theorem dX5_init_45 : decode cX5_init 45 = .ok (.bipush 6, 2) := by decide +kernel
theorem dX5_init_47 : decode cX5_init 47 = .ok (.newarray .int, 2) := by decide +kernel
theorem dX5_init_49 : decode cX5_init 49 = .ok (.putfield 27, 3) := by decide +kernel
theorem dX5_init_52 : decode cX5_init 52 = .ok (.aload_n 0, 1) := by decide +kernel
theorem dX5_init_53 : decode cX5_init 53 = .ok (.bipush 6, 2) := by decide +kernel
theorem dX5_init_55 : decode cX5_init 55 = .ok (.newarray .int, 2) := by decide +kernel
theorem dX5_init_57 : decode cX5_init 57 = .ok (.putfield 30, 3) := by decide +kernel
theorem dX5_init_60 : decode cX5_init 60 = .ok (.aload_n 0, 1) := by decide +kernel
theorem dX5_init_61 : decode cX5_init 61 = .ok (.bipush 6, 2) := by decide +kernel
theorem dX5_init_63 : decode cX5_init 63 = .ok (.newarray .int, 2) := by decide +kernel
theorem dX5_init_65 : decode cX5_init 65 = .ok (.putfield 33, 3) := by decide +kernel
theorem dX5_init_68 : decode cX5_init 68 = .ok (.aload_n 0, 1) := by decide +kernel
theorem dX5_init_69 : decode cX5_init 69 = .ok (.bipush 6, 2) := by decide +kernel
theorem dX5_init_71 : decode cX5_init 71 = .ok (.newarray .int, 2) := by decide +kernel
theorem dX5_init_73 : decode cX5_init 73 = .ok (.putfield 36, 3) := by decide +kernel
theorem dX5_init_76 : decode cX5_init 76 = .ok (.aload_n 0, 1) := by decide +kernel
theorem dX5_init_77 : decode cX5_init 77 = .ok (.bipush 6, 2) := by decide +kernel
theorem dX5_init_79 : decode cX5_init 79 = .ok (.newarray .int, 2) := by decide +kernel
theorem dX5_init_81 : decode cX5_init 81 = .ok (.putfield 39, 3) := by decide +kernel
theorem dX5_init_84 : decode cX5_init 84 = .ok (.aload_n 0, 1) := by decide +kernel
theorem dX5_init_85 : decode cX5_init 85 = .ok (.bipush 6, 2) := by decide +kernel
theorem dX5_init_87 : decode cX5_init 87 = .ok (.newarray .int, 2) := by decide +kernel
theorem dX5_init_89 : decode cX5_init 89 = .ok (.putfield 42, 3) := by decide +kernel
theorem dX5_init_92 : decode cX5_init 92 = .ok (.aload_n 0, 1) := by decide +kernel
theorem dX5_init_93 : decode cX5_init 93 = .ok (.bipush 6, 2) := by decide +kernel
theorem dX5_init_95 : decode cX5_init 95 = .ok (.newarray .int, 2) := by decide +kernel
theorem dX5_init_97 : decode cX5_init 97 = .ok (.putfield 45, 3) := by decide +kernel
theorem dX5_init_100 : decode cX5_init 100 = .ok (.aload_n 0, 1) := by decide +kernel
theorem dX5_init_101 : decode cX5_init 101 = .ok (.iconst 0, 1) := by decide +kernel
theorem dX5_init_102 : decode cX5_init 102 = .ok (.putfield 48, 3) := by decide +kernel
theorem dX5_init_105 : decode cX5_init 105 = .ok (.getstatic 52, 3) := by decide +kernel
theorem dX5_init_108 : decode cX5_init 108 = .ok (.aload_n 0, 1) := by decide +kernel
theorem dX5_init_109 : decode cX5_init 109 = .ok (.getfield 9, 3) := by decide +kernel
theorem dX5_init_112 : decode cX5_init 112 = .ok (.invokestatic 55, 3) := by decide +kernel
theorem dX5_init_115 : decode cX5_init 115 = .ok (.return_, 1) := by decide +kernel
set_option maxRecDepth 20000 in
theorem ggX5_copyFrom_X7_copyRow : GoodIn wsX5_copyFrom wsX7_copyRow := goodIn_r _ [16, 17, 18, 15, 19, 20, 21, 22] (by decide +kernel) (by decide +kernel)
set_option maxRecDepth 20000 in
theorem gX5_copyFrom_X7_copyRow_n55 : GoodIn wsX5_copyFrom (wsX7_copyRow) := ggX5_copyFrom_X7_copyRow
theorem dX5_copyFrom_0 : decode cX5_copyFrom 0 = .ok (.aload_n 1, 1) := by decide +kernel
theorem dX5_copyFrom_1 : decode cX5_copyFrom 1 = .ok (.ifnonnull 4, 3) := by decide +kernel
theorem dX5_copyFrom_4 : decode cX5_copyFrom 4 = .ok (.return_, 1) := by decide +kernel
theorem dX5_copyFrom_5 : decode cX5_copyFrom 5 = .ok (.aload_n 1, 1) := by decide +kernel
theorem dX5_copyFrom_6 : decode cX5_copyFrom 6 = .ok (.getfield 9, 3) := by decide +kernel
theorem dX5_copyFrom_9 : decode cX5_copyFrom 9 = .ok (.aload_n 0, 1) := by decide +kernel
theorem dX5_copyFrom_10 : decode cX5_copyFrom 10 = .ok (.getfield 9, 3) := by decide +kernel
theorem dX5_copyFrom_13 : decode cX5_copyFrom 13 = .ok (.invokestatic 55, 3) := by decide +kernel
theorem dX5_copyFrom_16 : decode cX5_copyFrom 16 = .ok (.aload_n 1, 1) := by decide +kernel
theorem dX5_copyFrom_17 : decode cX5_copyFrom 17 = .ok (.getfield 15, 3) := by decide +kernel
theorem dX5_copyFrom_20 : decode cX5_copyFrom 20 = .ok (.aload_n 0, 1) := by decide +kernel
theorem dX5_copyFrom_21 : decode cX5_copyFrom 21 = .ok (.getfield 15, 3) := by decide +kernel
theorem dX5_copyFrom_24 : decode cX5_copyFrom 24 = .ok (.invokestatic 55, 3) := by decide +kernel
theorem dX5_copyFrom_27 : decode cX5_copyFrom 27 = .ok (.aload_n 1, 1) := by decide +kernel
theorem dX5_copyFrom_28 : decode cX5_copyFrom 28 = .ok (.getfield 18, 3) := by decide +kernel
theorem dX5_copyFrom_31 : decode cX5_copyFrom 31 = .ok (.aload_n 0, 1) := by decide +kernel
theorem dX5_copyFrom_32 : decode cX5_copyFrom 32 = .ok (.getfield 18, 3) := by decide +kernel
theorem dX5_copyFrom_35 : decode cX5_copyFrom 35 = .ok (.invokestatic 55, 3) := by decide +kernel
theorem dX5_copyFrom_38 : decode cX5_copyFrom 38 = .ok (.aload_n 1, 1) := by decide +kernel
theorem dX5_copyFrom_39 : decode cX5_copyFrom 39 = .ok (.getfield 21, 3) := by decide +kernel
theorem dX5_copyFrom_42 : decode cX5_copyFrom 42 = .ok (.aload_n 0, 1) := by decide +kernel
theorem dX5_copyFrom_43 : decode cX5_copyFrom 43 = .ok (.getfield 21, 3) := by decide +kernel
theorem dX5_copyFrom_46 : decode cX5_copyFrom 46 = .ok (.invokestatic 55, 3) := by decide +kernel
theorem dX5_copyFrom_49 : decode cX5_copyFrom 49 = .ok (.aload_n 1, 1) := by decide +kernel
theorem dX5_copyFrom_50 : decode cX5_copyFrom 50 = .ok (.getfield 24, 3) := by decide +kernel
theorem dX5_copyFrom_53 : decode cX5_copyFrom 53 = .ok (.aload_n 0, 1) := by decide +kernel
theorem dX5_copyFrom_54 : decode cX5_copyFrom 54 = .ok (.getfield 24, 3) := by decide +kernel
theorem dX5_copyFrom_57 : decode cX5_copyFrom 57 = .ok (.invokestatic 55, 3) := by decide +kernel
theorem dX5_copyFrom_60 : decode cX5_copyFrom 60 = .ok (.aload_n 1, 1) := by decide +kernel
theorem dX5_copyFrom_61 : decode cX5_copyFrom 61 = .ok (.getfield 27, 3) := by decide +kernel
theorem dX5_copyFrom_64 : decode cX5_copyFrom 64 = .ok (.aload_n 0, 1) := by decide +kernel
theorem dX5_copyFrom_65 : decode cX5_copyFrom 65 = .ok (.getfield 27, 3) := by decide +kernel
theorem dX5_copyFrom_68 : decode cX5_copyFrom 68 = .ok (.invokestatic 55, 3) := by decide +kernel
theorem dX5_copyFrom_71 : decode cX5_copyFrom 71 = .ok (.aload_n 1, 1) := by decide +kernel
theorem dX5_copyFrom_72 : decode cX5_copyFrom 72 = .ok (.getfield 30, 3) := by decide +kernel
theorem dX5_copyFrom_75 : decode cX5_copyFrom 75 = .ok (.aload_n 0, 1) := by decide +kernel
theorem dX5_copyFrom_76 : decode cX5_copyFrom 76 = .ok (.getfield 30, 3) := by decide +kernel
theorem dX5_copyFrom_79 : decode cX5_copyFrom 79 = .ok (.invokestatic 55, 3) := by decide +kernel
theorem dX5_copyFrom_82 : decode cX5_copyFrom 82 = .ok (.aload_n 1, 1) := by decide +kernel
theorem dX5_copyFrom_83 : decode cX5_copyFrom 83 = .ok (.getfield 33, 3) := by decide +kernel
theorem dX5_copyFrom_86 : decode cX5_copyFrom 86 = .ok (.aload_n 0, 1) := by decide +kernel
theorem dX5_copyFrom_87 : decode cX5_copyFrom 87 = .ok (.getfield 33, 3) := by decide +kernel
theorem dX5_copyFrom_90 : decode cX5_copyFrom 90 = .ok (.invokestatic 55, 3) := by decide +kernel
theorem dX5_copyFrom_93 : decode cX5_copyFrom 93 = .ok (.aload_n 1, 1) := by decide +kernel
theorem dX5_copyFrom_94 : decode cX5_copyFrom 94 = .ok (.getfield 36, 3) := by decide +kernel
theorem dX5_copyFrom_97 : decode cX5_copyFrom 97 = .ok (.aload_n 0, 1) := by decide +kernel
theorem dX5_copyFrom_98 : decode cX5_copyFrom 98 = .ok (.getfield 36, 3) := by decide +kernel
theorem dX5_copyFrom_101 : decode cX5_copyFrom 101 = .ok (.invokestatic 55, 3) := by decide +kernel
theorem dX5_copyFrom_104 : decode cX5_copyFrom 104 = .ok (.aload_n 1, 1) := by decide +kernel
theorem dX5_copyFrom_105 : decode cX5_copyFrom 105 = .ok (.getfield 39, 3) := by decide +kernel
theorem dX5_copyFrom_108 : decode cX5_copyFrom 108 = .ok (.aload_n 0, 1) := by decide +kernel
theorem dX5_copyFrom_109 : decode cX5_copyFrom 109 = .ok (.getfield 39, 3) := by decide +kernel
theorem dX5_copyFrom_112 : decode cX5_copyFrom 112 = .ok (.invokestatic 55, 3) := by decide +kernel
theorem dX5_copyFrom_115 : decode cX5_copyFrom 115 = .ok (.aload_n 1, 1) := by decide +kernel
theorem dX5_copyFrom_116 : decode cX5_copyFrom 116 = .ok (.getfield 42, 3) := by decide +kernel
theorem dX5_copyFrom_119 : decode cX5_copyFrom 119 = .ok (.aload_n 0, 1) := by decide +kernel
theorem dX5_copyFrom_120 : decode cX5_copyFrom 120 = .ok (.getfield 42, 3) := by decide +kernel
theorem dX5_copyFrom_123 : decode cX5_copyFrom 123 = .ok (.invokestatic 55, 3) := by decide +kernel
theorem dX5_copyFrom_126 : decode cX5_copyFrom 126 = .ok (.aload_n 1, 1) := by decide +kernel
theorem dX5_copyFrom_127 : decode cX5_copyFrom 127 = .ok (.getfield 45, 3) := by decide +kernel
theorem dX5_copyFrom_130 : decode cX5_copyFrom 130 = .ok (.aload_n 0, 1) := by decide +kernel
theorem dX5_copyFrom_131 : decode cX5_copyFrom 131 = .ok (.getfield 45, 3) := by decide +kernel
theorem dX5_copyFrom_134 : decode cX5_copyFrom 134 = .ok (.invokestatic 55, 3) := by decide +kernel
theorem dX5_copyFrom_137 : decode cX5_copyFrom 137 = .ok (.aload_n 0, 1) := by decide +kernel
theorem dX5_copyFrom_138 : decode cX5_copyFrom 138 = .ok (.aload_n 1, 1) := by decide +kernel
theorem dX5_copyFrom_139 : decode cX5_copyFrom 139 = .ok (.getfield 48, 3) := by decide +kernel
theorem dX5_copyFrom_142 : decode cX5_copyFrom 142 = .ok (.putfield 48, 3) := by decide +kernel
theorem dX5_copyFrom_145 : decode cX5_copyFrom 145 = .ok (.return_, 1) := by decide +kernel
set_option maxRecDepth 20000 in
theorem ggX5_rule_X7_at : GoodIn wsX5_rule wsX7_at := goodIn_r _ [4] (by decide +kernel) (by decide +kernel)
set_option maxRecDepth 20000 in
theorem gX5_rule_X7_at_n59 : GoodIn wsX5_rule (wsX7_at) := ggX5_rule_X7_at
theorem dX5_rule_0 : decode cX5_rule 0 = .ok (.aload_n 0, 1) := by decide +kernel
theorem dX5_rule_1 : decode cX5_rule 1 = .ok (.getfield 9, 3) := by decide +kernel
theorem dX5_rule_4 : decode cX5_rule 4 = .ok (.iload_n 1, 1) := by decide +kernel
theorem dX5_rule_5 : decode cX5_rule 5 = .ok (.invokestatic 59, 3) := by decide +kernel
theorem dX5_rule_8 : decode cX5_rule 8 = .ok (.ireturn, 1) := by decide +kernel
set_option maxRecDepth 20000 in
theorem ggX5_isThere_X7_at : GoodIn wsX5_isThere wsX7_at := goodIn_r _ [4] (by decide +kernel) (by decide +kernel)
set_option maxRecDepth 20000 in
theorem gX5_isThere_X7_at_n59 : GoodIn wsX5_isThere (wsX7_at) := ggX5_isThere_X7_at
theorem dX5_isThere_0 : decode cX5_isThere 0 = .ok (.aload_n 0, 1) := by decide +kernel
theorem dX5_isThere_1 : decode cX5_isThere 1 = .ok (.getfield 15, 3) := by decide +kernel
theorem dX5_isThere_4 : decode cX5_isThere 4 = .ok (.iload_n 1, 1) := by decide +kernel
theorem dX5_isThere_5 : decode cX5_isThere 5 = .ok (.invokestatic 59, 3) := by decide +kernel
theorem dX5_isThere_8 : decode cX5_isThere 8 = .ok (.iconst 1, 1) := by decide +kernel
theorem dX5_isThere_9 : decode cX5_isThere 9 = .ok (.if_icmp .ne 7, 3) := by decide +kernel
theorem dX5_isThere_12 : decode cX5_isThere 12 = .ok (.iconst 1, 1) := by decide +kernel
theorem dX5_isThere_13 : decode cX5_isThere 13 = .ok (.goto 4, 3) := by decide +kernel
theorem dX5_isThere_16 : decode cX5_isThere 16 = .ok (.iconst 0, 1) := by decide +kernel
theorem dX5_isThere_17 : decode cX5_isThere 17 = .ok (.ireturn, 1) := by decide +kernel
set_option maxRecDepth 20000 in
theorem ggX5_bits_X7_at : GoodIn wsX5_bits wsX7_at := goodIn_r _ [4] (by decide +kernel) (by decide +kernel)
set_option maxRecDepth 20000 in
theorem gX5_bits_X7_at_n59 : GoodIn wsX5_bits (wsX7_at) := ggX5_bits_X7_at
theorem dX5_bits_0 : decode cX5_bits 0 = .ok (.iconst 0, 1) := by decide +kernel
theorem dX5_bits_1 : decode cX5_bits 1 = .ok (.istore_n 1, 1) := by decide +kernel
theorem dX5_bits_2 : decode cX5_bits 2 = .ok (.iconst 0, 1) := by decide +kernel
theorem dX5_bits_3 : decode cX5_bits 3 = .ok (.istore_n 2, 1) := by decide +kernel
theorem dX5_bits_4 : decode cX5_bits 4 = .ok (.iload_n 2, 1) := by decide +kernel
theorem dX5_bits_5 : decode cX5_bits 5 = .ok (.bipush 6, 2) := by decide +kernel
theorem dX5_bits_7 : decode cX5_bits 7 = .ok (.if_icmp .ge 22, 3) := by decide +kernel
theorem dX5_bits_10 : decode cX5_bits 10 = .ok (.iload_n 1, 1) := by decide +kernel
theorem dX5_bits_11 : decode cX5_bits 11 = .ok (.aload_n 0, 1) := by decide +kernel
theorem dX5_bits_12 : decode cX5_bits 12 = .ok (.getfield 15, 3) := by decide +kernel
theorem dX5_bits_15 : decode cX5_bits 15 = .ok (.iload_n 2, 1) := by decide +kernel
theorem dX5_bits_16 : decode cX5_bits 16 = .ok (.invokestatic 59, 3) := by decide +kernel
theorem dX5_bits_19 : decode cX5_bits 19 = .ok (.iload_n 2, 1) := by decide +kernel
theorem dX5_bits_20 : decode cX5_bits 20 = .ok (.ishl, 1) := by decide +kernel
theorem dX5_bits_21 : decode cX5_bits 21 = .ok (.ior, 1) := by decide +kernel
theorem dX5_bits_22 : decode cX5_bits 22 = .ok (.istore_n 1, 1) := by decide +kernel
theorem dX5_bits_23 : decode cX5_bits 23 = .ok (.iinc 2 1, 3) := by decide +kernel
theorem dX5_bits_26 : decode cX5_bits 26 = .ok (.goto (-22), 3) := by decide +kernel
theorem dX5_bits_29 : decode cX5_bits 29 = .ok (.iload_n 1, 1) := by decide +kernel
theorem dX5_bits_30 : decode cX5_bits 30 = .ok (.ireturn, 1) := by decide +kernel
set_option maxRecDepth 20000 in
theorem ggX5_come_X7_put : GoodIn wsX5_come wsX7_put := goodIn_r _ [12] (by decide +kernel) (by decide +kernel)
set_option maxRecDepth 20000 in
theorem gX5_come_X7_put_n63 : GoodIn wsX5_come (wsX7_put) := ggX5_come_X7_put
set_option maxRecDepth 20000 in
theorem ggX5_come_X7_at : GoodIn wsX5_come wsX7_at := goodIn_r _ [14] (by decide +kernel) (by decide +kernel)
set_option maxRecDepth 20000 in
theorem gX5_come_X7_at_n59 : GoodIn wsX5_come (wsX7_at) := ggX5_come_X7_at
theorem dX5_come_0 : decode cX5_come 0 = .ok (.aload_n 0, 1) := by decide +kernel
theorem dX5_come_1 : decode cX5_come 1 = .ok (.getfield 15, 3) := by decide +kernel
theorem dX5_come_4 : decode cX5_come 4 = .ok (.iload_n 1, 1) := by decide +kernel
theorem dX5_come_5 : decode cX5_come 5 = .ok (.iconst 1, 1) := by decide +kernel
theorem dX5_come_6 : decode cX5_come 6 = .ok (.invokestatic 63, 3) := by decide +kernel
theorem dX5_come_9 : decode cX5_come 9 = .ok (.aload_n 0, 1) := by decide +kernel
theorem dX5_come_10 : decode cX5_come 10 = .ok (.getfield 18, 3) := by decide +kernel
theorem dX5_come_13 : decode cX5_come 13 = .ok (.iload_n 1, 1) := by decide +kernel
theorem dX5_come_14 : decode cX5_come 14 = .ok (.iload_n 2, 1) := by decide +kernel
theorem dX5_come_15 : decode cX5_come 15 = .ok (.invokestatic 63, 3) := by decide +kernel
theorem dX5_come_18 : decode cX5_come 18 = .ok (.aload_n 0, 1) := by decide +kernel
theorem dX5_come_19 : decode cX5_come 19 = .ok (.getfield 21, 3) := by decide +kernel
theorem dX5_come_22 : decode cX5_come 22 = .ok (.iload_n 1, 1) := by decide +kernel
theorem dX5_come_23 : decode cX5_come 23 = .ok (.iload_n 3, 1) := by decide +kernel
theorem dX5_come_24 : decode cX5_come 24 = .ok (.invokestatic 63, 3) := by decide +kernel
theorem dX5_come_27 : decode cX5_come 27 = .ok (.aload_n 0, 1) := by decide +kernel
theorem dX5_come_28 : decode cX5_come 28 = .ok (.getfield 24, 3) := by decide +kernel
theorem dX5_come_31 : decode cX5_come 31 = .ok (.iload_n 1, 1) := by decide +kernel
theorem dX5_come_32 : decode cX5_come 32 = .ok (.iload 4, 2) := by decide +kernel
theorem dX5_come_34 : decode cX5_come 34 = .ok (.invokestatic 63, 3) := by decide +kernel
theorem dX5_come_37 : decode cX5_come 37 = .ok (.aload_n 0, 1) := by decide +kernel
theorem dX5_come_38 : decode cX5_come 38 = .ok (.getfield 27, 3) := by decide +kernel
theorem dX5_come_41 : decode cX5_come 41 = .ok (.iload_n 1, 1) := by decide +kernel
theorem dX5_come_42 : decode cX5_come 42 = .ok (.iload 5, 2) := by decide +kernel
theorem dX5_come_44 : decode cX5_come 44 = .ok (.invokestatic 63, 3) := by decide +kernel
theorem dX5_come_47 : decode cX5_come 47 = .ok (.aload_n 0, 1) := by decide +kernel
theorem dX5_come_48 : decode cX5_come 48 = .ok (.getfield 30, 3) := by decide +kernel
theorem dX5_come_51 : decode cX5_come 51 = .ok (.iload_n 1, 1) := by decide +kernel
theorem dX5_come_52 : decode cX5_come 52 = .ok (.aload_n 0, 1) := by decide +kernel
theorem dX5_come_53 : decode cX5_come 53 = .ok (.getfield 9, 3) := by decide +kernel
theorem dX5_come_56 : decode cX5_come 56 = .ok (.iconst 1, 1) := by decide +kernel
theorem dX5_come_57 : decode cX5_come 57 = .ok (.invokestatic 59, 3) := by decide +kernel
theorem dX5_come_60 : decode cX5_come 60 = .ok (.invokestatic 63, 3) := by decide +kernel
theorem dX5_come_63 : decode cX5_come 63 = .ok (.aload_n 0, 1) := by decide +kernel
theorem dX5_come_64 : decode cX5_come 64 = .ok (.getfield 33, 3) := by decide +kernel
theorem dX5_come_67 : decode cX5_come 67 = .ok (.iload_n 1, 1) := by decide +kernel
theorem dX5_come_68 : decode cX5_come 68 = .ok (.iconst 0, 1) := by decide +kernel
theorem dX5_come_69 : decode cX5_come 69 = .ok (.invokestatic 63, 3) := by decide +kernel
theorem dX5_come_72 : decode cX5_come 72 = .ok (.aload_n 0, 1) := by decide +kernel
theorem dX5_come_73 : decode cX5_come 73 = .ok (.getfield 36, 3) := by decide +kernel
theorem dX5_come_76 : decode cX5_come 76 = .ok (.iload_n 1, 1) := by decide +kernel
theorem dX5_come_77 : decode cX5_come 77 = .ok (.iconst 0, 1) := by decide +kernel
theorem dX5_come_78 : decode cX5_come 78 = .ok (.invokestatic 63, 3) := by decide +kernel
theorem dX5_come_81 : decode cX5_come 81 = .ok (.return_, 1) := by decide +kernel
set_option maxRecDepth 20000 in
theorem ggX5_go_X7_put : GoodIn wsX5_go wsX7_put := goodIn_r _ [4] (by decide +kernel) (by decide +kernel)
set_option maxRecDepth 20000 in
theorem gX5_go_X7_put_n63 : GoodIn wsX5_go (wsX7_put) := ggX5_go_X7_put
theorem dX5_go_0 : decode cX5_go 0 = .ok (.aload_n 0, 1) := by decide +kernel
theorem dX5_go_1 : decode cX5_go 1 = .ok (.getfield 15, 3) := by decide +kernel
theorem dX5_go_4 : decode cX5_go 4 = .ok (.iload_n 1, 1) := by decide +kernel
theorem dX5_go_5 : decode cX5_go 5 = .ok (.iconst 0, 1) := by decide +kernel
theorem dX5_go_6 : decode cX5_go 6 = .ok (.invokestatic 63, 3) := by decide +kernel
theorem dX5_go_9 : decode cX5_go 9 = .ok (.return_, 1) := by decide +kernel
set_option maxRecDepth 20000 in
theorem ggX5_standing_X7_at : GoodIn wsX5_standing wsX7_at := goodIn_r _ [6] (by decide +kernel) (by decide +kernel)
set_option maxRecDepth 20000 in
theorem gX5_standing_X7_at_n59 : GoodIn wsX5_standing (wsX7_at) := ggX5_standing_X7_at
theorem dX5_standing_0 : decode cX5_standing 0 = .ok (.iload_n 2, 1) := by decide +kernel
theorem dX5_standing_1 : decode cX5_standing 1 = .ok (.lookupswitch 49 #[(0, 27), (1, 40)], 27) := by decide +kernel
theorem dX5_standing_28 : decode cX5_standing 28 = .ok (.aload_n 0, 1) := by decide +kernel
theorem dX5_standing_29 : decode cX5_standing 29 = .ok (.getfield 33, 3) := by decide +kernel
theorem dX5_standing_32 : decode cX5_standing 32 = .ok (.iload_n 1, 1) := by decide +kernel
theorem dX5_standing_33 : decode cX5_standing 33 = .ok (.invokestatic 59, 3) := by decide +kernel
theorem dX5_standing_36 : decode cX5_standing 36 = .ok (.sipush 1000, 3) := by decide +kernel
theorem dX5_standing_39 : decode cX5_standing 39 = .ok (.iadd, 1) := by decide +kernel
theorem dX5_standing_40 : decode cX5_standing 40 = .ok (.ireturn, 1) := by decide +kernel
theorem dX5_standing_41 : decode cX5_standing 41 = .ok (.aload_n 0, 1) := by decide +kernel
theorem dX5_standing_42 : decode cX5_standing 42 = .ok (.getfield 30, 3) := by decide +kernel
theorem dX5_standing_45 : decode cX5_standing 45 = .ok (.iload_n 1, 1) := by decide +kernel
theorem dX5_standing_46 : decode cX5_standing 46 = .ok (.invokestatic 59, 3) := by decide +kernel
theorem dX5_standing_49 : decode cX5_standing 49 = .ok (.ireturn, 1) := by decide +kernel
theorem dX5_standing_50 : decode cX5_standing 50 = .ok (.aload_n 0, 1) := by decide +kernel
theorem dX5_standing_51 : decode cX5_standing 51 = .ok (.getfield 36, 3) := by decide +kernel
theorem dX5_standing_54 : decode cX5_standing 54 = .ok (.iload_n 1, 1) := by decide +kernel
theorem dX5_standing_55 : decode cX5_standing 55 = .ok (.invokestatic 59, 3) := by decide +kernel
theorem dX5_standing_58 : decode cX5_standing 58 = .ok (.ireturn, 1) := by decide +kernel
set_option maxRecDepth 20000 in
theorem ggX5_oddsOf_X7_at : GoodIn wsX5_oddsOf wsX7_at := goodIn_r _ [12] (by decide +kernel) (by decide +kernel)
set_option maxRecDepth 20000 in
theorem gX5_oddsOf_X7_at_n59 : GoodIn wsX5_oddsOf (wsX7_at) := ggX5_oddsOf_X7_at
theorem dX5_oddsOf_0 : decode cX5_oddsOf 0 = .ok (.iload_n 2, 1) := by decide +kernel
theorem dX5_oddsOf_1 : decode cX5_oddsOf 1 = .ok (.iconst 5, 1) := by decide +kernel
theorem dX5_oddsOf_2 : decode cX5_oddsOf 2 = .ok (.aload_n 0, 1) := by decide +kernel
theorem dX5_oddsOf_3 : decode cX5_oddsOf 3 = .ok (.getfield 9, 3) := by decide +kernel
theorem dX5_oddsOf_6 : decode cX5_oddsOf 6 = .ok (.iconst 5, 1) := by decide +kernel
theorem dX5_oddsOf_7 : decode cX5_oddsOf 7 = .ok (.invokestatic 59, 3) := by decide +kernel
theorem dX5_oddsOf_10 : decode cX5_oddsOf 10 = .ok (.imul, 1) := by decide +kernel
theorem dX5_oddsOf_11 : decode cX5_oddsOf 11 = .ok (.iadd, 1) := by decide +kernel
theorem dX5_oddsOf_12 : decode cX5_oddsOf 12 = .ok (.aload_n 0, 1) := by decide +kernel
theorem dX5_oddsOf_13 : decode cX5_oddsOf 13 = .ok (.getfield 18, 3) := by decide +kernel
theorem dX5_oddsOf_16 : decode cX5_oddsOf 16 = .ok (.iload_n 1, 1) := by decide +kernel
theorem dX5_oddsOf_17 : decode cX5_oddsOf 17 = .ok (.invokestatic 59, 3) := by decide +kernel
theorem dX5_oddsOf_20 : decode cX5_oddsOf 20 = .ok (.isub, 1) := by decide +kernel
theorem dX5_oddsOf_21 : decode cX5_oddsOf 21 = .ok (.istore_n 3, 1) := by decide +kernel
theorem dX5_oddsOf_22 : decode cX5_oddsOf 22 = .ok (.iconst 0, 1) := by decide +kernel
theorem dX5_oddsOf_23 : decode cX5_oddsOf 23 = .ok (.bipush 10, 2) := by decide +kernel
theorem dX5_oddsOf_25 : decode cX5_oddsOf 25 = .ok (.iload_n 3, 1) := by decide +kernel
theorem dX5_oddsOf_26 : decode cX5_oddsOf 26 = .ok (.iconst 2, 1) := by decide +kernel
theorem dX5_oddsOf_27 : decode cX5_oddsOf 27 = .ok (.idiv, 1) := by decide +kernel
theorem dX5_oddsOf_28 : decode cX5_oddsOf 28 = .ok (.invokestatic 67, 3) := by decide +kernel
theorem dX5_oddsOf_31 : decode cX5_oddsOf 31 = .ok (.invokestatic 73, 3) := by decide +kernel
theorem dX5_oddsOf_34 : decode cX5_oddsOf 34 = .ok (.ireturn, 1) := by decide +kernel
set_option maxRecDepth 20000 in
theorem ggX5_prideOf_X7_at : GoodIn wsX5_prideOf wsX7_at := goodIn_r _ [4] (by decide +kernel) (by decide +kernel)
set_option maxRecDepth 20000 in
theorem gX5_prideOf_X7_at_n59 : GoodIn wsX5_prideOf (wsX7_at) := ggX5_prideOf_X7_at
theorem dX5_prideOf_0 : decode cX5_prideOf 0 = .ok (.aload_n 0, 1) := by decide +kernel
theorem dX5_prideOf_1 : decode cX5_prideOf 1 = .ok (.getfield 24, 3) := by decide +kernel
theorem dX5_prideOf_4 : decode cX5_prideOf 4 = .ok (.iload_n 1, 1) := by decide +kernel
theorem dX5_prideOf_5 : decode cX5_prideOf 5 = .ok (.invokestatic 59, 3) := by decide +kernel
theorem dX5_prideOf_8 : decode cX5_prideOf 8 = .ok (.ireturn, 1) := by decide +kernel
set_option maxRecDepth 20000 in
theorem ggX5_worthDone_X7_at : GoodIn wsX5_worthDone wsX7_at := goodIn_r _ [5] (by decide +kernel) (by decide +kernel)
set_option maxRecDepth 20000 in
theorem gX5_worthDone_X7_at_n59 : GoodIn wsX5_worthDone (wsX7_at) := ggX5_worthDone_X7_at
set_option maxRecDepth 20000 in
theorem ggX5_worthDone_X5_oddsOf : GoodIn wsX5_worthDone wsX5_oddsOf := goodIn_r _ [10, 1, 11, 12, 13, 14, 15, 16, 17, 18, 3, 4, 5, 19, 20, 21, 22, 23, 24, 25, 26, 27, 28, 29, 30, 31] (by decide +kernel) (by decide +kernel)
set_option maxRecDepth 20000 in
theorem gX5_worthDone_X5_oddsOf : GoodIn wsX5_worthDone (wsV RX5 76 RX5 yX5_oddsOf wsX5_oddsOf) := goodIn_app (goodIn_of _ (by decide +kernel)) ggX5_worthDone_X5_oddsOf
theorem dX5_worthDone_0 : decode cX5_worthDone 0 = .ok (.aload_n 0, 1) := by decide +kernel
theorem dX5_worthDone_1 : decode cX5_worthDone 1 = .ok (.getfield 9, 3) := by decide +kernel
theorem dX5_worthDone_4 : decode cX5_worthDone 4 = .ok (.iconst 2, 1) := by decide +kernel
theorem dX5_worthDone_5 : decode cX5_worthDone 5 = .ok (.invokestatic 59, 3) := by decide +kernel
theorem dX5_worthDone_8 : decode cX5_worthDone 8 = .ok (.aload_n 0, 1) := by decide +kernel
theorem dX5_worthDone_9 : decode cX5_worthDone 9 = .ok (.getfield 21, 3) := by decide +kernel
theorem dX5_worthDone_12 : decode cX5_worthDone 12 = .ok (.iload_n 1, 1) := by decide +kernel
theorem dX5_worthDone_13 : decode cX5_worthDone 13 = .ok (.invokestatic 59, 3) := by decide +kernel
theorem dX5_worthDone_16 : decode cX5_worthDone 16 = .ok (.iload_n 2, 1) := by decide +kernel
theorem dX5_worthDone_17 : decode cX5_worthDone 17 = .ok (.imul, 1) := by decide +kernel
theorem dX5_worthDone_18 : decode cX5_worthDone 18 = .ok (.iadd, 1) := by decide +kernel
theorem dX5_worthDone_19 : decode cX5_worthDone 19 = .ok (.istore 4, 2) := by decide +kernel
theorem dX5_worthDone_21 : decode cX5_worthDone 21 = .ok (.bipush 10, 2) := by decide +kernel
theorem dX5_worthDone_23 : decode cX5_worthDone 23 = .ok (.iload_n 3, 1) := by decide +kernel
theorem dX5_worthDone_24 : decode cX5_worthDone 24 = .ok (.imul, 1) := by decide +kernel
theorem dX5_worthDone_25 : decode cX5_worthDone 25 = .ok (.iload_n 2, 1) := by decide +kernel
theorem dX5_worthDone_26 : decode cX5_worthDone 26 = .ok (.imul, 1) := by decide +kernel
theorem dX5_worthDone_27 : decode cX5_worthDone 27 = .ok (.aload_n 0, 1) := by decide +kernel
theorem dX5_worthDone_28 : decode cX5_worthDone 28 = .ok (.iload_n 1, 1) := by decide +kernel
theorem dX5_worthDone_29 : decode cX5_worthDone 29 = .ok (.iload_n 2, 1) := by decide +kernel
theorem dX5_worthDone_30 : decode cX5_worthDone 30 = .ok (.invokevirtual 76, 3) := by decide +kernel
theorem dX5_worthDone_33 : decode cX5_worthDone 33 = .ok (.iload 4, 2) := by decide +kernel
theorem dX5_worthDone_35 : decode cX5_worthDone 35 = .ok (.imul, 1) := by decide +kernel
theorem dX5_worthDone_36 : decode cX5_worthDone 36 = .ok (.isub, 1) := by decide +kernel
theorem dX5_worthDone_37 : decode cX5_worthDone 37 = .ok (.ireturn, 1) := by decide +kernel
theorem dX5_worthRefused_0 : decode cX5_worthRefused 0 = .ok (.bipush (-10), 2) := by decide +kernel
theorem dX5_worthRefused_2 : decode cX5_worthRefused 2 = .ok (.iload_n 1, 1) := by decide +kernel
theorem dX5_worthRefused_3 : decode cX5_worthRefused 3 = .ok (.imul, 1) := by decide +kernel
theorem dX5_worthRefused_4 : decode cX5_worthRefused 4 = .ok (.iload_n 0, 1) := by decide +kernel
theorem dX5_worthRefused_5 : decode cX5_worthRefused 5 = .ok (.iconst 2, 1) := by decide +kernel
theorem dX5_worthRefused_6 : decode cX5_worthRefused 6 = .ok (.idiv, 1) := by decide +kernel
theorem dX5_worthRefused_7 : decode cX5_worthRefused 7 = .ok (.imul, 1) := by decide +kernel
theorem dX5_worthRefused_8 : decode cX5_worthRefused 8 = .ok (.ireturn, 1) := by decide +kernel
set_option maxRecDepth 20000 in
theorem ggX5_dares_X5_worthDone : GoodIn wsX5_dares wsX5_worthDone := goodIn_r _ [5, 6, 7, 8, 9, 10, 11, 12, 13, 4, 14, 15, 16, 17, 18, 19, 20, 21, 22, 26, 27, 28, 29, 30, 31, 32, 33, 34, 35, 36, 37, 38] (by decide +kernel) (by decide +kernel)
set_option maxRecDepth 20000 in
theorem gX5_dares_X5_worthDone : GoodIn wsX5_dares (wsV RX5 79 RX5 yX5_worthDone wsX5_worthDone) := goodIn_app (goodIn_of _ (by decide +kernel)) ggX5_dares_X5_worthDone
set_option maxRecDepth 20000 in
theorem ggX5_dares_X5_worthRefused : GoodIn wsX5_dares wsX5_worthRefused := goodIn_r _ [25] (by decide +kernel) (by decide +kernel)
set_option maxRecDepth 20000 in
theorem gX5_dares_X5_worthRefused : GoodIn wsX5_dares (va_wsS RX5 83 yX5_worthRefused wsX5_worthRefused) := goodIn_app (goodIn_of _ (by decide +kernel)) ggX5_dares_X5_worthRefused
theorem dX5_dares_0 : decode cX5_dares 0 = .ok (.aload_n 0, 1) := by decide +kernel
theorem dX5_dares_1 : decode cX5_dares 1 = .ok (.iload_n 1, 1) := by decide +kernel
theorem dX5_dares_2 : decode cX5_dares 2 = .ok (.iload_n 2, 1) := by decide +kernel
theorem dX5_dares_3 : decode cX5_dares 3 = .ok (.iload_n 3, 1) := by decide +kernel
theorem dX5_dares_4 : decode cX5_dares 4 = .ok (.invokevirtual 79, 3) := by decide +kernel
theorem dX5_dares_7 : decode cX5_dares 7 = .ok (.iload_n 2, 1) := by decide +kernel
theorem dX5_dares_8 : decode cX5_dares 8 = .ok (.iload_n 3, 1) := by decide +kernel
theorem dX5_dares_9 : decode cX5_dares 9 = .ok (.invokestatic 83, 3) := by decide +kernel
theorem dX5_dares_12 : decode cX5_dares 12 = .ok (.if_icmp .lt 7, 3) := by decide +kernel
theorem dX5_dares_15 : decode cX5_dares 15 = .ok (.iconst 1, 1) := by decide +kernel
theorem dX5_dares_16 : decode cX5_dares 16 = .ok (.goto 4, 3) := by decide +kernel
theorem dX5_dares_19 : decode cX5_dares 19 = .ok (.iconst 0, 1) := by decide +kernel
theorem dX5_dares_20 : decode cX5_dares 20 = .ok (.ireturn, 1) := by decide +kernel
set_option maxRecDepth 20000 in
theorem ggX5_leastRefused_X7_at : GoodIn wsX5_leastRefused wsX7_at := goodIn_r _ [4] (by decide +kernel) (by decide +kernel)
set_option maxRecDepth 20000 in
theorem gX5_leastRefused_X7_at_n59 : GoodIn wsX5_leastRefused (wsX7_at) := ggX5_leastRefused_X7_at
set_option maxRecDepth 20000 in
theorem ggX5_leastRefused_X5_dares : GoodIn wsX5_leastRefused wsX5_dares := goodIn_r _ [9, 10, 11, 12, 8, 13, 14, 15, 2, 3, 4, 16, 17, 18, 19, 20, 21, 22, 23, 24, 25, 26, 27, 28, 29, 30, 31, 32, 33, 34, 35, 36, 37, 38, 39, 40, 41, 42, 43] (by decide +kernel) (by decide +kernel)
set_option maxRecDepth 20000 in
theorem gX5_leastRefused_X5_dares : GoodIn wsX5_leastRefused (wsV RX5 86 RX5 yX5_dares wsX5_dares) := goodIn_app (goodIn_of _ (by decide +kernel)) ggX5_leastRefused_X5_dares
theorem dX5_leastRefused_0 : decode cX5_leastRefused 0 = .ok (.iconst 1, 1) := by decide +kernel
theorem dX5_leastRefused_1 : decode cX5_leastRefused 1 = .ok (.istore_n 2, 1) := by decide +kernel
theorem dX5_leastRefused_2 : decode cX5_leastRefused 2 = .ok (.iload_n 2, 1) := by decide +kernel
theorem dX5_leastRefused_3 : decode cX5_leastRefused 3 = .ok (.bipush 15, 2) := by decide +kernel
theorem dX5_leastRefused_5 : decode cX5_leastRefused 5 = .ok (.if_icmp .gt 28, 3) := by decide +kernel
theorem dX5_leastRefused_8 : decode cX5_leastRefused 8 = .ok (.aload_n 0, 1) := by decide +kernel
theorem dX5_leastRefused_9 : decode cX5_leastRefused 9 = .ok (.iload_n 1, 1) := by decide +kernel
theorem dX5_leastRefused_10 : decode cX5_leastRefused 10 = .ok (.iload_n 2, 1) := by decide +kernel
theorem dX5_leastRefused_11 : decode cX5_leastRefused 11 = .ok (.aload_n 0, 1) := by decide +kernel
theorem dX5_leastRefused_12 : decode cX5_leastRefused 12 = .ok (.getfield 24, 3) := by decide +kernel
theorem dX5_leastRefused_15 : decode cX5_leastRefused 15 = .ok (.iload_n 1, 1) := by decide +kernel
theorem dX5_leastRefused_16 : decode cX5_leastRefused 16 = .ok (.invokestatic 59, 3) := by decide +kernel
theorem dX5_leastRefused_19 : decode cX5_leastRefused 19 = .ok (.invokevirtual 86, 3) := by decide +kernel
theorem dX5_leastRefused_22 : decode cX5_leastRefused 22 = .ok (.ifCond .ne 5, 3) := by decide +kernel
theorem dX5_leastRefused_25 : decode cX5_leastRefused 25 = .ok (.iload_n 2, 1) := by decide +kernel
theorem dX5_leastRefused_26 : decode cX5_leastRefused 26 = .ok (.ireturn, 1) := by decide +kernel
theorem dX5_leastRefused_27 : decode cX5_leastRefused 27 = .ok (.iinc 2 1, 3) := by decide +kernel
theorem dX5_leastRefused_30 : decode cX5_leastRefused 30 = .ok (.goto (-28), 3) := by decide +kernel
theorem dX5_leastRefused_33 : decode cX5_leastRefused 33 = .ok (.bipush 16, 2) := by decide +kernel
theorem dX5_leastRefused_35 : decode cX5_leastRefused 35 = .ok (.ireturn, 1) := by decide +kernel
set_option maxRecDepth 20000 in
theorem ggX5_surest_X5_oddsOf : GoodIn wsX5_surest wsX5_oddsOf := goodIn_r _ [5, 6, 7, 8, 9, 10, 11, 12, 13, 14, 15, 16, 17, 18, 19, 20, 21, 22, 23, 24, 25, 26, 27, 28, 29, 30] (by decide +kernel) (by decide +kernel)
set_option maxRecDepth 20000 in
theorem gX5_surest_X5_oddsOf : GoodIn wsX5_surest (wsV RX5 76 RX5 yX5_oddsOf wsX5_oddsOf) := goodIn_app (goodIn_of _ (by decide +kernel)) ggX5_surest_X5_oddsOf
theorem dX5_surest_0 : decode cX5_surest 0 = .ok (.bipush 15, 2) := by decide +kernel
theorem dX5_surest_2 : decode cX5_surest 2 = .ok (.istore_n 2, 1) := by decide +kernel
theorem dX5_surest_3 : decode cX5_surest 3 = .ok (.iload_n 2, 1) := by decide +kernel
theorem dX5_surest_4 : decode cX5_surest 4 = .ok (.iconst 1, 1) := by decide +kernel
theorem dX5_surest_5 : decode cX5_surest 5 = .ok (.if_icmp .lt 20, 3) := by decide +kernel
theorem dX5_surest_8 : decode cX5_surest 8 = .ok (.aload_n 0, 1) := by decide +kernel
theorem dX5_surest_9 : decode cX5_surest 9 = .ok (.iload_n 1, 1) := by decide +kernel
theorem dX5_surest_10 : decode cX5_surest 10 = .ok (.iload_n 2, 1) := by decide +kernel
theorem dX5_surest_11 : decode cX5_surest 11 = .ok (.invokevirtual 76, 3) := by decide +kernel
theorem dX5_surest_14 : decode cX5_surest 14 = .ok (.ifCond .ne 5, 3) := by decide +kernel
theorem dX5_surest_17 : decode cX5_surest 17 = .ok (.iload_n 2, 1) := by decide +kernel
theorem dX5_surest_18 : decode cX5_surest 18 = .ok (.ireturn, 1) := by decide +kernel
theorem dX5_surest_19 : decode cX5_surest 19 = .ok (.iinc 2 (-1), 3) := by decide +kernel
theorem dX5_surest_22 : decode cX5_surest 22 = .ok (.goto (-19), 3) := by decide +kernel
theorem dX5_surest_25 : decode cX5_surest 25 = .ok (.iconst 0, 1) := by decide +kernel
theorem dX5_surest_26 : decode cX5_surest 26 = .ok (.ireturn, 1) := by decide +kernel
set_option maxRecDepth 20000 in
theorem ggX5_whyNot_X5_isThere : GoodIn wsX5_whyNot wsX5_isThere := goodIn_r _ [8, 9, 10, 11, 12, 13, 14, 15, 16, 17, 18, 19, 20, 21, 22, 23, 24, 25] (by decide +kernel) (by decide +kernel)
set_option maxRecDepth 20000 in
theorem gX5_whyNot_X5_isThere : GoodIn wsX5_whyNot (wsV RX5 90 RX5 yX5_isThere wsX5_isThere) := goodIn_app (goodIn_of _ (by decide +kernel)) ggX5_whyNot_X5_isThere
set_option maxRecDepth 20000 in
theorem ggX5_whyNot_X7_at : GoodIn wsX5_whyNot wsX7_at := goodIn_r _ [12] (by decide +kernel) (by decide +kernel)
set_option maxRecDepth 20000 in
theorem gX5_whyNot_X7_at_n59 : GoodIn wsX5_whyNot (wsX7_at) := ggX5_whyNot_X7_at
theorem dX5_whyNot_0 : decode cX5_whyNot 0 = .ok (.aload_n 0, 1) := by decide +kernel
theorem dX5_whyNot_1 : decode cX5_whyNot 1 = .ok (.iload_n 1, 1) := by decide +kernel
theorem dX5_whyNot_2 : decode cX5_whyNot 2 = .ok (.invokevirtual 90, 3) := by decide +kernel
theorem dX5_whyNot_5 : decode cX5_whyNot 5 = .ok (.ifCond .eq 16, 3) := by decide +kernel
theorem dX5_whyNot_8 : decode cX5_whyNot 8 = .ok (.aload_n 0, 1) := by decide +kernel
theorem dX5_whyNot_9 : decode cX5_whyNot 9 = .ok (.iload_n 2, 1) := by decide +kernel
theorem dX5_whyNot_10 : decode cX5_whyNot 10 = .ok (.invokevirtual 90, 3) := by decide +kernel
theorem dX5_whyNot_13 : decode cX5_whyNot 13 = .ok (.ifCond .eq 8, 3) := by decide +kernel
theorem dX5_whyNot_16 : decode cX5_whyNot 16 = .ok (.iload_n 1, 1) := by decide +kernel
theorem dX5_whyNot_17 : decode cX5_whyNot 17 = .ok (.iload_n 2, 1) := by decide +kernel
theorem dX5_whyNot_18 : decode cX5_whyNot 18 = .ok (.if_icmp .ne 5, 3) := by decide +kernel
theorem dX5_whyNot_21 : decode cX5_whyNot 21 = .ok (.iconst 1, 1) := by decide +kernel
theorem dX5_whyNot_22 : decode cX5_whyNot 22 = .ok (.ireturn, 1) := by decide +kernel
theorem dX5_whyNot_23 : decode cX5_whyNot 23 = .ok (.aload_n 0, 1) := by decide +kernel
theorem dX5_whyNot_24 : decode cX5_whyNot 24 = .ok (.getfield 36, 3) := by decide +kernel
theorem dX5_whyNot_27 : decode cX5_whyNot 27 = .ok (.iload_n 1, 1) := by decide +kernel
theorem dX5_whyNot_28 : decode cX5_whyNot 28 = .ok (.invokestatic 59, 3) := by decide +kernel
theorem dX5_whyNot_31 : decode cX5_whyNot 31 = .ok (.ifCond .gt 14, 3) := by decide +kernel
theorem dX5_whyNot_34 : decode cX5_whyNot 34 = .ok (.aload_n 0, 1) := by decide +kernel
theorem dX5_whyNot_35 : decode cX5_whyNot 35 = .ok (.getfield 36, 3) := by decide +kernel
theorem dX5_whyNot_38 : decode cX5_whyNot 38 = .ok (.iload_n 2, 1) := by decide +kernel
theorem dX5_whyNot_39 : decode cX5_whyNot 39 = .ok (.invokestatic 59, 3) := by decide +kernel
theorem dX5_whyNot_42 : decode cX5_whyNot 42 = .ok (.ifCond .le 5, 3) := by decide +kernel
theorem dX5_whyNot_45 : decode cX5_whyNot 45 = .ok (.iconst 2, 1) := by decide +kernel
theorem dX5_whyNot_46 : decode cX5_whyNot 46 = .ok (.ireturn, 1) := by decide +kernel
theorem dX5_whyNot_47 : decode cX5_whyNot 47 = .ok (.iload_n 3, 1) := by decide +kernel
theorem dX5_whyNot_48 : decode cX5_whyNot 48 = .ok (.aload_n 0, 1) := by decide +kernel
theorem dX5_whyNot_49 : decode cX5_whyNot 49 = .ok (.getfield 30, 3) := by decide +kernel
theorem dX5_whyNot_52 : decode cX5_whyNot 52 = .ok (.iload_n 1, 1) := by decide +kernel
theorem dX5_whyNot_53 : decode cX5_whyNot 53 = .ok (.invokestatic 59, 3) := by decide +kernel
theorem dX5_whyNot_56 : decode cX5_whyNot 56 = .ok (.aload_n 0, 1) := by decide +kernel
theorem dX5_whyNot_57 : decode cX5_whyNot 57 = .ok (.getfield 9, 3) := by decide +kernel
theorem dX5_whyNot_60 : decode cX5_whyNot 60 = .ok (.iconst 0, 1) := by decide +kernel
theorem dX5_whyNot_61 : decode cX5_whyNot 61 = .ok (.invokestatic 59, 3) := by decide +kernel
theorem dX5_whyNot_64 : decode cX5_whyNot 64 = .ok (.iadd, 1) := by decide +kernel
theorem dX5_whyNot_65 : decode cX5_whyNot 65 = .ok (.if_icmp .le 5, 3) := by decide +kernel
theorem dX5_whyNot_68 : decode cX5_whyNot 68 = .ok (.iconst 3, 1) := by decide +kernel
theorem dX5_whyNot_69 : decode cX5_whyNot 69 = .ok (.ireturn, 1) := by decide +kernel
theorem dX5_whyNot_70 : decode cX5_whyNot 70 = .ok (.iload_n 3, 1) := by decide +kernel
theorem dX5_whyNot_71 : decode cX5_whyNot 71 = .ok (.aload_n 0, 1) := by decide +kernel
theorem dX5_whyNot_72 : decode cX5_whyNot 72 = .ok (.getfield 30, 3) := by decide +kernel
theorem dX5_whyNot_75 : decode cX5_whyNot 75 = .ok (.iload_n 2, 1) := by decide +kernel
theorem dX5_whyNot_76 : decode cX5_whyNot 76 = .ok (.invokestatic 59, 3) := by decide +kernel
theorem dX5_whyNot_79 : decode cX5_whyNot 79 = .ok (.if_icmp .gt 7, 3) := by decide +kernel
theorem dX5_whyNot_82 : decode cX5_whyNot 82 = .ok (.iconst 4, 1) := by decide +kernel
theorem dX5_whyNot_83 : decode cX5_whyNot 83 = .ok (.goto 4, 3) := by decide +kernel
theorem dX5_whyNot_86 : decode cX5_whyNot 86 = .ok (.iconst 0, 1) := by decide +kernel
theorem dX5_whyNot_87 : decode cX5_whyNot 87 = .ok (.ireturn, 1) := by decide +kernel
set_option maxRecDepth 20000 in
theorem ggX5_perform_X7_at : GoodIn wsX5_perform wsX7_at := goodIn_r _ [11] (by decide +kernel) (by decide +kernel)
set_option maxRecDepth 20000 in
theorem gX5_perform_X7_at_n59 : GoodIn wsX5_perform (wsX7_at) := ggX5_perform_X7_at
set_option maxRecDepth 20000 in
theorem ggX5_perform_X7_put : GoodIn wsX5_perform wsX7_put := goodIn_r _ [13] (by decide +kernel) (by decide +kernel)
set_option maxRecDepth 20000 in
theorem gX5_perform_X7_put_n63 : GoodIn wsX5_perform (wsX7_put) := ggX5_perform_X7_put
set_option maxRecDepth 20000 in
theorem ggX5_perform_X7_drawAfter : GoodIn wsX5_perform wsX7_drawAfter := goodIn_r _ [15, 16] (by decide +kernel) (by decide +kernel)
set_option maxRecDepth 20000 in
theorem gX5_perform_X7_drawAfter_n94 : GoodIn wsX5_perform (wsX7_drawAfter) := ggX5_perform_X7_drawAfter
set_option maxRecDepth 20000 in
theorem ggX5_perform_X5_oddsOf : GoodIn wsX5_perform wsX5_oddsOf := goodIn_r _ [21, 7, 22, 23, 24, 4, 25, 2, 3, 5, 9, 10, 11, 26, 27, 28, 29, 30, 31, 32, 33, 34, 35, 36, 37, 38] (by decide +kernel) (by decide +kernel)
set_option maxRecDepth 20000 in
theorem gX5_perform_X5_oddsOf : GoodIn wsX5_perform (wsV RX5 76 RX5 yX5_oddsOf wsX5_oddsOf) := goodIn_app (goodIn_of _ (by decide +kernel)) ggX5_perform_X5_oddsOf
theorem dX5_perform_0 : decode cX5_perform 0 = .ok (.aload_n 0, 1) := by decide +kernel
theorem dX5_perform_1 : decode cX5_perform 1 = .ok (.getfield 30, 3) := by decide +kernel
theorem dX5_perform_4 : decode cX5_perform 4 = .ok (.iload_n 1, 1) := by decide +kernel
theorem dX5_perform_5 : decode cX5_perform 5 = .ok (.aload_n 0, 1) := by decide +kernel
theorem dX5_perform_6 : decode cX5_perform 6 = .ok (.getfield 30, 3) := by decide +kernel
theorem dX5_perform_9 : decode cX5_perform 9 = .ok (.iload_n 1, 1) := by decide +kernel
theorem dX5_perform_10 : decode cX5_perform 10 = .ok (.invokestatic 59, 3) := by decide +kernel
theorem dX5_perform_13 : decode cX5_perform 13 = .ok (.iload_n 2, 1) := by decide +kernel
theorem dX5_perform_14 : decode cX5_perform 14 = .ok (.invokestatic 73, 3) := by decide +kernel
theorem dX5_perform_17 : decode cX5_perform 17 = .ok (.invokestatic 63, 3) := by decide +kernel
theorem dX5_perform_20 : decode cX5_perform 20 = .ok (.aload_n 0, 1) := by decide +kernel
theorem dX5_perform_21 : decode cX5_perform 21 = .ok (.getfield 33, 3) := by decide +kernel
theorem dX5_perform_24 : decode cX5_perform 24 = .ok (.iload_n 1, 1) := by decide +kernel
theorem dX5_perform_25 : decode cX5_perform 25 = .ok (.aload_n 0, 1) := by decide +kernel
theorem dX5_perform_26 : decode cX5_perform 26 = .ok (.getfield 33, 3) := by decide +kernel
theorem dX5_perform_29 : decode cX5_perform 29 = .ok (.iload_n 1, 1) := by decide +kernel
theorem dX5_perform_30 : decode cX5_perform 30 = .ok (.invokestatic 59, 3) := by decide +kernel
theorem dX5_perform_33 : decode cX5_perform 33 = .ok (.iload_n 2, 1) := by decide +kernel
theorem dX5_perform_34 : decode cX5_perform 34 = .ok (.iadd, 1) := by decide +kernel
theorem dX5_perform_35 : decode cX5_perform 35 = .ok (.invokestatic 63, 3) := by decide +kernel
theorem dX5_perform_38 : decode cX5_perform 38 = .ok (.aload_n 0, 1) := by decide +kernel
theorem dX5_perform_39 : decode cX5_perform 39 = .ok (.getfield 9, 3) := by decide +kernel
theorem dX5_perform_42 : decode cX5_perform 42 = .ok (.bipush 6, 2) := by decide +kernel
theorem dX5_perform_44 : decode cX5_perform 44 = .ok (.invokestatic 59, 3) := by decide +kernel
theorem dX5_perform_47 : decode cX5_perform 47 = .ok (.invokestatic 94, 3) := by decide +kernel
theorem dX5_perform_50 : decode cX5_perform 50 = .ok (.istore_n 3, 1) := by decide +kernel
theorem dX5_perform_51 : decode cX5_perform 51 = .ok (.aload_n 0, 1) := by decide +kernel
theorem dX5_perform_52 : decode cX5_perform 52 = .ok (.getfield 9, 3) := by decide +kernel
theorem dX5_perform_55 : decode cX5_perform 55 = .ok (.bipush 6, 2) := by decide +kernel
theorem dX5_perform_57 : decode cX5_perform 57 = .ok (.iload_n 3, 1) := by decide +kernel
theorem dX5_perform_58 : decode cX5_perform 58 = .ok (.invokestatic 63, 3) := by decide +kernel
theorem dX5_perform_61 : decode cX5_perform 61 = .ok (.iload_n 3, 1) := by decide +kernel
theorem dX5_perform_62 : decode cX5_perform 62 = .ok (.bipush 10, 2) := by decide +kernel
theorem dX5_perform_64 : decode cX5_perform 64 = .ok (.irem, 1) := by decide +kernel
theorem dX5_perform_65 : decode cX5_perform 65 = .ok (.aload_n 0, 1) := by decide +kernel
theorem dX5_perform_66 : decode cX5_perform 66 = .ok (.iload_n 1, 1) := by decide +kernel
theorem dX5_perform_67 : decode cX5_perform 67 = .ok (.iload_n 2, 1) := by decide +kernel
theorem dX5_perform_68 : decode cX5_perform 68 = .ok (.invokevirtual 76, 3) := by decide +kernel
theorem dX5_perform_71 : decode cX5_perform 71 = .ok (.if_icmp .lt 5, 3) := by decide +kernel
theorem dX5_perform_74 : decode cX5_perform 74 = .ok (.iconst 0, 1) := by decide +kernel
theorem dX5_perform_75 : decode cX5_perform 75 = .ok (.ireturn, 1) := by decide +kernel
theorem dX5_perform_76 : decode cX5_perform 76 = .ok (.aload_n 0, 1) := by decide +kernel
theorem dX5_perform_77 : decode cX5_perform 77 = .ok (.getfield 36, 3) := by decide +kernel
theorem dX5_perform_80 : decode cX5_perform 80 = .ok (.iload_n 1, 1) := by decide +kernel
theorem dX5_perform_81 : decode cX5_perform 81 = .ok (.aload_n 0, 1) := by decide +kernel
theorem dX5_perform_82 : decode cX5_perform 82 = .ok (.getfield 9, 3) := by decide +kernel
theorem dX5_perform_85 : decode cX5_perform 85 = .ok (.iconst 4, 1) := by decide +kernel
theorem dX5_perform_86 : decode cX5_perform 86 = .ok (.invokestatic 59, 3) := by decide +kernel
theorem dX5_perform_89 : decode cX5_perform 89 = .ok (.invokestatic 63, 3) := by decide +kernel
theorem dX5_perform_92 : decode cX5_perform 92 = .ok (.iconst 1, 1) := by decide +kernel
theorem dX5_perform_93 : decode cX5_perform 93 = .ok (.ireturn, 1) := by decide +kernel
set_option maxRecDepth 20000 in
theorem ggX5_refuse_X7_at : GoodIn wsX5_refuse wsX7_at := goodIn_r _ [4] (by decide +kernel) (by decide +kernel)
set_option maxRecDepth 20000 in
theorem gX5_refuse_X7_at_n59 : GoodIn wsX5_refuse (wsX7_at) := ggX5_refuse_X7_at
set_option maxRecDepth 20000 in
theorem ggX5_refuse_X7_put : GoodIn wsX5_refuse wsX7_put := goodIn_r _ [6] (by decide +kernel) (by decide +kernel)
set_option maxRecDepth 20000 in
theorem gX5_refuse_X7_put_n63 : GoodIn wsX5_refuse (wsX7_put) := ggX5_refuse_X7_put
theorem dX5_refuse_0 : decode cX5_refuse 0 = .ok (.aload_n 0, 1) := by decide +kernel
theorem dX5_refuse_1 : decode cX5_refuse 1 = .ok (.getfield 33, 3) := by decide +kernel
theorem dX5_refuse_4 : decode cX5_refuse 4 = .ok (.iload_n 1, 1) := by decide +kernel
theorem dX5_refuse_5 : decode cX5_refuse 5 = .ok (.aload_n 0, 1) := by decide +kernel
theorem dX5_refuse_6 : decode cX5_refuse 6 = .ok (.getfield 33, 3) := by decide +kernel
theorem dX5_refuse_9 : decode cX5_refuse 9 = .ok (.iload_n 1, 1) := by decide +kernel
theorem dX5_refuse_10 : decode cX5_refuse 10 = .ok (.invokestatic 59, 3) := by decide +kernel
theorem dX5_refuse_13 : decode cX5_refuse 13 = .ok (.iload_n 2, 1) := by decide +kernel
theorem dX5_refuse_14 : decode cX5_refuse 14 = .ok (.iconst 2, 1) := by decide +kernel
theorem dX5_refuse_15 : decode cX5_refuse 15 = .ok (.idiv, 1) := by decide +kernel
theorem dX5_refuse_16 : decode cX5_refuse 16 = .ok (.isub, 1) := by decide +kernel
theorem dX5_refuse_17 : decode cX5_refuse 17 = .ok (.invokestatic 63, 3) := by decide +kernel
theorem dX5_refuse_20 : decode cX5_refuse 20 = .ok (.return_, 1) := by decide +kernel
set_option maxRecDepth 20000 in
theorem ggX5_night_X7_at : GoodIn wsX5_night wsX7_at := goodIn_r _ [13] (by decide +kernel) (by decide +kernel)
set_option maxRecDepth 20000 in
theorem gX5_night_X7_at_n59 : GoodIn wsX5_night (wsX7_at) := ggX5_night_X7_at
set_option maxRecDepth 20000 in
theorem ggX5_night_X7_put : GoodIn wsX5_night wsX7_put := goodIn_r _ [15] (by decide +kernel) (by decide +kernel)
set_option maxRecDepth 20000 in
theorem gX5_night_X7_put_n63 : GoodIn wsX5_night (wsX7_put) := ggX5_night_X7_put
theorem dX5_night_0 : decode cX5_night 0 = .ok (.aload_n 0, 1) := by decide +kernel
theorem dX5_night_1 : decode cX5_night 1 = .ok (.getfield 9, 3) := by decide +kernel
theorem dX5_night_4 : decode cX5_night 4 = .ok (.iconst 3, 1) := by decide +kernel
theorem dX5_night_5 : decode cX5_night 5 = .ok (.invokestatic 59, 3) := by decide +kernel
theorem dX5_night_8 : decode cX5_night 8 = .ok (.istore_n 1, 1) := by decide +kernel
theorem dX5_night_9 : decode cX5_night 9 = .ok (.iconst 0, 1) := by decide +kernel
theorem dX5_night_10 : decode cX5_night 10 = .ok (.istore_n 2, 1) := by decide +kernel
theorem dX5_night_11 : decode cX5_night 11 = .ok (.iload_n 2, 1) := by decide +kernel
theorem dX5_night_12 : decode cX5_night 12 = .ok (.bipush 6, 2) := by decide +kernel
theorem dX5_night_14 : decode cX5_night 14 = .ok (.if_icmp .ge 69, 3) := by decide +kernel
theorem dX5_night_17 : decode cX5_night 17 = .ok (.aload_n 0, 1) := by decide +kernel
theorem dX5_night_18 : decode cX5_night 18 = .ok (.getfield 33, 3) := by decide +kernel
theorem dX5_night_21 : decode cX5_night 21 = .ok (.iload_n 2, 1) := by decide +kernel
theorem dX5_night_22 : decode cX5_night 22 = .ok (.invokestatic 59, 3) := by decide +kernel
theorem dX5_night_25 : decode cX5_night 25 = .ok (.istore_n 3, 1) := by decide +kernel
theorem dX5_night_26 : decode cX5_night 26 = .ok (.aload_n 0, 1) := by decide +kernel
theorem dX5_night_27 : decode cX5_night 27 = .ok (.getfield 33, 3) := by decide +kernel
theorem dX5_night_30 : decode cX5_night 30 = .ok (.iload_n 2, 1) := by decide +kernel
theorem dX5_night_31 : decode cX5_night 31 = .ok (.iload_n 3, 1) := by decide +kernel
theorem dX5_night_32 : decode cX5_night 32 = .ok (.ifCond .le 13, 3) := by decide +kernel
theorem dX5_night_35 : decode cX5_night 35 = .ok (.iconst 0, 1) := by decide +kernel
theorem dX5_night_36 : decode cX5_night 36 = .ok (.iload_n 3, 1) := by decide +kernel
theorem dX5_night_37 : decode cX5_night 37 = .ok (.iload_n 1, 1) := by decide +kernel
theorem dX5_night_38 : decode cX5_night 38 = .ok (.isub, 1) := by decide +kernel
theorem dX5_night_39 : decode cX5_night 39 = .ok (.invokestatic 73, 3) := by decide +kernel
theorem dX5_night_42 : decode cX5_night 42 = .ok (.goto 10, 3) := by decide +kernel
theorem dX5_night_45 : decode cX5_night 45 = .ok (.iconst 0, 1) := by decide +kernel
theorem dX5_night_46 : decode cX5_night 46 = .ok (.iload_n 3, 1) := by decide +kernel
theorem dX5_night_47 : decode cX5_night 47 = .ok (.iload_n 1, 1) := by decide +kernel
theorem dX5_night_48 : decode cX5_night 48 = .ok (.iadd, 1) := by decide +kernel
theorem dX5_night_49 : decode cX5_night 49 = .ok (.invokestatic 67, 3) := by decide +kernel
theorem dX5_night_52 : decode cX5_night 52 = .ok (.invokestatic 63, 3) := by decide +kernel
theorem dX5_night_55 : decode cX5_night 55 = .ok (.aload_n 0, 1) := by decide +kernel
theorem dX5_night_56 : decode cX5_night 56 = .ok (.getfield 36, 3) := by decide +kernel
theorem dX5_night_59 : decode cX5_night 59 = .ok (.iload_n 2, 1) := by decide +kernel
theorem dX5_night_60 : decode cX5_night 60 = .ok (.iconst 0, 1) := by decide +kernel
theorem dX5_night_61 : decode cX5_night 61 = .ok (.aload_n 0, 1) := by decide +kernel
theorem dX5_night_62 : decode cX5_night 62 = .ok (.getfield 36, 3) := by decide +kernel
theorem dX5_night_65 : decode cX5_night 65 = .ok (.iload_n 2, 1) := by decide +kernel
theorem dX5_night_66 : decode cX5_night 66 = .ok (.invokestatic 59, 3) := by decide +kernel
theorem dX5_night_69 : decode cX5_night 69 = .ok (.iconst 1, 1) := by decide +kernel
theorem dX5_night_70 : decode cX5_night 70 = .ok (.isub, 1) := by decide +kernel
theorem dX5_night_71 : decode cX5_night 71 = .ok (.invokestatic 73, 3) := by decide +kernel
theorem dX5_night_74 : decode cX5_night 74 = .ok (.invokestatic 63, 3) := by decide +kernel
theorem dX5_night_77 : decode cX5_night 77 = .ok (.iinc 2 1, 3) := by decide +kernel
theorem dX5_night_80 : decode cX5_night 80 = .ok (.goto (-69), 3) := by decide +kernel
theorem dX5_night_83 : decode cX5_night 83 = .ok (.return_, 1) := by decide +kernel
set_option maxRecDepth 20000 in
theorem ggX5_wouldRefuse_X5_isThere : GoodIn wsX5_wouldRefuse wsX5_isThere := goodIn_r _ [8, 9, 10, 11, 12, 38, 39, 40, 41, 42, 43, 44, 45, 46, 47, 48, 49, 50] (by decide +kernel) (by decide +kernel)
set_option maxRecDepth 20000 in
theorem gX5_wouldRefuse_X5_isThere : GoodIn wsX5_wouldRefuse (wsV RX5 90 RX5 yX5_isThere wsX5_isThere) := goodIn_app (goodIn_of _ (by decide +kernel)) ggX5_wouldRefuse_X5_isThere
set_option maxRecDepth 20000 in
theorem ggX5_wouldRefuse_X7_at : GoodIn wsX5_wouldRefuse wsX7_at := goodIn_r _ [12] (by decide +kernel) (by decide +kernel)
set_option maxRecDepth 20000 in
theorem gX5_wouldRefuse_X7_at_n59 : GoodIn wsX5_wouldRefuse (wsX7_at) := ggX5_wouldRefuse_X7_at
set_option maxRecDepth 20000 in
theorem ggX5_wouldRefuse_X5_dares : GoodIn wsX5_wouldRefuse wsX5_dares := goodIn_r _ [16, 17, 18, 19, 7, 20, 21, 22, 10, 11, 12, 23, 24, 25, 26, 27, 28, 29, 30, 31, 32, 33, 34, 35, 36, 37, 38, 39, 40, 41, 42, 43, 44, 45, 46, 47, 48, 49, 50] (by decide +kernel) (by decide +kernel)
set_option maxRecDepth 20000 in
theorem gX5_wouldRefuse_X5_dares : GoodIn wsX5_wouldRefuse (wsV RX5 86 RX5 yX5_dares wsX5_dares) := goodIn_app (goodIn_of _ (by decide +kernel)) ggX5_wouldRefuse_X5_dares
theorem dX5_wouldRefuse_0 : decode cX5_wouldRefuse 0 = .ok (.aload_n 0, 1) := by decide +kernel
theorem dX5_wouldRefuse_1 : decode cX5_wouldRefuse 1 = .ok (.iload_n 1, 1) := by decide +kernel
theorem dX5_wouldRefuse_2 : decode cX5_wouldRefuse 2 = .ok (.invokevirtual 90, 3) := by decide +kernel
theorem dX5_wouldRefuse_5 : decode cX5_wouldRefuse 5 = .ok (.ifCond .eq 47, 3) := by decide +kernel
theorem dX5_wouldRefuse_8 : decode cX5_wouldRefuse 8 = .ok (.aload_n 0, 1) := by decide +kernel
theorem dX5_wouldRefuse_9 : decode cX5_wouldRefuse 9 = .ok (.getfield 36, 3) := by decide +kernel
theorem dX5_wouldRefuse_12 : decode cX5_wouldRefuse 12 = .ok (.iload_n 1, 1) := by decide +kernel
theorem dX5_wouldRefuse_13 : decode cX5_wouldRefuse 13 = .ok (.invokestatic 59, 3) := by decide +kernel
theorem dX5_wouldRefuse_16 : decode cX5_wouldRefuse 16 = .ok (.ifCond .ne 36, 3) := by decide +kernel
theorem dX5_wouldRefuse_19 : decode cX5_wouldRefuse 19 = .ok (.aload_n 0, 1) := by decide +kernel
theorem dX5_wouldRefuse_20 : decode cX5_wouldRefuse 20 = .ok (.getfield 30, 3) := by decide +kernel
theorem dX5_wouldRefuse_23 : decode cX5_wouldRefuse 23 = .ok (.iload_n 1, 1) := by decide +kernel
theorem dX5_wouldRefuse_24 : decode cX5_wouldRefuse 24 = .ok (.invokestatic 59, 3) := by decide +kernel
theorem dX5_wouldRefuse_27 : decode cX5_wouldRefuse 27 = .ok (.iload_n 2, 1) := by decide +kernel
theorem dX5_wouldRefuse_28 : decode cX5_wouldRefuse 28 = .ok (.if_icmp .ge 24, 3) := by decide +kernel
theorem dX5_wouldRefuse_31 : decode cX5_wouldRefuse 31 = .ok (.aload_n 0, 1) := by decide +kernel
theorem dX5_wouldRefuse_32 : decode cX5_wouldRefuse 32 = .ok (.iload_n 1, 1) := by decide +kernel
theorem dX5_wouldRefuse_33 : decode cX5_wouldRefuse 33 = .ok (.iload_n 2, 1) := by decide +kernel
theorem dX5_wouldRefuse_34 : decode cX5_wouldRefuse 34 = .ok (.aload_n 0, 1) := by decide +kernel
theorem dX5_wouldRefuse_35 : decode cX5_wouldRefuse 35 = .ok (.getfield 24, 3) := by decide +kernel
theorem dX5_wouldRefuse_38 : decode cX5_wouldRefuse 38 = .ok (.iload_n 1, 1) := by decide +kernel
theorem dX5_wouldRefuse_39 : decode cX5_wouldRefuse 39 = .ok (.invokestatic 59, 3) := by decide +kernel
theorem dX5_wouldRefuse_42 : decode cX5_wouldRefuse 42 = .ok (.invokevirtual 86, 3) := by decide +kernel
theorem dX5_wouldRefuse_45 : decode cX5_wouldRefuse 45 = .ok (.ifCond .ne 7, 3) := by decide +kernel
theorem dX5_wouldRefuse_48 : decode cX5_wouldRefuse 48 = .ok (.iconst 1, 1) := by decide +kernel
theorem dX5_wouldRefuse_49 : decode cX5_wouldRefuse 49 = .ok (.goto 4, 3) := by decide +kernel
theorem dX5_wouldRefuse_52 : decode cX5_wouldRefuse 52 = .ok (.iconst 0, 1) := by decide +kernel
theorem dX5_wouldRefuse_53 : decode cX5_wouldRefuse 53 = .ok (.ireturn, 1) := by decide +kernel
set_option maxRecDepth 20000 in
theorem ggX5_joined_X5_joinedInRound : GoodIn wsX5_joined wsX5_joinedInRound := goodIn_r _ [5, 6, 7, 8, 9, 10, 11, 12, 13, 14, 15, 16, 17, 4, 18, 19, 20, 21, 22, 23, 24, 25, 26, 27, 28, 29, 30, 31, 32, 33, 34, 35] (by decide +kernel) (by decide +kernel)
set_option maxRecDepth 20000 in
theorem gX5_joined_X5_joinedInRound : GoodIn wsX5_joined (wsV RX5 98 RX5 yX5_joinedInRound wsX5_joinedInRound) := goodIn_app (goodIn_of _ (by decide +kernel)) ggX5_joined_X5_joinedInRound
theorem dX5_joined_0 : decode cX5_joined 0 = .ok (.iload_n 1, 1) := by decide +kernel
theorem dX5_joined_1 : decode cX5_joined 1 = .ok (.istore_n 2, 1) := by decide +kernel
theorem dX5_joined_2 : decode cX5_joined 2 = .ok (.iconst 0, 1) := by decide +kernel
theorem dX5_joined_3 : decode cX5_joined 3 = .ok (.istore_n 3, 1) := by decide +kernel
theorem dX5_joined_4 : decode cX5_joined 4 = .ok (.iload_n 3, 1) := by decide +kernel
theorem dX5_joined_5 : decode cX5_joined 5 = .ok (.bipush 6, 2) := by decide +kernel
theorem dX5_joined_7 : decode cX5_joined 7 = .ok (.if_icmp .ge 15, 3) := by decide +kernel
theorem dX5_joined_10 : decode cX5_joined 10 = .ok (.aload_n 0, 1) := by decide +kernel
theorem dX5_joined_11 : decode cX5_joined 11 = .ok (.iload_n 2, 1) := by decide +kernel
theorem dX5_joined_12 : decode cX5_joined 12 = .ok (.invokevirtual 98, 3) := by decide +kernel
theorem dX5_joined_15 : decode cX5_joined 15 = .ok (.istore_n 2, 1) := by decide +kernel
theorem dX5_joined_16 : decode cX5_joined 16 = .ok (.iinc 3 1, 3) := by decide +kernel
theorem dX5_joined_19 : decode cX5_joined 19 = .ok (.goto (-15), 3) := by decide +kernel
theorem dX5_joined_22 : decode cX5_joined 22 = .ok (.iload_n 2, 1) := by decide +kernel
theorem dX5_joined_23 : decode cX5_joined 23 = .ok (.ireturn, 1) := by decide +kernel
set_option maxRecDepth 20000 in
theorem ggX5_joinedInRound_J6_bitCount_0f7a4 : GoodIn wsX5_joinedInRound wsJ6_bitCount_0f7a4 := goodIn_r _ [6, 7, 8, 9] (by decide +kernel) (by decide +kernel)
set_option maxRecDepth 20000 in
theorem gX5_joinedInRound_J6_bitCount_0f7a4 : GoodIn wsX5_joinedInRound (va_wsS RX5 101 yJ6_bitCount_0f7a4 wsJ6_bitCount_0f7a4) := goodIn_app (goodIn_of _ (by decide +kernel)) ggX5_joinedInRound_J6_bitCount_0f7a4
set_option maxRecDepth 20000 in
theorem ggX5_joinedInRound_X5_isThere : GoodIn wsX5_joinedInRound wsX5_isThere := goodIn_r _ [14, 15, 16, 17, 18, 19, 20, 21, 22, 23, 24, 25, 26, 27, 28, 29, 30, 31] (by decide +kernel) (by decide +kernel)
set_option maxRecDepth 20000 in
theorem gX5_joinedInRound_X5_isThere : GoodIn wsX5_joinedInRound (wsV RX5 90 RX5 yX5_isThere wsX5_isThere) := goodIn_app (goodIn_of _ (by decide +kernel)) ggX5_joinedInRound_X5_isThere
set_option maxRecDepth 20000 in
theorem ggX5_joinedInRound_X7_at : GoodIn wsX5_joinedInRound wsX7_at := goodIn_r _ [18] (by decide +kernel) (by decide +kernel)
set_option maxRecDepth 20000 in
theorem gX5_joinedInRound_X7_at_n59 : GoodIn wsX5_joinedInRound (wsX7_at) := ggX5_joinedInRound_X7_at
theorem dX5_joinedInRound_0 : decode cX5_joinedInRound 0 = .ok (.iload_n 1, 1) := by decide +kernel
theorem dX5_joinedInRound_1 : decode cX5_joinedInRound 1 = .ok (.invokestatic 101, 3) := by decide +kernel
theorem dX5_joinedInRound_4 : decode cX5_joinedInRound 4 = .ok (.istore_n 2, 1) := by decide +kernel
theorem dX5_joinedInRound_5 : decode cX5_joinedInRound 5 = .ok (.iload_n 1, 1) := by decide +kernel
theorem dX5_joinedInRound_6 : decode cX5_joinedInRound 6 = .ok (.istore_n 3, 1) := by decide +kernel
theorem dX5_joinedInRound_7 : decode cX5_joinedInRound 7 = .ok (.iconst 0, 1) := by decide +kernel
theorem dX5_joinedInRound_8 : decode cX5_joinedInRound 8 = .ok (.istore 4, 2) := by decide +kernel
theorem dX5_joinedInRound_10 : decode cX5_joinedInRound 10 = .ok (.iload 4, 2) := by decide +kernel
theorem dX5_joinedInRound_12 : decode cX5_joinedInRound 12 = .ok (.bipush 6, 2) := by decide +kernel
theorem dX5_joinedInRound_14 : decode cX5_joinedInRound 14 = .ok (.if_icmp .ge 52, 3) := by decide +kernel
theorem dX5_joinedInRound_17 : decode cX5_joinedInRound 17 = .ok (.aload_n 0, 1) := by decide +kernel
theorem dX5_joinedInRound_18 : decode cX5_joinedInRound 18 = .ok (.iload 4, 2) := by decide +kernel
theorem dX5_joinedInRound_20 : decode cX5_joinedInRound 20 = .ok (.invokevirtual 90, 3) := by decide +kernel
theorem dX5_joinedInRound_23 : decode cX5_joinedInRound 23 = .ok (.ifCond .eq 37, 3) := by decide +kernel
theorem dX5_joinedInRound_26 : decode cX5_joinedInRound 26 = .ok (.aload_n 0, 1) := by decide +kernel
theorem dX5_joinedInRound_27 : decode cX5_joinedInRound 27 = .ok (.getfield 27, 3) := by decide +kernel
theorem dX5_joinedInRound_30 : decode cX5_joinedInRound 30 = .ok (.iload 4, 2) := by decide +kernel
theorem dX5_joinedInRound_32 : decode cX5_joinedInRound 32 = .ok (.invokestatic 59, 3) := by decide +kernel
theorem dX5_joinedInRound_35 : decode cX5_joinedInRound 35 = .ok (.ifCond .ne 25, 3) := by decide +kernel
theorem dX5_joinedInRound_38 : decode cX5_joinedInRound 38 = .ok (.aload_n 0, 1) := by decide +kernel
theorem dX5_joinedInRound_39 : decode cX5_joinedInRound 39 = .ok (.getfield 24, 3) := by decide +kernel
theorem dX5_joinedInRound_42 : decode cX5_joinedInRound 42 = .ok (.iload 4, 2) := by decide +kernel
theorem dX5_joinedInRound_44 : decode cX5_joinedInRound 44 = .ok (.invokestatic 59, 3) := by decide +kernel
theorem dX5_joinedInRound_47 : decode cX5_joinedInRound 47 = .ok (.iconst 2, 1) := by decide +kernel
theorem dX5_joinedInRound_48 : decode cX5_joinedInRound 48 = .ok (.idiv, 1) := by decide +kernel
theorem dX5_joinedInRound_49 : decode cX5_joinedInRound 49 = .ok (.iload_n 2, 1) := by decide +kernel
theorem dX5_joinedInRound_50 : decode cX5_joinedInRound 50 = .ok (.if_icmp .gt 10, 3) := by decide +kernel
theorem dX5_joinedInRound_53 : decode cX5_joinedInRound 53 = .ok (.iload_n 3, 1) := by decide +kernel
theorem dX5_joinedInRound_54 : decode cX5_joinedInRound 54 = .ok (.iconst 1, 1) := by decide +kernel
theorem dX5_joinedInRound_55 : decode cX5_joinedInRound 55 = .ok (.iload 4, 2) := by decide +kernel
theorem dX5_joinedInRound_57 : decode cX5_joinedInRound 57 = .ok (.ishl, 1) := by decide +kernel
theorem dX5_joinedInRound_58 : decode cX5_joinedInRound 58 = .ok (.ior, 1) := by decide +kernel
theorem dX5_joinedInRound_59 : decode cX5_joinedInRound 59 = .ok (.istore_n 3, 1) := by decide +kernel
theorem dX5_joinedInRound_60 : decode cX5_joinedInRound 60 = .ok (.iinc 4 1, 3) := by decide +kernel
theorem dX5_joinedInRound_63 : decode cX5_joinedInRound 63 = .ok (.goto (-53), 3) := by decide +kernel
theorem dX5_joinedInRound_66 : decode cX5_joinedInRound 66 = .ok (.iload_n 3, 1) := by decide +kernel
theorem dX5_joinedInRound_67 : decode cX5_joinedInRound 67 = .ok (.ireturn, 1) := by decide +kernel
set_option maxRecDepth 20000 in
theorem ggX5_isMost_J6_bitCount_0f7a4 : GoodIn wsX5_isMost wsJ6_bitCount_0f7a4 := goodIn_r _ [4, 5, 6, 7] (by decide +kernel) (by decide +kernel)
set_option maxRecDepth 20000 in
theorem gX5_isMost_J6_bitCount_0f7a4 : GoodIn wsX5_isMost (va_wsS RX5 101 yJ6_bitCount_0f7a4 wsJ6_bitCount_0f7a4) := goodIn_app (goodIn_of _ (by decide +kernel)) ggX5_isMost_J6_bitCount_0f7a4
set_option maxRecDepth 20000 in
theorem ggX5_isMost_X5_bits : GoodIn wsX5_isMost wsX5_bits := goodIn_r _ [12, 13, 14, 15, 16, 17, 18, 19, 20, 21, 22, 23, 24, 25, 26, 27, 28, 29] (by decide +kernel) (by decide +kernel)
set_option maxRecDepth 20000 in
theorem gX5_isMost_X5_bits : GoodIn wsX5_isMost (wsV RX5 106 RX5 yX5_bits wsX5_bits) := goodIn_app (goodIn_of _ (by decide +kernel)) ggX5_isMost_X5_bits
theorem dX5_isMost_0 : decode cX5_isMost 0 = .ok (.iconst 2, 1) := by decide +kernel
theorem dX5_isMost_1 : decode cX5_isMost 1 = .ok (.iload_n 1, 1) := by decide +kernel
theorem dX5_isMost_2 : decode cX5_isMost 2 = .ok (.invokestatic 101, 3) := by decide +kernel
theorem dX5_isMost_5 : decode cX5_isMost 5 = .ok (.imul, 1) := by decide +kernel
theorem dX5_isMost_6 : decode cX5_isMost 6 = .ok (.aload_n 0, 1) := by decide +kernel
theorem dX5_isMost_7 : decode cX5_isMost 7 = .ok (.invokevirtual 106, 3) := by decide +kernel
theorem dX5_isMost_10 : decode cX5_isMost 10 = .ok (.invokestatic 101, 3) := by decide +kernel
theorem dX5_isMost_13 : decode cX5_isMost 13 = .ok (.if_icmp .le 7, 3) := by decide +kernel
theorem dX5_isMost_16 : decode cX5_isMost 16 = .ok (.iconst 1, 1) := by decide +kernel
theorem dX5_isMost_17 : decode cX5_isMost 17 = .ok (.goto 4, 3) := by decide +kernel
theorem dX5_isMost_20 : decode cX5_isMost 20 = .ok (.iconst 0, 1) := by decide +kernel
theorem dX5_isMost_21 : decode cX5_isMost 21 = .ok (.ireturn, 1) := by decide +kernel
set_option maxRecDepth 20000 in
theorem ggX5_fewestToHold_X5_isThere : GoodIn wsX5_fewestToHold wsX5_isThere := goodIn_r _ [6, 7, 8, 9, 10, 35, 36, 37, 38, 39, 40, 41, 42, 43, 44, 45, 46, 47] (by decide +kernel) (by decide +kernel)
set_option maxRecDepth 20000 in
theorem gX5_fewestToHold_X5_isThere : GoodIn wsX5_fewestToHold (wsV RX5 90 RX5 yX5_isThere wsX5_isThere) := goodIn_app (goodIn_of _ (by decide +kernel)) ggX5_fewestToHold_X5_isThere
set_option maxRecDepth 20000 in
theorem ggX5_fewestToHold_X7_at : GoodIn wsX5_fewestToHold wsX7_at := goodIn_r _ [10] (by decide +kernel) (by decide +kernel)
set_option maxRecDepth 20000 in
theorem gX5_fewestToHold_X7_at_n59 : GoodIn wsX5_fewestToHold (wsX7_at) := ggX5_fewestToHold_X7_at
set_option maxRecDepth 20000 in
theorem ggX5_fewestToHold_J6_bitCount_0f7a4 : GoodIn wsX5_fewestToHold wsJ6_bitCount_0f7a4 := goodIn_r _ [14, 15, 16, 17] (by decide +kernel) (by decide +kernel)
set_option maxRecDepth 20000 in
theorem gX5_fewestToHold_J6_bitCount_0f7a4 : GoodIn wsX5_fewestToHold (va_wsS RX5 101 yJ6_bitCount_0f7a4 wsJ6_bitCount_0f7a4) := goodIn_app (goodIn_of _ (by decide +kernel)) ggX5_fewestToHold_J6_bitCount_0f7a4
set_option maxRecDepth 20000 in
theorem ggX5_fewestToHold_X5_joined : GoodIn wsX5_fewestToHold wsX5_joined := goodIn_r _ [21, 22, 23, 24, 5, 25, 1, 26, 11, 12, 13, 14, 15, 16, 17, 2, 3, 4, 6, 7, 8, 9, 10, 35, 36, 37, 38, 39, 40, 41, 42, 43, 44, 45, 46, 47] (by decide +kernel) (by decide +kernel)
set_option maxRecDepth 20000 in
theorem gX5_fewestToHold_X5_joined : GoodIn wsX5_fewestToHold (wsV RX5 110 RX5 yX5_joined wsX5_joined) := goodIn_app (goodIn_of _ (by decide +kernel)) ggX5_fewestToHold_X5_joined
set_option maxRecDepth 20000 in
theorem ggX5_fewestToHold_X5_isMost : GoodIn wsX5_fewestToHold wsX5_isMost := goodIn_r _ [30, 11, 12, 13, 14, 15, 16, 17, 31, 32, 33, 5, 34, 7, 8, 9, 10, 35, 36, 37, 38, 39, 40, 41, 42, 43, 44, 45, 46, 47] (by decide +kernel) (by decide +kernel)
set_option maxRecDepth 20000 in
theorem gX5_fewestToHold_X5_isMost : GoodIn wsX5_fewestToHold (wsV RX5 113 RX5 yX5_isMost wsX5_isMost) := goodIn_app (goodIn_of _ (by decide +kernel)) ggX5_fewestToHold_X5_isMost
theorem dX5_fewestToHold_0 : decode cX5_fewestToHold 0 = .ok (.iconst 0, 1) := by decide +kernel
theorem dX5_fewestToHold_1 : decode cX5_fewestToHold 1 = .ok (.istore_n 1, 1) := by decide +kernel
theorem dX5_fewestToHold_2 : decode cX5_fewestToHold 2 = .ok (.iconst 0, 1) := by decide +kernel
theorem dX5_fewestToHold_3 : decode cX5_fewestToHold 3 = .ok (.istore_n 2, 1) := by decide +kernel
theorem dX5_fewestToHold_4 : decode cX5_fewestToHold 4 = .ok (.iload_n 2, 1) := by decide +kernel
theorem dX5_fewestToHold_5 : decode cX5_fewestToHold 5 = .ok (.bipush 6, 2) := by decide +kernel
theorem dX5_fewestToHold_7 : decode cX5_fewestToHold 7 = .ok (.if_icmp .ge 34, 3) := by decide +kernel
theorem dX5_fewestToHold_10 : decode cX5_fewestToHold 10 = .ok (.aload_n 0, 1) := by decide +kernel
theorem dX5_fewestToHold_11 : decode cX5_fewestToHold 11 = .ok (.iload_n 2, 1) := by decide +kernel
theorem dX5_fewestToHold_12 : decode cX5_fewestToHold 12 = .ok (.invokevirtual 90, 3) := by decide +kernel
theorem dX5_fewestToHold_15 : decode cX5_fewestToHold 15 = .ok (.ifCond .eq 20, 3) := by decide +kernel
theorem dX5_fewestToHold_18 : decode cX5_fewestToHold 18 = .ok (.aload_n 0, 1) := by decide +kernel
theorem dX5_fewestToHold_19 : decode cX5_fewestToHold 19 = .ok (.getfield 27, 3) := by decide +kernel
theorem dX5_fewestToHold_22 : decode cX5_fewestToHold 22 = .ok (.iload_n 2, 1) := by decide +kernel
theorem dX5_fewestToHold_23 : decode cX5_fewestToHold 23 = .ok (.invokestatic 59, 3) := by decide +kernel
theorem dX5_fewestToHold_26 : decode cX5_fewestToHold 26 = .ok (.ifCond .ne 9, 3) := by decide +kernel
theorem dX5_fewestToHold_29 : decode cX5_fewestToHold 29 = .ok (.iload_n 1, 1) := by decide +kernel
theorem dX5_fewestToHold_30 : decode cX5_fewestToHold 30 = .ok (.iconst 1, 1) := by decide +kernel
theorem dX5_fewestToHold_31 : decode cX5_fewestToHold 31 = .ok (.iload_n 2, 1) := by decide +kernel
theorem dX5_fewestToHold_32 : decode cX5_fewestToHold 32 = .ok (.ishl, 1) := by decide +kernel
theorem dX5_fewestToHold_33 : decode cX5_fewestToHold 33 = .ok (.ior, 1) := by decide +kernel
theorem dX5_fewestToHold_34 : decode cX5_fewestToHold 34 = .ok (.istore_n 1, 1) := by decide +kernel
theorem dX5_fewestToHold_35 : decode cX5_fewestToHold 35 = .ok (.iinc 2 1, 3) := by decide +kernel
theorem dX5_fewestToHold_38 : decode cX5_fewestToHold 38 = .ok (.goto (-34), 3) := by decide +kernel
theorem dX5_fewestToHold_41 : decode cX5_fewestToHold 41 = .ok (.iconst 0, 1) := by decide +kernel
theorem dX5_fewestToHold_42 : decode cX5_fewestToHold 42 = .ok (.istore_n 2, 1) := by decide +kernel
theorem dX5_fewestToHold_43 : decode cX5_fewestToHold 43 = .ok (.iconst 1, 1) := by decide +kernel
theorem dX5_fewestToHold_44 : decode cX5_fewestToHold 44 = .ok (.istore_n 3, 1) := by decide +kernel
theorem dX5_fewestToHold_45 : decode cX5_fewestToHold 45 = .ok (.iload_n 3, 1) := by decide +kernel
theorem dX5_fewestToHold_46 : decode cX5_fewestToHold 46 = .ok (.bipush 64, 2) := by decide +kernel
theorem dX5_fewestToHold_48 : decode cX5_fewestToHold 48 = .ok (.if_icmp .ge 58, 3) := by decide +kernel
theorem dX5_fewestToHold_51 : decode cX5_fewestToHold 51 = .ok (.iload_n 2, 1) := by decide +kernel
theorem dX5_fewestToHold_52 : decode cX5_fewestToHold 52 = .ok (.ifCond .eq 14, 3) := by decide +kernel
theorem dX5_fewestToHold_55 : decode cX5_fewestToHold 55 = .ok (.iload_n 3, 1) := by decide +kernel
theorem dX5_fewestToHold_56 : decode cX5_fewestToHold 56 = .ok (.invokestatic 101, 3) := by decide +kernel
theorem dX5_fewestToHold_59 : decode cX5_fewestToHold 59 = .ok (.iload_n 2, 1) := by decide +kernel
theorem dX5_fewestToHold_60 : decode cX5_fewestToHold 60 = .ok (.invokestatic 101, 3) := by decide +kernel
theorem dX5_fewestToHold_63 : decode cX5_fewestToHold 63 = .ok (.if_icmp .ge 7, 3) := by decide +kernel
theorem dX5_fewestToHold_66 : decode cX5_fewestToHold 66 = .ok (.iconst 1, 1) := by decide +kernel
theorem dX5_fewestToHold_67 : decode cX5_fewestToHold 67 = .ok (.goto 4, 3) := by decide +kernel
theorem dX5_fewestToHold_70 : decode cX5_fewestToHold 70 = .ok (.iconst 0, 1) := by decide +kernel
theorem dX5_fewestToHold_71 : decode cX5_fewestToHold 71 = .ok (.istore 4, 2) := by decide +kernel
theorem dX5_fewestToHold_73 : decode cX5_fewestToHold 73 = .ok (.iload_n 3, 1) := by decide +kernel
theorem dX5_fewestToHold_74 : decode cX5_fewestToHold 74 = .ok (.iload_n 1, 1) := by decide +kernel
theorem dX5_fewestToHold_75 : decode cX5_fewestToHold 75 = .ok (.iconst (-1), 1) := by decide +kernel
theorem dX5_fewestToHold_76 : decode cX5_fewestToHold 76 = .ok (.ixor, 1) := by decide +kernel
theorem dX5_fewestToHold_77 : decode cX5_fewestToHold 77 = .ok (.iand, 1) := by decide +kernel
theorem dX5_fewestToHold_78 : decode cX5_fewestToHold 78 = .ok (.ifCond .ne 22, 3) := by decide +kernel
theorem dX5_fewestToHold_81 : decode cX5_fewestToHold 81 = .ok (.iload 4, 2) := by decide +kernel
theorem dX5_fewestToHold_83 : decode cX5_fewestToHold 83 = .ok (.ifCond .eq 17, 3) := by decide +kernel
theorem dX5_fewestToHold_86 : decode cX5_fewestToHold 86 = .ok (.aload_n 0, 1) := by decide +kernel
theorem dX5_fewestToHold_87 : decode cX5_fewestToHold 87 = .ok (.aload_n 0, 1) := by decide +kernel
theorem dX5_fewestToHold_88 : decode cX5_fewestToHold 88 = .ok (.iload_n 3, 1) := by decide +kernel
theorem dX5_fewestToHold_89 : decode cX5_fewestToHold 89 = .ok (.invokevirtual 110, 3) := by decide +kernel
theorem dX5_fewestToHold_92 : decode cX5_fewestToHold 92 = .ok (.invokevirtual 113, 3) := by decide +kernel
theorem dX5_fewestToHold_95 : decode cX5_fewestToHold 95 = .ok (.ifCond .eq 5, 3) := by decide +kernel
theorem dX5_fewestToHold_98 : decode cX5_fewestToHold 98 = .ok (.iload_n 3, 1) := by decide +kernel
theorem dX5_fewestToHold_99 : decode cX5_fewestToHold 99 = .ok (.istore_n 2, 1) := by decide +kernel
theorem dX5_fewestToHold_100 : decode cX5_fewestToHold 100 = .ok (.iinc 3 1, 3) := by decide +kernel
theorem dX5_fewestToHold_103 : decode cX5_fewestToHold 103 = .ok (.goto (-58), 3) := by decide +kernel
theorem dX5_fewestToHold_106 : decode cX5_fewestToHold 106 = .ok (.iload_n 2, 1) := by decide +kernel
theorem dX5_fewestToHold_107 : decode cX5_fewestToHold 107 = .ok (.ireturn, 1) := by decide +kernel
set_option maxRecDepth 20000 in
theorem ggX5_see_X7_put : GoodIn wsX5_see wsX7_put := goodIn_r _ [7] (by decide +kernel) (by decide +kernel)
set_option maxRecDepth 20000 in
theorem gX5_see_X7_put_n63 : GoodIn wsX5_see (wsX7_put) := ggX5_see_X7_put
theorem dX5_see_0 : decode cX5_see 0 = .ok (.aload_n 0, 1) := by decide +kernel
theorem dX5_see_1 : decode cX5_see 1 = .ok (.getfield 48, 3) := by decide +kernel
theorem dX5_see_4 : decode cX5_see 4 = .ok (.bipush 6, 2) := by decide +kernel
theorem dX5_see_6 : decode cX5_see 6 = .ok (.if_icmp .lt 5, 3) := by decide +kernel
theorem dX5_see_9 : decode cX5_see 9 = .ok (.iconst 0, 1) := by decide +kernel
theorem dX5_see_10 : decode cX5_see 10 = .ok (.ireturn, 1) := by decide +kernel
theorem dX5_see_11 : decode cX5_see 11 = .ok (.aload_n 0, 1) := by decide +kernel
theorem dX5_see_12 : decode cX5_see 12 = .ok (.getfield 39, 3) := by decide +kernel
theorem dX5_see_15 : decode cX5_see 15 = .ok (.aload_n 0, 1) := by decide +kernel
theorem dX5_see_16 : decode cX5_see 16 = .ok (.getfield 48, 3) := by decide +kernel
theorem dX5_see_19 : decode cX5_see 19 = .ok (.iload_n 1, 1) := by decide +kernel
theorem dX5_see_20 : decode cX5_see 20 = .ok (.invokestatic 63, 3) := by decide +kernel
theorem dX5_see_23 : decode cX5_see 23 = .ok (.aload_n 0, 1) := by decide +kernel
theorem dX5_see_24 : decode cX5_see 24 = .ok (.getfield 42, 3) := by decide +kernel
theorem dX5_see_27 : decode cX5_see 27 = .ok (.aload_n 0, 1) := by decide +kernel
theorem dX5_see_28 : decode cX5_see 28 = .ok (.getfield 48, 3) := by decide +kernel
theorem dX5_see_31 : decode cX5_see 31 = .ok (.iload_n 2, 1) := by decide +kernel
theorem dX5_see_32 : decode cX5_see 32 = .ok (.invokestatic 63, 3) := by decide +kernel
theorem dX5_see_35 : decode cX5_see 35 = .ok (.aload_n 0, 1) := by decide +kernel
theorem dX5_see_36 : decode cX5_see 36 = .ok (.getfield 45, 3) := by decide +kernel
theorem dX5_see_39 : decode cX5_see 39 = .ok (.aload_n 0, 1) := by decide +kernel
theorem dX5_see_40 : decode cX5_see 40 = .ok (.getfield 48, 3) := by decide +kernel
theorem dX5_see_43 : decode cX5_see 43 = .ok (.iload_n 3, 1) := by decide +kernel
theorem dX5_see_44 : decode cX5_see 44 = .ok (.invokestatic 63, 3) := by decide +kernel
theorem dX5_see_47 : decode cX5_see 47 = .ok (.aload_n 0, 1) := by decide +kernel
theorem dX5_see_48 : decode cX5_see 48 = .ok (.dup, 1) := by decide +kernel
theorem dX5_see_49 : decode cX5_see 49 = .ok (.getfield 48, 3) := by decide +kernel
theorem dX5_see_52 : decode cX5_see 52 = .ok (.iconst 1, 1) := by decide +kernel
theorem dX5_see_53 : decode cX5_see 53 = .ok (.iadd, 1) := by decide +kernel
theorem dX5_see_54 : decode cX5_see 54 = .ok (.putfield 48, 3) := by decide +kernel
theorem dX5_see_57 : decode cX5_see 57 = .ok (.iconst 1, 1) := by decide +kernel
theorem dX5_see_58 : decode cX5_see 58 = .ok (.ireturn, 1) := by decide +kernel
set_option maxRecDepth 20000 in
theorem ggX5_fitsSights_X7_at : GoodIn wsX5_fitsSights wsX7_at := goodIn_r _ [7] (by decide +kernel) (by decide +kernel)
set_option maxRecDepth 20000 in
theorem gX5_fitsSights_X7_at_n59 : GoodIn wsX5_fitsSights (wsX7_at) := ggX5_fitsSights_X7_at
set_option maxRecDepth 20000 in
theorem ggX5_fitsSights_X5_dares : GoodIn wsX5_fitsSights wsX5_dares := goodIn_r _ [12, 13, 14, 15, 11, 16, 17, 18, 5, 6, 7, 19, 20, 21, 22, 23, 24, 25, 26, 27, 28, 29, 30, 31, 32, 33, 34, 35, 36, 37, 38, 39, 40, 41, 42, 43, 44, 45, 46] (by decide +kernel) (by decide +kernel)
set_option maxRecDepth 20000 in
theorem gX5_fitsSights_X5_dares : GoodIn wsX5_fitsSights (wsV RX5 86 RX5 yX5_dares wsX5_dares) := goodIn_app (goodIn_of _ (by decide +kernel)) ggX5_fitsSights_X5_dares
theorem dX5_fitsSights_0 : decode cX5_fitsSights 0 = .ok (.iconst 0, 1) := by decide +kernel
theorem dX5_fitsSights_1 : decode cX5_fitsSights 1 = .ok (.istore_n 3, 1) := by decide +kernel
theorem dX5_fitsSights_2 : decode cX5_fitsSights 2 = .ok (.iload_n 3, 1) := by decide +kernel
theorem dX5_fitsSights_3 : decode cX5_fitsSights 3 = .ok (.aload_n 0, 1) := by decide +kernel
theorem dX5_fitsSights_4 : decode cX5_fitsSights 4 = .ok (.getfield 48, 3) := by decide +kernel
theorem dX5_fitsSights_7 : decode cX5_fitsSights 7 = .ok (.if_icmp .ge 61, 3) := by decide +kernel
theorem dX5_fitsSights_10 : decode cX5_fitsSights 10 = .ok (.aload_n 0, 1) := by decide +kernel
theorem dX5_fitsSights_11 : decode cX5_fitsSights 11 = .ok (.getfield 45, 3) := by decide +kernel
theorem dX5_fitsSights_14 : decode cX5_fitsSights 14 = .ok (.iload_n 3, 1) := by decide +kernel
theorem dX5_fitsSights_15 : decode cX5_fitsSights 15 = .ok (.invokestatic 59, 3) := by decide +kernel
theorem dX5_fitsSights_18 : decode cX5_fitsSights 18 = .ok (.iconst 1, 1) := by decide +kernel
theorem dX5_fitsSights_19 : decode cX5_fitsSights 19 = .ok (.if_icmp .ne 7, 3) := by decide +kernel
theorem dX5_fitsSights_22 : decode cX5_fitsSights 22 = .ok (.iconst 1, 1) := by decide +kernel
theorem dX5_fitsSights_23 : decode cX5_fitsSights 23 = .ok (.goto 4, 3) := by decide +kernel
theorem dX5_fitsSights_26 : decode cX5_fitsSights 26 = .ok (.iconst 0, 1) := by decide +kernel
theorem dX5_fitsSights_27 : decode cX5_fitsSights 27 = .ok (.istore 4, 2) := by decide +kernel
theorem dX5_fitsSights_29 : decode cX5_fitsSights 29 = .ok (.aload_n 0, 1) := by decide +kernel
theorem dX5_fitsSights_30 : decode cX5_fitsSights 30 = .ok (.getfield 39, 3) := by decide +kernel
theorem dX5_fitsSights_33 : decode cX5_fitsSights 33 = .ok (.iload_n 3, 1) := by decide +kernel
theorem dX5_fitsSights_34 : decode cX5_fitsSights 34 = .ok (.invokestatic 59, 3) := by decide +kernel
theorem dX5_fitsSights_37 : decode cX5_fitsSights 37 = .ok (.iload_n 1, 1) := by decide +kernel
theorem dX5_fitsSights_38 : decode cX5_fitsSights 38 = .ok (.if_icmp .ne 24, 3) := by decide +kernel
theorem dX5_fitsSights_41 : decode cX5_fitsSights 41 = .ok (.aload_n 0, 1) := by decide +kernel
theorem dX5_fitsSights_42 : decode cX5_fitsSights 42 = .ok (.iload_n 1, 1) := by decide +kernel
theorem dX5_fitsSights_43 : decode cX5_fitsSights 43 = .ok (.aload_n 0, 1) := by decide +kernel
theorem dX5_fitsSights_44 : decode cX5_fitsSights 44 = .ok (.getfield 42, 3) := by decide +kernel
theorem dX5_fitsSights_47 : decode cX5_fitsSights 47 = .ok (.iload_n 3, 1) := by decide +kernel
theorem dX5_fitsSights_48 : decode cX5_fitsSights 48 = .ok (.invokestatic 59, 3) := by decide +kernel
theorem dX5_fitsSights_51 : decode cX5_fitsSights 51 = .ok (.iload_n 2, 1) := by decide +kernel
theorem dX5_fitsSights_52 : decode cX5_fitsSights 52 = .ok (.invokevirtual 86, 3) := by decide +kernel
theorem dX5_fitsSights_55 : decode cX5_fitsSights 55 = .ok (.iload 4, 2) := by decide +kernel
theorem dX5_fitsSights_57 : decode cX5_fitsSights 57 = .ok (.if_icmp .eq 5, 3) := by decide +kernel
theorem dX5_fitsSights_60 : decode cX5_fitsSights 60 = .ok (.iconst 0, 1) := by decide +kernel
theorem dX5_fitsSights_61 : decode cX5_fitsSights 61 = .ok (.ireturn, 1) := by decide +kernel
theorem dX5_fitsSights_62 : decode cX5_fitsSights 62 = .ok (.iinc 3 1, 3) := by decide +kernel
theorem dX5_fitsSights_65 : decode cX5_fitsSights 65 = .ok (.goto (-63), 3) := by decide +kernel
theorem dX5_fitsSights_68 : decode cX5_fitsSights 68 = .ok (.iconst 1, 1) := by decide +kernel
theorem dX5_fitsSights_69 : decode cX5_fitsSights 69 = .ok (.ireturn, 1) := by decide +kernel
set_option maxRecDepth 20000 in
theorem ggX6_init_X5_init : GoodIn wsX6_init wsX5_init := goodIn_r _ [10, 11, 2, 3, 12, 13, 14, 15, 16, 17, 18, 19, 20, 21, 22, 23, 24, 25, 26, 27, 28, 29, 30, 31, 32, 33, 34, 35, 36, 37, 38, 39, 40, 41, 42, 43, 44, 45, 46, 47] (by decide +kernel) (by decide +kernel)
set_option maxRecDepth 20000 in
theorem gX6_init_X5_init : GoodIn wsX6_init (wsX5_init) := ggX6_init_X5_init
theorem dX6_init_0 : decode cX6_init 0 = .ok (.aload_n 0, 1) := by decide +kernel
theorem dX6_init_1 : decode cX6_init 1 = .ok (.invokespecial 3, 3) := by decide +kernel
theorem dX6_init_4 : decode cX6_init 4 = .ok (.aload_n 0, 1) := by decide +kernel
theorem dX6_init_5 : decode cX6_init 5 = .ok (.new 9, 3) := by decide +kernel
theorem dX6_init_8 : decode cX6_init 8 = .ok (.dup, 1) := by decide +kernel
theorem dX6_init_9 : decode cX6_init 9 = .ok (.invokespecial 11, 3) := by decide +kernel
theorem dX6_init_12 : decode cX6_init 12 = .ok (.putfield 12, 3) := by decide +kernel
theorem dX6_init_15 : decode cX6_init 15 = .ok (.return_, 1) := by decide +kernel
set_option maxRecDepth 20000 in
theorem ggX6_pass_X5_copyFrom : GoodIn wsX6_pass wsX5_copyFrom := goodIn_r _ [9, 10, 11, 12, 13, 14, 15, 16, 17, 18, 19, 20, 21, 22, 23, 24, 25, 26, 27, 28, 29, 30, 31, 96, 97, 98, 99, 100, 101, 102, 103, 104, 105, 106, 107, 108] (by decide +kernel) (by decide +kernel)
set_option maxRecDepth 20000 in
theorem gX6_pass_X5_copyFrom : GoodIn wsX6_pass (wsV RX6 18 RX5 yX5_copyFrom wsX5_copyFrom) := goodIn_app (goodIn_of _ (by decide +kernel)) ggX6_pass_X5_copyFrom
set_option maxRecDepth 20000 in
theorem ggX6_pass_X7_drawAfter : GoodIn wsX6_pass wsX7_drawAfter := goodIn_r _ [33, 34] (by decide +kernel) (by decide +kernel)
set_option maxRecDepth 20000 in
theorem gX6_pass_X7_drawAfter_n32 : GoodIn wsX6_pass (wsX7_drawAfter) := ggX6_pass_X7_drawAfter
set_option maxRecDepth 20000 in
theorem ggX6_pass_X6_dare : GoodIn wsX6_pass wsX6_dare := goodIn_r _ [39, 1, 40, 41, 42, 43, 44, 3, 2, 4, 27, 24, 28, 45, 46, 47, 8, 48, 10, 49, 50, 51, 52, 18, 16, 53, 54, 55, 56, 11, 57, 58, 59, 60, 14, 61, 62, 63, 64, 65, 66, 67, 68, 13, 69, 70, 71, 72, 12, 73, 74, 75, 76, 77, 78, 79, 80, 81, 82, 83, 17, 30, 31, 84, 85, 86, 87, 32, 33, 34, 92, 93, 94, 95, 96, 97, 98, 99, 100, 101, 102, 103, 104, 105, 106, 107, 108] (by decide +kernel) (by decide +kernel)
set_option maxRecDepth 20000 in
theorem gX6_pass_X6_dare : GoodIn wsX6_pass (wsV RX6 36 RX6 yX6_dare wsX6_dare) := goodIn_app (goodIn_of _ (by decide +kernel)) ggX6_pass_X6_dare
set_option maxRecDepth 20000 in
theorem ggX6_pass_X5_night : GoodIn wsX6_pass wsX5_night := goodIn_r _ [91, 10, 17, 74, 75, 43, 76, 73, 42, 44, 18, 27, 24, 28, 30, 31, 96, 97, 98, 99, 100, 101, 102, 103, 104, 105, 106, 107, 108] (by decide +kernel) (by decide +kernel)
set_option maxRecDepth 20000 in
theorem gX6_pass_X5_night : GoodIn wsX6_pass (wsV RX6 40 RX5 yX5_night wsX5_night) := goodIn_app (goodIn_of _ (by decide +kernel)) ggX6_pass_X5_night
theorem dX6_pass_0 : decode cX6_pass 0 = .ok (.aload_n 0, 1) := by decide +kernel
theorem dX6_pass_1 : decode cX6_pass 1 = .ok (.getfield 12, 3) := by decide +kernel
theorem dX6_pass_4 : decode cX6_pass 4 = .ok (.aload_n 1, 1) := by decide +kernel
theorem dX6_pass_5 : decode cX6_pass 5 = .ok (.invokevirtual 18, 3) := by decide +kernel
theorem dX6_pass_8 : decode cX6_pass 8 = .ok (.aload_n 0, 1) := by decide +kernel
theorem dX6_pass_9 : decode cX6_pass 9 = .ok (.iconst 0, 1) := by decide +kernel
theorem dX6_pass_10 : decode cX6_pass 10 = .ok (.putfield 22, 3) := by decide +kernel
theorem dX6_pass_13 : decode cX6_pass 13 = .ok (.aload_n 0, 1) := by decide +kernel
theorem dX6_pass_14 : decode cX6_pass 14 = .ok (.iconst 0, 1) := by decide +kernel
theorem dX6_pass_15 : decode cX6_pass 15 = .ok (.putfield 26, 3) := by decide +kernel
theorem dX6_pass_18 : decode cX6_pass 18 = .ok (.aload_n 0, 1) := by decide +kernel
theorem dX6_pass_19 : decode cX6_pass 19 = .ok (.iconst 0, 1) := by decide +kernel
theorem dX6_pass_20 : decode cX6_pass 20 = .ok (.putfield 29, 3) := by decide +kernel
theorem dX6_pass_23 : decode cX6_pass 23 = .ok (.iload_n 2, 1) := by decide +kernel
theorem dX6_pass_24 : decode cX6_pass 24 = .ok (.istore 4, 2) := by decide +kernel
theorem dX6_pass_26 : decode cX6_pass 26 = .ok (.iconst 1, 1) := by decide +kernel
theorem dX6_pass_27 : decode cX6_pass 27 = .ok (.istore 5, 2) := by decide +kernel
theorem dX6_pass_29 : decode cX6_pass 29 = .ok (.iload 5, 2) := by decide +kernel
theorem dX6_pass_31 : decode cX6_pass 31 = .ok (.iload_n 3, 1) := by decide +kernel
theorem dX6_pass_32 : decode cX6_pass 32 = .ok (.if_icmp .gt 47, 3) := by decide +kernel
theorem dX6_pass_35 : decode cX6_pass 35 = .ok (.iload 4, 2) := by decide +kernel
theorem dX6_pass_37 : decode cX6_pass 37 = .ok (.invokestatic 32, 3) := by decide +kernel
theorem dX6_pass_40 : decode cX6_pass 40 = .ok (.istore 4, 2) := by decide +kernel
theorem dX6_pass_42 : decode cX6_pass 42 = .ok (.aload_n 0, 1) := by decide +kernel
theorem dX6_pass_43 : decode cX6_pass 43 = .ok (.iload 4, 2) := by decide +kernel
theorem dX6_pass_45 : decode cX6_pass 45 = .ok (.bipush 6, 2) := by decide +kernel
theorem dX6_pass_47 : decode cX6_pass 47 = .ok (.irem, 1) := by decide +kernel
theorem dX6_pass_48 : decode cX6_pass 48 = .ok (.iload 4, 2) := by decide +kernel
theorem dX6_pass_50 : decode cX6_pass 50 = .ok (.bipush 6, 2) := by decide +kernel
theorem dX6_pass_52 : decode cX6_pass 52 = .ok (.idiv, 1) := by decide +kernel
theorem dX6_pass_53 : decode cX6_pass 53 = .ok (.bipush 6, 2) := by decide +kernel
theorem dX6_pass_55 : decode cX6_pass 55 = .ok (.irem, 1) := by decide +kernel
theorem dX6_pass_56 : decode cX6_pass 56 = .ok (.invokevirtual 36, 3) := by decide +kernel
theorem dX6_pass_59 : decode cX6_pass 59 = .ok (.iload 5, 2) := by decide +kernel
theorem dX6_pass_61 : decode cX6_pass 61 = .ok (.iconst 3, 1) := by decide +kernel
theorem dX6_pass_62 : decode cX6_pass 62 = .ok (.irem, 1) := by decide +kernel
theorem dX6_pass_63 : decode cX6_pass 63 = .ok (.ifCond .ne 10, 3) := by decide +kernel
theorem dX6_pass_66 : decode cX6_pass 66 = .ok (.aload_n 0, 1) := by decide +kernel
theorem dX6_pass_67 : decode cX6_pass 67 = .ok (.getfield 12, 3) := by decide +kernel
theorem dX6_pass_70 : decode cX6_pass 70 = .ok (.invokevirtual 40, 3) := by decide +kernel
theorem dX6_pass_73 : decode cX6_pass 73 = .ok (.iinc 5 1, 3) := by decide +kernel
theorem dX6_pass_76 : decode cX6_pass 76 = .ok (.goto (-47), 3) := by decide +kernel
theorem dX6_pass_79 : decode cX6_pass 79 = .ok (.return_, 1) := by decide +kernel
set_option maxRecDepth 20000 in
theorem ggX6_dare_X7_at : GoodIn wsX6_dare wsX7_at := goodIn_r _ [12] (by decide +kernel) (by decide +kernel)
set_option maxRecDepth 20000 in
theorem gX6_dare_X7_at_n47 : GoodIn wsX6_dare (wsX7_at) := ggX6_dare_X7_at
set_option maxRecDepth 20000 in
theorem ggX6_dare_X5_rule : GoodIn wsX6_dare wsX5_rule := goodIn_r _ [17, 18, 10, 11, 12, 74, 75, 76, 77, 78, 79, 80, 81, 82, 83, 84, 85, 86] (by decide +kernel) (by decide +kernel)
set_option maxRecDepth 20000 in
theorem gX6_dare_X5_rule : GoodIn wsX6_dare (wsV RX6 51 RX5 yX5_rule wsX5_rule) := goodIn_app (goodIn_of _ (by decide +kernel)) ggX6_dare_X5_rule
set_option maxRecDepth 20000 in
theorem ggX6_dare_X5_whyNot : GoodIn wsX6_dare wsX5_whyNot := goodIn_r _ [22, 23, 24, 18, 25, 26, 27, 16, 28, 29, 10, 11, 12, 74, 75, 76, 77, 78, 79, 80, 81, 82, 83, 84, 85, 86] (by decide +kernel) (by decide +kernel)
set_option maxRecDepth 20000 in
theorem gX6_dare_X5_whyNot : GoodIn wsX6_dare (wsV RX6 60 RX5 yX5_whyNot wsX5_whyNot) := goodIn_app (goodIn_of _ (by decide +kernel)) ggX6_dare_X5_whyNot
set_option maxRecDepth 20000 in
theorem ggX6_dare_X5_prideOf : GoodIn wsX6_dare wsX5_prideOf := goodIn_r _ [33, 34, 10, 11, 12, 74, 75, 76, 77, 78, 79, 80, 81, 82, 83, 84, 85, 86] (by decide +kernel) (by decide +kernel)
set_option maxRecDepth 20000 in
theorem gX6_dare_X5_prideOf : GoodIn wsX6_dare (wsV RX6 64 RX5 yX5_prideOf wsX5_prideOf) := goodIn_app (goodIn_of _ (by decide +kernel)) ggX6_dare_X5_prideOf
set_option maxRecDepth 20000 in
theorem ggX6_dare_X5_dares : GoodIn wsX6_dare wsX5_dares := goodIn_r _ [38, 39, 40, 41, 16, 42, 18, 43, 10, 11, 12, 44, 45, 46, 47, 48, 49, 4, 5, 6, 50, 51, 52, 53, 54, 55, 74, 75, 76, 77, 78, 79, 80, 81, 82, 83, 84, 85, 86] (by decide +kernel) (by decide +kernel)
set_option maxRecDepth 20000 in
theorem gX6_dare_X5_dares : GoodIn wsX6_dare (wsV RX6 67 RX5 yX5_dares wsX5_dares) := goodIn_app (goodIn_of _ (by decide +kernel)) ggX6_dare_X5_dares
set_option maxRecDepth 20000 in
theorem ggX6_dare_X5_refuse : GoodIn wsX6_dare wsX5_refuse := goodIn_r _ [59, 60, 10, 11, 12, 61, 62, 74, 75, 76, 77, 78, 79, 80, 81, 82, 83, 84, 85, 86] (by decide +kernel) (by decide +kernel)
set_option maxRecDepth 20000 in
theorem gX6_dare_X5_refuse : GoodIn wsX6_dare (wsV RX6 71 RX5 yX5_refuse wsX5_refuse) := goodIn_app (goodIn_of _ (by decide +kernel)) ggX6_dare_X5_refuse
set_option maxRecDepth 20000 in
theorem ggX6_dare_X5_perform : GoodIn wsX6_dare wsX5_perform := goodIn_r _ [66, 24, 50, 51, 5, 52, 60, 18, 23, 10, 11, 12, 61, 62, 67, 68, 69, 44, 45, 46, 16, 47, 48, 49, 4, 6, 74, 75, 76, 77, 78, 79, 80, 81, 82, 83, 84, 85, 86] (by decide +kernel) (by decide +kernel)
set_option maxRecDepth 20000 in
theorem gX6_dare_X5_perform : GoodIn wsX6_dare (wsV RX6 74 RX5 yX5_perform wsX5_perform) := goodIn_app (goodIn_of _ (by decide +kernel)) ggX6_dare_X5_perform
theorem dX6_dare_0 : decode cX6_dare 0 = .ok (.bipush 15, 2) := by decide +kernel
theorem dX6_dare_2 : decode cX6_dare 2 = .ok (.aload_n 0, 1) := by decide +kernel
theorem dX6_dare_3 : decode cX6_dare 3 = .ok (.getfield 12, 3) := by decide +kernel
theorem dX6_dare_6 : decode cX6_dare 6 = .ok (.getfield 43, 3) := by decide +kernel
theorem dX6_dare_9 : decode cX6_dare 9 = .ok (.iload_n 1, 1) := by decide +kernel
theorem dX6_dare_10 : decode cX6_dare 10 = .ok (.invokestatic 47, 3) := by decide +kernel
theorem dX6_dare_13 : decode cX6_dare 13 = .ok (.aload_n 0, 1) := by decide +kernel
theorem dX6_dare_14 : decode cX6_dare 14 = .ok (.getfield 12, 3) := by decide +kernel
theorem dX6_dare_17 : decode cX6_dare 17 = .ok (.iconst 0, 1) := by decide +kernel
theorem dX6_dare_18 : decode cX6_dare 18 = .ok (.invokevirtual 51, 3) := by decide +kernel
theorem dX6_dare_21 : decode cX6_dare 21 = .ok (.iadd, 1) := by decide +kernel
theorem dX6_dare_22 : decode cX6_dare 22 = .ok (.invokestatic 54, 3) := by decide +kernel
theorem dX6_dare_25 : decode cX6_dare 25 = .ok (.istore_n 3, 1) := by decide +kernel
theorem dX6_dare_26 : decode cX6_dare 26 = .ok (.aload_n 0, 1) := by decide +kernel
theorem dX6_dare_27 : decode cX6_dare 27 = .ok (.getfield 12, 3) := by decide +kernel
theorem dX6_dare_30 : decode cX6_dare 30 = .ok (.iload_n 1, 1) := by decide +kernel
theorem dX6_dare_31 : decode cX6_dare 31 = .ok (.iload_n 2, 1) := by decide +kernel
theorem dX6_dare_32 : decode cX6_dare 32 = .ok (.iload_n 3, 1) := by decide +kernel
theorem dX6_dare_33 : decode cX6_dare 33 = .ok (.invokevirtual 60, 3) := by decide +kernel
theorem dX6_dare_36 : decode cX6_dare 36 = .ok (.ifCond .eq 4, 3) := by decide +kernel
theorem dX6_dare_39 : decode cX6_dare 39 = .ok (.return_, 1) := by decide +kernel
theorem dX6_dare_40 : decode cX6_dare 40 = .ok (.aload_n 0, 1) := by decide +kernel
theorem dX6_dare_41 : decode cX6_dare 41 = .ok (.getfield 12, 3) := by decide +kernel
theorem dX6_dare_44 : decode cX6_dare 44 = .ok (.iload_n 2, 1) := by decide +kernel
theorem dX6_dare_45 : decode cX6_dare 45 = .ok (.iload_n 3, 1) := by decide +kernel
theorem dX6_dare_46 : decode cX6_dare 46 = .ok (.aload_n 0, 1) := by decide +kernel
theorem dX6_dare_47 : decode cX6_dare 47 = .ok (.getfield 12, 3) := by decide +kernel
theorem dX6_dare_50 : decode cX6_dare 50 = .ok (.iload_n 2, 1) := by decide +kernel
theorem dX6_dare_51 : decode cX6_dare 51 = .ok (.invokevirtual 64, 3) := by decide +kernel
theorem dX6_dare_54 : decode cX6_dare 54 = .ok (.invokevirtual 67, 3) := by decide +kernel
theorem dX6_dare_57 : decode cX6_dare 57 = .ok (.ifCond .ne 23, 3) := by decide +kernel
theorem dX6_dare_60 : decode cX6_dare 60 = .ok (.aload_n 0, 1) := by decide +kernel
theorem dX6_dare_61 : decode cX6_dare 61 = .ok (.dup, 1) := by decide +kernel
theorem dX6_dare_62 : decode cX6_dare 62 = .ok (.getfield 26, 3) := by decide +kernel
theorem dX6_dare_65 : decode cX6_dare 65 = .ok (.iconst 1, 1) := by decide +kernel
theorem dX6_dare_66 : decode cX6_dare 66 = .ok (.iadd, 1) := by decide +kernel
theorem dX6_dare_67 : decode cX6_dare 67 = .ok (.putfield 26, 3) := by decide +kernel
theorem dX6_dare_70 : decode cX6_dare 70 = .ok (.aload_n 0, 1) := by decide +kernel
theorem dX6_dare_71 : decode cX6_dare 71 = .ok (.getfield 12, 3) := by decide +kernel
theorem dX6_dare_74 : decode cX6_dare 74 = .ok (.iload_n 2, 1) := by decide +kernel
theorem dX6_dare_75 : decode cX6_dare 75 = .ok (.iload_n 3, 1) := by decide +kernel
theorem dX6_dare_76 : decode cX6_dare 76 = .ok (.invokevirtual 71, 3) := by decide +kernel
theorem dX6_dare_79 : decode cX6_dare 79 = .ok (.return_, 1) := by decide +kernel
theorem dX6_dare_80 : decode cX6_dare 80 = .ok (.aload_n 0, 1) := by decide +kernel
theorem dX6_dare_81 : decode cX6_dare 81 = .ok (.dup, 1) := by decide +kernel
theorem dX6_dare_82 : decode cX6_dare 82 = .ok (.getfield 22, 3) := by decide +kernel
theorem dX6_dare_85 : decode cX6_dare 85 = .ok (.iconst 1, 1) := by decide +kernel
theorem dX6_dare_86 : decode cX6_dare 86 = .ok (.iadd, 1) := by decide +kernel
theorem dX6_dare_87 : decode cX6_dare 87 = .ok (.putfield 22, 3) := by decide +kernel
theorem dX6_dare_90 : decode cX6_dare 90 = .ok (.aload_n 0, 1) := by decide +kernel
theorem dX6_dare_91 : decode cX6_dare 91 = .ok (.getfield 12, 3) := by decide +kernel
theorem dX6_dare_94 : decode cX6_dare 94 = .ok (.iload_n 2, 1) := by decide +kernel
theorem dX6_dare_95 : decode cX6_dare 95 = .ok (.iload_n 3, 1) := by decide +kernel
theorem dX6_dare_96 : decode cX6_dare 96 = .ok (.invokevirtual 74, 3) := by decide +kernel
theorem dX6_dare_99 : decode cX6_dare 99 = .ok (.ifCond .eq 13, 3) := by decide +kernel
theorem dX6_dare_102 : decode cX6_dare 102 = .ok (.aload_n 0, 1) := by decide +kernel
theorem dX6_dare_103 : decode cX6_dare 103 = .ok (.dup, 1) := by decide +kernel
theorem dX6_dare_104 : decode cX6_dare 104 = .ok (.getfield 29, 3) := by decide +kernel
theorem dX6_dare_107 : decode cX6_dare 107 = .ok (.iconst 1, 1) := by decide +kernel
theorem dX6_dare_108 : decode cX6_dare 108 = .ok (.iadd, 1) := by decide +kernel
theorem dX6_dare_109 : decode cX6_dare 109 = .ok (.putfield 29, 3) := by decide +kernel
theorem dX6_dare_112 : decode cX6_dare 112 = .ok (.return_, 1) := by decide +kernel
set_option maxRecDepth 20000 in
theorem ggX7_init_X5_init : GoodIn wsX7_init wsX5_init := goodIn_r _ [34, 35, 2, 3, 36, 37, 38, 39, 40, 41, 42, 43, 44, 45, 46, 47, 48, 49, 50, 51, 52, 53, 54, 55, 56, 57, 58, 94, 95, 96, 97, 98, 99, 100, 101, 102, 103, 104, 105, 106] (by decide +kernel) (by decide +kernel)
set_option maxRecDepth 20000 in
theorem gX7_init_X5_init : GoodIn wsX7_init (wsX5_init) := ggX7_init_X5_init
set_option maxRecDepth 20000 in
theorem ggX7_init_X3_init : GoodIn wsX7_init wsX3_init := goodIn_r _ [60, 61, 2, 3, 36, 62, 63, 117, 118] (by decide +kernel) (by decide +kernel)
set_option maxRecDepth 20000 in
theorem gX7_init_X3_init_n31 : GoodIn wsX7_init (wsX3_init) := ggX7_init_X3_init
set_option maxRecDepth 20000 in
theorem ggX7_init_X4_init : GoodIn wsX7_init wsX4_init := goodIn_r _ [65, 66, 2, 3, 67, 5, 6, 68, 36, 69, 70, 71, 72, 73, 74, 33, 34, 35, 37, 38, 39, 40, 41, 42, 43, 44, 45, 46, 47, 48, 49, 50, 51, 52, 53, 54, 55, 56, 57, 58, 75, 76, 77, 78, 79, 94, 95, 96, 97, 98, 99, 100, 101, 102, 103, 104, 105, 106, 119, 120, 121, 122, 123, 124, 125, 126, 127, 139, 140] (by decide +kernel) (by decide +kernel)
set_option maxRecDepth 20000 in
theorem gX7_init_X4_init_n38 : GoodIn wsX7_init (wsX4_init) := ggX7_init_X4_init
set_option maxRecDepth 20000 in
theorem ggX7_init_X1_init : GoodIn wsX7_init wsX1_init := goodIn_r _ [81, 82, 2, 3, 83, 71, 72, 84, 75, 76, 77, 78, 79, 139, 140, 128, 129, 130, 131] (by decide +kernel) (by decide +kernel)
set_option maxRecDepth 20000 in
theorem gX7_init_X1_init_n45 : GoodIn wsX7_init (wsX1_init) := ggX7_init_X1_init
set_option maxRecDepth 20000 in
theorem ggX7_init_X2_init : GoodIn wsX7_init wsX2_init := goodIn_r _ [86, 87, 2, 3] (by decide +kernel) (by decide +kernel)
set_option maxRecDepth 20000 in
theorem gX7_init_X2_init_n52 : GoodIn wsX7_init (wsX2_init) := ggX7_init_X2_init
set_option maxRecDepth 20000 in
theorem ggX7_init_X6_init : GoodIn wsX7_init wsX6_init := goodIn_r _ [89, 90, 2, 3, 91, 5, 6, 92, 93, 33, 34, 35, 36, 37, 38, 39, 40, 41, 42, 43, 44, 45, 46, 47, 48, 49, 50, 51, 52, 53, 54, 55, 56, 57, 58, 94, 95, 96, 97, 98, 99, 100, 101, 102, 103, 104, 105, 106, 135, 136, 137, 138] (by decide +kernel) (by decide +kernel)
set_option maxRecDepth 20000 in
theorem gX7_init_X6_init_n59 : GoodIn wsX7_init (wsX6_init) := ggX7_init_X6_init
end
section
theorem dX7_init_0 : decode cX7_init 0 = .ok (.aload_n 0, 1) := by decide +kernel
theorem dX7_init_1 : decode cX7_init 1 = .ok (.invokespecial 1, 3) := by decide +kernel
theorem dX7_init_4 : decode cX7_init 4 = .ok (.aload_n 0, 1) := by decide +kernel
theorem dX7_init_5 : decode cX7_init 5 = .ok (.new 7, 3) := by decide +kernel
theorem dX7_init_8 : decode cX7_init 8 = .ok (.dup, 1) := by decide +kernel
theorem dX7_init_9 : decode cX7_init 9 = .ok (.invokespecial 9, 3) := by decide +kernel
theorem dX7_init_12 : decode cX7_init 12 = .ok (.putfield 10, 3) := by decide +kernel
theorem dX7_init_15 : decode cX7_init 15 = .ok (.aload_n 0, 1) := by decide +kernel
theorem dX7_init_16 : decode cX7_init 16 = .ok (.new 7, 3) := by decide +kernel
theorem dX7_init_19 : decode cX7_init 19 = .ok (.dup, 1) := by decide +kernel
theorem dX7_init_20 : decode cX7_init 20 = .ok (.invokespecial 9, 3) := by decide +kernel
theorem dX7_init_23 : decode cX7_init 23 = .ok (.putfield 16, 3) := by decide +kernel
theorem dX7_init_26 : decode cX7_init 26 = .ok (.aload_n 0, 1) := by decide +kernel
theorem dX7_init_27 : decode cX7_init 27 = .ok (.new 7, 3) := by decide +kernel
theorem dX7_init_30 : decode cX7_init 30 = .ok (.dup, 1) := by decide +kernel
theorem dX7_init_31 : decode cX7_init 31 = .ok (.invokespecial 9, 3) := by decide +kernel
theorem dX7_init_34 : decode cX7_init 34 = .ok (.putfield 19, 3) := by decide +kernel
theorem dX7_init_37 : decode cX7_init 37 = .ok (.aload_n 0, 1) := by decide +kernel
theorem dX7_init_38 : decode cX7_init 38 = .ok (.iconst 0, 1) := by decide +kernel
theorem dX7_init_39 : decode cX7_init 39 = .ok (.putfield 22, 3) := by decide +kernel
theorem dX7_init_42 : decode cX7_init 42 = .ok (.aload_n 0, 1) := by decide +kernel
theorem dX7_init_43 : decode cX7_init 43 = .ok (.iconst 0, 1) := by decide +kernel
theorem dX7_init_44 : decode cX7_init 44 = .ok (.putfield 26, 3) := by decide +kernel
theorem dX7_init_47 : decode cX7_init 47 = .ok (.aload_n 0, 1) := by decide +kernel
theorem dX7_init_48 : decode cX7_init 48 = .ok (.new 29, 3) := by decide +kernel
theorem dX7_init_51 : decode cX7_init 51 = .ok (.dup, 1) := by decide +kernel
theorem dX7_init_52 : decode cX7_init 52 = .ok (.invokespecial 31, 3) := by decide +kernel
theorem dX7_init_55 : decode cX7_init 55 = .ok (.putfield 32, 3) := by decide +kernel
theorem dX7_init_58 : decode cX7_init 58 = .ok (.aload_n 0, 1) := by decide +kernel
theorem dX7_init_59 : decode cX7_init 59 = .ok (.new 36, 3) := by decide +kernel
theorem dX7_init_62 : decode cX7_init 62 = .ok (.dup, 1) := by decide +kernel
theorem dX7_init_63 : decode cX7_init 63 = .ok (.invokespecial 38, 3) := by decide +kernel
theorem dX7_init_66 : decode cX7_init 66 = .ok (.putfield 39, 3) := by decide +kernel
theorem dX7_init_69 : decode cX7_init 69 = .ok (.aload_n 0, 1) := by decide +kernel
theorem dX7_init_70 : decode cX7_init 70 = .ok (.new 43, 3) := by decide +kernel
theorem dX7_init_73 : decode cX7_init 73 = .ok (.dup, 1) := by decide +kernel
theorem dX7_init_74 : decode cX7_init 74 = .ok (.invokespecial 45, 3) := by decide +kernel
theorem dX7_init_77 : decode cX7_init 77 = .ok (.putfield 46, 3) := by decide +kernel
theorem dX7_init_80 : decode cX7_init 80 = .ok (.aload_n 0, 1) := by decide +kernel
theorem dX7_init_81 : decode cX7_init 81 = .ok (.new 50, 3) := by decide +kernel
theorem dX7_init_84 : decode cX7_init 84 = .ok (.dup, 1) := by decide +kernel
theorem dX7_init_85 : decode cX7_init 85 = .ok (.invokespecial 52, 3) := by decide +kernel
theorem dX7_init_88 : decode cX7_init 88 = .ok (.putfield 53, 3) := by decide +kernel
theorem dX7_init_91 : decode cX7_init 91 = .ok (.aload_n 0, 1) := by decide +kernel
theorem dX7_init_92 : decode cX7_init 92 = .ok (.new 57, 3) := by decide +kernel
theorem dX7_init_95 : decode cX7_init 95 = .ok (.dup, 1) := by decide +kernel
theorem dX7_init_96 : decode cX7_init 96 = .ok (.invokespecial 59, 3) := by decide +kernel
theorem dX7_init_99 : decode cX7_init 99 = .ok (.putfield 60, 3) := by decide +kernel
theorem dX7_init_102 : decode cX7_init 102 = .ok (.return_, 1) := by decide +kernel
set_option maxRecDepth 20000 in
theorem ggX7_person_X7_within : GoodIn wsX7_person wsX7_within := goodIn_r _ [5] (by decide +kernel) (by decide +kernel)
set_option maxRecDepth 20000 in
theorem gX7_person_X7_within : GoodIn wsX7_person (va_wsS RX7 64 yX7_within wsX7_within) := goodIn_app (goodIn_of _ (by decide +kernel)) ggX7_person_X7_within
set_option maxRecDepth 20000 in
theorem ggX7_person_X5_come : GoodIn wsX7_person wsX5_come := goodIn_r _ [10, 11, 12, 13, 14, 15, 16, 17, 18, 19, 20, 4, 21, 22, 23, 45, 46, 47, 48, 49, 50, 51, 52, 53, 54, 55, 56, 57] (by decide +kernel) (by decide +kernel)
set_option maxRecDepth 20000 in
theorem gX7_person_X5_come : GoodIn wsX7_person (wsV RX7 68 RX5 yX5_come wsX5_come) := goodIn_app (goodIn_of _ (by decide +kernel)) ggX7_person_X5_come
set_option maxRecDepth 20000 in
theorem ggX7_person_X5_bits : GoodIn wsX7_person wsX5_bits := goodIn_r _ [27, 11, 22, 4, 23, 45, 46, 47, 48, 49, 50, 51, 52, 53, 54, 55, 56, 57] (by decide +kernel) (by decide +kernel)
set_option maxRecDepth 20000 in
theorem gX7_person_X5_bits : GoodIn wsX7_person (wsV RX7 72 RX5 yX5_bits wsX5_bits) := goodIn_app (goodIn_of _ (by decide +kernel)) ggX7_person_X5_bits
set_option maxRecDepth 20000 in
theorem ggX7_person_J6_bitCount_0f7a4 : GoodIn wsX7_person wsJ6_bitCount_0f7a4 := goodIn_r _ [31, 32, 33, 34] (by decide +kernel) (by decide +kernel)
set_option maxRecDepth 20000 in
theorem gX7_person_J6_bitCount_0f7a4 : GoodIn wsX7_person (va_wsS RX7 76 yJ6_bitCount_0f7a4 wsJ6_bitCount_0f7a4) := goodIn_app (goodIn_of _ (by decide +kernel)) ggX7_person_J6_bitCount_0f7a4
theorem dX7_person_0 : decode cX7_person 0 = .ok (.iload_n 1, 1) := by decide +kernel
theorem dX7_person_1 : decode cX7_person 1 = .ok (.iconst 0, 1) := by decide +kernel
theorem dX7_person_2 : decode cX7_person 2 = .ok (.iconst 5, 1) := by decide +kernel
theorem dX7_person_3 : decode cX7_person 3 = .ok (.invokestatic 64, 3) := by decide +kernel
theorem dX7_person_6 : decode cX7_person 6 = .ok (.ifCond .ne 5, 3) := by decide +kernel
theorem dX7_person_9 : decode cX7_person 9 = .ok (.iconst (-1), 1) := by decide +kernel
theorem dX7_person_10 : decode cX7_person 10 = .ok (.ireturn, 1) := by decide +kernel
theorem dX7_person_11 : decode cX7_person 11 = .ok (.iload_n 2, 1) := by decide +kernel
theorem dX7_person_12 : decode cX7_person 12 = .ok (.iconst 0, 1) := by decide +kernel
theorem dX7_person_13 : decode cX7_person 13 = .ok (.bipush 9, 2) := by decide +kernel
theorem dX7_person_15 : decode cX7_person 15 = .ok (.invokestatic 64, 3) := by decide +kernel
theorem dX7_person_18 : decode cX7_person 18 = .ok (.ifCond .eq 24, 3) := by decide +kernel
theorem dX7_person_21 : decode cX7_person 21 = .ok (.iload_n 3, 1) := by decide +kernel
theorem dX7_person_22 : decode cX7_person 22 = .ok (.iconst 0, 1) := by decide +kernel
theorem dX7_person_23 : decode cX7_person 23 = .ok (.bipush 9, 2) := by decide +kernel
theorem dX7_person_25 : decode cX7_person 25 = .ok (.invokestatic 64, 3) := by decide +kernel
theorem dX7_person_28 : decode cX7_person 28 = .ok (.ifCond .eq 14, 3) := by decide +kernel
theorem dX7_person_31 : decode cX7_person 31 = .ok (.iload 4, 2) := by decide +kernel
theorem dX7_person_33 : decode cX7_person 33 = .ok (.iconst 0, 1) := by decide +kernel
theorem dX7_person_34 : decode cX7_person 34 = .ok (.bipush 9, 2) := by decide +kernel
theorem dX7_person_36 : decode cX7_person 36 = .ok (.invokestatic 64, 3) := by decide +kernel
theorem dX7_person_39 : decode cX7_person 39 = .ok (.ifCond .ne 6, 3) := by decide +kernel
theorem dX7_person_42 : decode cX7_person 42 = .ok (.bipush (-2), 2) := by decide +kernel
theorem dX7_person_44 : decode cX7_person 44 = .ok (.ireturn, 1) := by decide +kernel
theorem dX7_person_45 : decode cX7_person 45 = .ok (.aload_n 0, 1) := by decide +kernel
theorem dX7_person_46 : decode cX7_person 46 = .ok (.getfield 10, 3) := by decide +kernel
theorem dX7_person_49 : decode cX7_person 49 = .ok (.iload_n 1, 1) := by decide +kernel
theorem dX7_person_50 : decode cX7_person 50 = .ok (.iload_n 2, 1) := by decide +kernel
theorem dX7_person_51 : decode cX7_person 51 = .ok (.iload_n 3, 1) := by decide +kernel
theorem dX7_person_52 : decode cX7_person 52 = .ok (.iload 4, 2) := by decide +kernel
theorem dX7_person_54 : decode cX7_person 54 = .ok (.iload 5, 2) := by decide +kernel
theorem dX7_person_56 : decode cX7_person 56 = .ok (.ifCond .eq 7, 3) := by decide +kernel
theorem dX7_person_59 : decode cX7_person 59 = .ok (.iconst 1, 1) := by decide +kernel
theorem dX7_person_60 : decode cX7_person 60 = .ok (.goto 4, 3) := by decide +kernel
theorem dX7_person_63 : decode cX7_person 63 = .ok (.iconst 0, 1) := by decide +kernel
theorem dX7_person_64 : decode cX7_person 64 = .ok (.invokevirtual 68, 3) := by decide +kernel
theorem dX7_person_67 : decode cX7_person 67 = .ok (.aload_n 0, 1) := by decide +kernel
theorem dX7_person_68 : decode cX7_person 68 = .ok (.getfield 10, 3) := by decide +kernel
theorem dX7_person_71 : decode cX7_person 71 = .ok (.invokevirtual 72, 3) := by decide +kernel
theorem dX7_person_74 : decode cX7_person 74 = .ok (.invokestatic 76, 3) := by decide +kernel
theorem dX7_person_77 : decode cX7_person 77 = .ok (.ireturn, 1) := by decide +kernel
set_option maxRecDepth 20000 in
theorem ggX7_leave_X5_isThere : GoodIn wsX7_leave wsX5_isThere := goodIn_r _ [6, 7, 8, 9, 10, 38, 39, 40, 41, 42, 43, 44, 45, 46, 47, 48, 49, 50] (by decide +kernel) (by decide +kernel)
set_option maxRecDepth 20000 in
theorem gX7_leave_X5_isThere : GoodIn wsX7_leave (wsV RX7 82 RX5 yX5_isThere wsX5_isThere) := goodIn_app (goodIn_of _ (by decide +kernel)) ggX7_leave_X5_isThere
set_option maxRecDepth 20000 in
theorem ggX7_leave_X5_go : GoodIn wsX7_leave wsX5_go := goodIn_r _ [14, 7, 15, 9, 16, 38, 39, 40, 41, 42, 43, 44, 45, 46, 47, 48, 49, 50] (by decide +kernel) (by decide +kernel)
set_option maxRecDepth 20000 in
theorem gX7_leave_X5_go : GoodIn wsX7_leave (wsV RX7 86 RX5 yX5_go wsX5_go) := goodIn_app (goodIn_of _ (by decide +kernel)) ggX7_leave_X5_go
set_option maxRecDepth 20000 in
theorem ggX7_leave_X5_bits : GoodIn wsX7_leave wsX5_bits := goodIn_r _ [20, 7, 8, 9, 10, 38, 39, 40, 41, 42, 43, 44, 45, 46, 47, 48, 49, 50] (by decide +kernel) (by decide +kernel)
set_option maxRecDepth 20000 in
theorem gX7_leave_X5_bits : GoodIn wsX7_leave (wsV RX7 72 RX5 yX5_bits wsX5_bits) := goodIn_app (goodIn_of _ (by decide +kernel)) ggX7_leave_X5_bits
set_option maxRecDepth 20000 in
theorem ggX7_leave_J6_bitCount_0f7a4 : GoodIn wsX7_leave wsJ6_bitCount_0f7a4 := goodIn_r _ [24, 25, 26, 27] (by decide +kernel) (by decide +kernel)
set_option maxRecDepth 20000 in
theorem gX7_leave_J6_bitCount_0f7a4 : GoodIn wsX7_leave (va_wsS RX7 76 yJ6_bitCount_0f7a4 wsJ6_bitCount_0f7a4) := goodIn_app (goodIn_of _ (by decide +kernel)) ggX7_leave_J6_bitCount_0f7a4
theorem dX7_leave_0 : decode cX7_leave 0 = .ok (.aload_n 0, 1) := by decide +kernel
theorem dX7_leave_1 : decode cX7_leave 1 = .ok (.getfield 10, 3) := by decide +kernel
theorem dX7_leave_4 : decode cX7_leave 4 = .ok (.iload_n 1, 1) := by decide +kernel
theorem dX7_leave_5 : decode cX7_leave 5 = .ok (.invokevirtual 82, 3) := by decide +kernel
theorem dX7_leave_8 : decode cX7_leave 8 = .ok (.ifCond .ne 5, 3) := by decide +kernel
theorem dX7_leave_11 : decode cX7_leave 11 = .ok (.iconst (-1), 1) := by decide +kernel
theorem dX7_leave_12 : decode cX7_leave 12 = .ok (.ireturn, 1) := by decide +kernel
theorem dX7_leave_13 : decode cX7_leave 13 = .ok (.aload_n 0, 1) := by decide +kernel
theorem dX7_leave_14 : decode cX7_leave 14 = .ok (.getfield 10, 3) := by decide +kernel
theorem dX7_leave_17 : decode cX7_leave 17 = .ok (.iload_n 1, 1) := by decide +kernel
theorem dX7_leave_18 : decode cX7_leave 18 = .ok (.invokevirtual 86, 3) := by decide +kernel
theorem dX7_leave_21 : decode cX7_leave 21 = .ok (.aload_n 0, 1) := by decide +kernel
theorem dX7_leave_22 : decode cX7_leave 22 = .ok (.getfield 10, 3) := by decide +kernel
theorem dX7_leave_25 : decode cX7_leave 25 = .ok (.invokevirtual 72, 3) := by decide +kernel
theorem dX7_leave_28 : decode cX7_leave 28 = .ok (.invokestatic 76, 3) := by decide +kernel
theorem dX7_leave_31 : decode cX7_leave 31 = .ok (.ireturn, 1) := by decide +kernel
set_option maxRecDepth 20000 in
theorem ggX7_set_X7_within : GoodIn wsX7_set wsX7_within := goodIn_r _ [8] (by decide +kernel) (by decide +kernel)
set_option maxRecDepth 20000 in
theorem gX7_set_X7_within : GoodIn wsX7_set (va_wsS RX7 64 yX7_within wsX7_within) := goodIn_app (goodIn_of _ (by decide +kernel)) ggX7_set_X7_within
set_option maxRecDepth 20000 in
theorem ggX7_set_X7_at : GoodIn wsX7_set wsX7_at := goodIn_r _ [11] (by decide +kernel) (by decide +kernel)
set_option maxRecDepth 20000 in
theorem gX7_set_X7_at : GoodIn wsX7_set (va_wsS RX7 94 yX7_at wsX7_at) := goodIn_app (goodIn_of _ (by decide +kernel)) ggX7_set_X7_at
set_option maxRecDepth 20000 in
theorem ggX7_set_X5_rule : GoodIn wsX7_set wsX5_rule := goodIn_r _ [16, 17, 10, 7, 11, 31, 32, 33, 34, 35, 36, 37, 38, 39, 40, 41, 42, 43] (by decide +kernel) (by decide +kernel)
set_option maxRecDepth 20000 in
theorem gX7_set_X5_rule : GoodIn wsX7_set (wsV RX7 101 RX5 yX5_rule wsX5_rule) := goodIn_app (goodIn_of _ (by decide +kernel)) ggX7_set_X5_rule
set_option maxRecDepth 20000 in
theorem ggX7_set_X7_put : GoodIn wsX7_set wsX7_put := goodIn_r _ [20] (by decide +kernel) (by decide +kernel)
set_option maxRecDepth 20000 in
theorem gX7_set_X7_put : GoodIn wsX7_set (va_wsS RX7 107 yX7_put wsX7_put) := goodIn_app (goodIn_of _ (by decide +kernel)) ggX7_set_X7_put
theorem dX7_set_0 : decode cX7_set 0 = .ok (.iload_n 1, 1) := by decide +kernel
theorem dX7_set_1 : decode cX7_set 1 = .ok (.iconst 0, 1) := by decide +kernel
theorem dX7_set_2 : decode cX7_set 2 = .ok (.bipush 6, 2) := by decide +kernel
theorem dX7_set_4 : decode cX7_set 4 = .ok (.invokestatic 64, 3) := by decide +kernel
theorem dX7_set_7 : decode cX7_set 7 = .ok (.ifCond .eq 24, 3) := by decide +kernel
theorem dX7_set_10 : decode cX7_set 10 = .ok (.iload_n 2, 1) := by decide +kernel
theorem dX7_set_11 : decode cX7_set 11 = .ok (.getstatic 90, 3) := by decide +kernel
theorem dX7_set_14 : decode cX7_set 14 = .ok (.iload_n 1, 1) := by decide +kernel
theorem dX7_set_15 : decode cX7_set 15 = .ok (.invokestatic 94, 3) := by decide +kernel
theorem dX7_set_18 : decode cX7_set 18 = .ok (.getstatic 98, 3) := by decide +kernel
theorem dX7_set_21 : decode cX7_set 21 = .ok (.iload_n 1, 1) := by decide +kernel
theorem dX7_set_22 : decode cX7_set 22 = .ok (.invokestatic 94, 3) := by decide +kernel
theorem dX7_set_25 : decode cX7_set 25 = .ok (.invokestatic 64, 3) := by decide +kernel
theorem dX7_set_28 : decode cX7_set 28 = .ok (.ifCond .ne 6, 3) := by decide +kernel
theorem dX7_set_31 : decode cX7_set 31 = .ok (.bipush (-2), 2) := by decide +kernel
theorem dX7_set_33 : decode cX7_set 33 = .ok (.ireturn, 1) := by decide +kernel
theorem dX7_set_34 : decode cX7_set 34 = .ok (.aload_n 0, 1) := by decide +kernel
theorem dX7_set_35 : decode cX7_set 35 = .ok (.getfield 10, 3) := by decide +kernel
theorem dX7_set_38 : decode cX7_set 38 = .ok (.iload_n 1, 1) := by decide +kernel
theorem dX7_set_39 : decode cX7_set 39 = .ok (.invokevirtual 101, 3) := by decide +kernel
theorem dX7_set_42 : decode cX7_set 42 = .ok (.istore_n 3, 1) := by decide +kernel
theorem dX7_set_43 : decode cX7_set 43 = .ok (.aload_n 0, 1) := by decide +kernel
theorem dX7_set_44 : decode cX7_set 44 = .ok (.getfield 10, 3) := by decide +kernel
theorem dX7_set_47 : decode cX7_set 47 = .ok (.getfield 104, 3) := by decide +kernel
theorem dX7_set_50 : decode cX7_set 50 = .ok (.iload_n 1, 1) := by decide +kernel
theorem dX7_set_51 : decode cX7_set 51 = .ok (.iload_n 2, 1) := by decide +kernel
theorem dX7_set_52 : decode cX7_set 52 = .ok (.invokestatic 107, 3) := by decide +kernel
theorem dX7_set_55 : decode cX7_set 55 = .ok (.iload_n 3, 1) := by decide +kernel
theorem dX7_set_56 : decode cX7_set 56 = .ok (.ireturn, 1) := by decide +kernel
set_option maxRecDepth 20000 in
theorem ggX7_say_X7_within : GoodIn wsX7_say wsX7_within := goodIn_r _ [6] (by decide +kernel) (by decide +kernel)
set_option maxRecDepth 20000 in
theorem gX7_say_X7_within : GoodIn wsX7_say (va_wsS RX7 64 yX7_within wsX7_within) := goodIn_app (goodIn_of _ (by decide +kernel)) ggX7_say_X7_within
set_option maxRecDepth 20000 in
theorem ggX7_say_X3_add : GoodIn wsX7_say wsX3_add := goodIn_r _ [11, 12, 13, 14, 5, 15, 26, 27] (by decide +kernel) (by decide +kernel)
set_option maxRecDepth 20000 in
theorem gX7_say_X3_add : GoodIn wsX7_say (wsV RX7 111 RX3 yX3_add wsX3_add) := goodIn_app (goodIn_of _ (by decide +kernel)) ggX7_say_X3_add
theorem dX7_say_0 : decode cX7_say 0 = .ok (.iload_n 1, 1) := by decide +kernel
theorem dX7_say_1 : decode cX7_say 1 = .ok (.bipush 33, 2) := by decide +kernel
theorem dX7_say_3 : decode cX7_say 3 = .ok (.bipush 126, 2) := by decide +kernel
theorem dX7_say_5 : decode cX7_say 5 = .ok (.invokestatic 64, 3) := by decide +kernel
theorem dX7_say_8 : decode cX7_say 8 = .ok (.ifCond .ne 6, 3) := by decide +kernel
theorem dX7_say_11 : decode cX7_say 11 = .ok (.bipush (-2), 2) := by decide +kernel
theorem dX7_say_13 : decode cX7_say 13 = .ok (.ireturn, 1) := by decide +kernel
theorem dX7_say_14 : decode cX7_say 14 = .ok (.aload_n 0, 1) := by decide +kernel
theorem dX7_say_15 : decode cX7_say 15 = .ok (.getfield 32, 3) := by decide +kernel
theorem dX7_say_18 : decode cX7_say 18 = .ok (.iload_n 1, 1) := by decide +kernel
theorem dX7_say_19 : decode cX7_say 19 = .ok (.invokevirtual 111, 3) := by decide +kernel
theorem dX7_say_22 : decode cX7_say 22 = .ok (.ifCond .eq 13, 3) := by decide +kernel
theorem dX7_say_25 : decode cX7_say 25 = .ok (.aload_n 0, 1) := by decide +kernel
theorem dX7_say_26 : decode cX7_say 26 = .ok (.getfield 32, 3) := by decide +kernel
theorem dX7_say_29 : decode cX7_say 29 = .ok (.getfield 114, 3) := by decide +kernel
theorem dX7_say_32 : decode cX7_say 32 = .ok (.goto 5, 3) := by decide +kernel
theorem dX7_say_35 : decode cX7_say 35 = .ok (.bipush (-4), 2) := by decide +kernel
theorem dX7_say_37 : decode cX7_say 37 = .ok (.ireturn, 1) := by decide +kernel
set_option maxRecDepth 20000 in
theorem ggX7_wipe_X3_clear : GoodIn wsX7_wipe wsX3_clear := goodIn_r _ [7, 8, 19, 20] (by decide +kernel) (by decide +kernel)
set_option maxRecDepth 20000 in
theorem gX7_wipe_X3_clear : GoodIn wsX7_wipe (wsV RX7 118 RX3 yX3_clear wsX3_clear) := goodIn_app (goodIn_of _ (by decide +kernel)) ggX7_wipe_X3_clear
theorem dX7_wipe_0 : decode cX7_wipe 0 = .ok (.aload_n 0, 1) := by decide +kernel
theorem dX7_wipe_1 : decode cX7_wipe 1 = .ok (.getfield 32, 3) := by decide +kernel
theorem dX7_wipe_4 : decode cX7_wipe 4 = .ok (.getfield 114, 3) := by decide +kernel
theorem dX7_wipe_7 : decode cX7_wipe 7 = .ok (.istore_n 1, 1) := by decide +kernel
theorem dX7_wipe_8 : decode cX7_wipe 8 = .ok (.aload_n 0, 1) := by decide +kernel
theorem dX7_wipe_9 : decode cX7_wipe 9 = .ok (.getfield 32, 3) := by decide +kernel
theorem dX7_wipe_12 : decode cX7_wipe 12 = .ok (.invokevirtual 118, 3) := by decide +kernel
theorem dX7_wipe_15 : decode cX7_wipe 15 = .ok (.iload_n 1, 1) := by decide +kernel
theorem dX7_wipe_16 : decode cX7_wipe 16 = .ok (.ireturn, 1) := by decide +kernel
set_option maxRecDepth 20000 in
theorem ggX7_fault_X3_faultAt : GoodIn wsX7_fault wsX3_faultAt := goodIn_r _ [6, 7, 8, 9, 10, 11, 12, 13, 5, 14, 15, 16, 17, 18, 19, 30, 31] (by decide +kernel) (by decide +kernel)
set_option maxRecDepth 20000 in
theorem gX7_fault_X3_faultAt : GoodIn wsX7_fault (wsV RX7 121 RX3 yX3_faultAt wsX3_faultAt) := goodIn_app (goodIn_of _ (by decide +kernel)) ggX7_fault_X3_faultAt
theorem dX7_fault_0 : decode cX7_fault 0 = .ok (.aload_n 0, 1) := by decide +kernel
theorem dX7_fault_1 : decode cX7_fault 1 = .ok (.getfield 32, 3) := by decide +kernel
theorem dX7_fault_4 : decode cX7_fault 4 = .ok (.invokevirtual 121, 3) := by decide +kernel
theorem dX7_fault_7 : decode cX7_fault 7 = .ok (.ireturn, 1) := by decide +kernel
set_option maxRecDepth 20000 in
theorem ggX7_judge_X7_within : GoodIn wsX7_judge wsX7_within := goodIn_r _ [10] (by decide +kernel) (by decide +kernel)
set_option maxRecDepth 20000 in
theorem gX7_judge_X7_within : GoodIn wsX7_judge (va_wsS RX7 64 yX7_within wsX7_within) := goodIn_app (goodIn_of _ (by decide +kernel)) ggX7_judge_X7_within
set_option maxRecDepth 20000 in
theorem ggX7_judge_X7_playSummer : GoodIn wsX7_judge wsX7_playSummer := goodIn_r _ [14, 15, 1, 16, 3, 17, 18, 19, 20, 21, 22, 23, 24, 9, 25, 26, 27, 28, 29, 30, 31, 8, 10, 32, 33, 34, 35, 36, 37, 38, 39, 40, 41, 42, 43, 44, 45, 46, 47, 48, 49, 50, 51, 52, 53, 54, 55, 56, 57, 58, 59, 60, 61, 62, 63, 64, 65, 66, 67, 68, 69, 70, 71, 72, 73, 74, 75, 76, 77, 78, 79, 80, 81, 82, 83, 84, 85, 86, 87, 88, 89, 90, 91, 92, 93, 94, 95, 96, 97, 98, 99, 100, 101, 102, 103, 104, 105, 106, 107, 108, 109, 110, 111, 112, 113, 114, 115, 116, 117, 118, 119, 120, 121, 122, 123, 124, 125, 126, 127, 128, 129, 130, 131, 132, 133, 134, 135, 136, 137, 138, 139, 140, 141, 142, 143, 144, 145, 146, 147, 148, 149, 150, 151, 152, 153, 154, 155, 156, 157, 158, 159, 160, 161, 162, 163, 164, 165, 166] (by decide +kernel) (by decide +kernel)
set_option maxRecDepth 20000 in
theorem gX7_judge_X7_playSummer : GoodIn wsX7_judge (wsV RX7 124 RX7 yX7_playSummer wsX7_playSummer) := goodIn_app (goodIn_of _ (by decide +kernel)) ggX7_judge_X7_playSummer
theorem dX7_judge_0 : decode cX7_judge 0 = .ok (.iload_n 1, 1) := by decide +kernel
theorem dX7_judge_1 : decode cX7_judge 1 = .ok (.iconst 0, 1) := by decide +kernel
theorem dX7_judge_2 : decode cX7_judge 2 = .ok (.iconst 4, 1) := by decide +kernel
theorem dX7_judge_3 : decode cX7_judge 3 = .ok (.invokestatic 64, 3) := by decide +kernel
theorem dX7_judge_6 : decode cX7_judge 6 = .ok (.ifCond .ne 6, 3) := by decide +kernel
theorem dX7_judge_9 : decode cX7_judge 9 = .ok (.bipush (-2), 2) := by decide +kernel
theorem dX7_judge_11 : decode cX7_judge 11 = .ok (.ireturn, 1) := by decide +kernel
theorem dX7_judge_12 : decode cX7_judge 12 = .ok (.aload_n 0, 1) := by decide +kernel
theorem dX7_judge_13 : decode cX7_judge 13 = .ok (.invokevirtual 124, 3) := by decide +kernel
theorem dX7_judge_16 : decode cX7_judge 16 = .ok (.istore_n 2, 1) := by decide +kernel
theorem dX7_judge_17 : decode cX7_judge 17 = .ok (.iload_n 2, 1) := by decide +kernel
theorem dX7_judge_18 : decode cX7_judge 18 = .ok (.bipush (-5), 2) := by decide +kernel
theorem dX7_judge_20 : decode cX7_judge 20 = .ok (.if_icmp .eq 14, 3) := by decide +kernel
theorem dX7_judge_23 : decode cX7_judge 23 = .ok (.iload_n 2, 1) := by decide +kernel
theorem dX7_judge_24 : decode cX7_judge 24 = .ok (.bipush (-3), 2) := by decide +kernel
theorem dX7_judge_26 : decode cX7_judge 26 = .ok (.if_icmp .ne 10, 3) := by decide +kernel
theorem dX7_judge_29 : decode cX7_judge 29 = .ok (.iload_n 1, 1) := by decide +kernel
theorem dX7_judge_30 : decode cX7_judge 30 = .ok (.iconst 2, 1) := by decide +kernel
theorem dX7_judge_31 : decode cX7_judge 31 = .ok (.if_icmp .lt 5, 3) := by decide +kernel
theorem dX7_judge_34 : decode cX7_judge 34 = .ok (.iload_n 2, 1) := by decide +kernel
theorem dX7_judge_35 : decode cX7_judge 35 = .ok (.ireturn, 1) := by decide +kernel
theorem dX7_judge_36 : decode cX7_judge 36 = .ok (.iload_n 1, 1) := by decide +kernel
theorem dX7_judge_37 : decode cX7_judge 37 = .ok (.tableswitch 85 0 3 #[31, 50, 69, 77], 31) := by decide +kernel
theorem dX7_judge_68 : decode cX7_judge 68 = .ok (.iload_n 2, 1) := by decide +kernel
theorem dX7_judge_69 : decode cX7_judge 69 = .ok (.bipush (-3), 2) := by decide +kernel
theorem dX7_judge_71 : decode cX7_judge 71 = .ok (.if_icmp .ne 13, 3) := by decide +kernel
theorem dX7_judge_74 : decode cX7_judge 74 = .ok (.aload_n 0, 1) := by decide +kernel
theorem dX7_judge_75 : decode cX7_judge 75 = .ok (.getfield 39, 3) := by decide +kernel
theorem dX7_judge_78 : decode cX7_judge 78 = .ok (.getfield 127, 3) := by decide +kernel
theorem dX7_judge_81 : decode cX7_judge 81 = .ok (.goto 5, 3) := by decide +kernel
theorem dX7_judge_84 : decode cX7_judge 84 = .ok (.bipush (-6), 2) := by decide +kernel
theorem dX7_judge_86 : decode cX7_judge 86 = .ok (.ireturn, 1) := by decide +kernel
theorem dX7_judge_87 : decode cX7_judge 87 = .ok (.iload_n 2, 1) := by decide +kernel
theorem dX7_judge_88 : decode cX7_judge 88 = .ok (.bipush (-3), 2) := by decide +kernel
theorem dX7_judge_90 : decode cX7_judge 90 = .ok (.if_icmp .ne 13, 3) := by decide +kernel
theorem dX7_judge_93 : decode cX7_judge 93 = .ok (.aload_n 0, 1) := by decide +kernel
theorem dX7_judge_94 : decode cX7_judge 94 = .ok (.getfield 39, 3) := by decide +kernel
theorem dX7_judge_97 : decode cX7_judge 97 = .ok (.getfield 130, 3) := by decide +kernel
theorem dX7_judge_100 : decode cX7_judge 100 = .ok (.goto 5, 3) := by decide +kernel
theorem dX7_judge_103 : decode cX7_judge 103 = .ok (.bipush (-6), 2) := by decide +kernel
theorem dX7_judge_105 : decode cX7_judge 105 = .ok (.ireturn, 1) := by decide +kernel
theorem dX7_judge_106 : decode cX7_judge 106 = .ok (.aload_n 0, 1) := by decide +kernel
theorem dX7_judge_107 : decode cX7_judge 107 = .ok (.getfield 39, 3) := by decide +kernel
theorem dX7_judge_110 : decode cX7_judge 110 = .ok (.getfield 133, 3) := by decide +kernel
theorem dX7_judge_113 : decode cX7_judge 113 = .ok (.ireturn, 1) := by decide +kernel
theorem dX7_judge_114 : decode cX7_judge 114 = .ok (.aload_n 0, 1) := by decide +kernel
theorem dX7_judge_115 : decode cX7_judge 115 = .ok (.getfield 39, 3) := by decide +kernel
theorem dX7_judge_118 : decode cX7_judge 118 = .ok (.getfield 136, 3) := by decide +kernel
theorem dX7_judge_121 : decode cX7_judge 121 = .ok (.ireturn, 1) := by decide +kernel
theorem dX7_judge_122 : decode cX7_judge 122 = .ok (.aload_n 0, 1) := by decide +kernel
theorem dX7_judge_123 : decode cX7_judge 123 = .ok (.getfield 39, 3) := by decide +kernel
theorem dX7_judge_126 : decode cX7_judge 126 = .ok (.getfield 139, 3) := by decide +kernel
theorem dX7_judge_129 : decode cX7_judge 129 = .ok (.ireturn, 1) := by decide +kernel
set_option maxRecDepth 20000 in
theorem ggX7_state_X5_isThere : GoodIn wsX7_state wsX5_isThere := goodIn_r _ [6, 7, 8, 9, 10, 31, 32, 33, 34, 35, 36, 37, 38, 39, 40, 41, 42, 43] (by decide +kernel) (by decide +kernel)
set_option maxRecDepth 20000 in
theorem gX7_state_X5_isThere : GoodIn wsX7_state (wsV RX7 82 RX5 yX5_isThere wsX5_isThere) := goodIn_app (goodIn_of _ (by decide +kernel)) ggX7_state_X5_isThere
set_option maxRecDepth 20000 in
theorem ggX7_state_X7_within : GoodIn wsX7_state wsX7_within := goodIn_r _ [13] (by decide +kernel) (by decide +kernel)
set_option maxRecDepth 20000 in
theorem gX7_state_X7_within : GoodIn wsX7_state (va_wsS RX7 64 yX7_within wsX7_within) := goodIn_app (goodIn_of _ (by decide +kernel)) ggX7_state_X7_within
set_option maxRecDepth 20000 in
theorem ggX7_state_X5_standing : GoodIn wsX7_state wsX5_standing := goodIn_r _ [17, 18, 19, 20, 8, 9, 10, 31, 32, 33, 34, 35, 36, 37, 38, 39, 40, 41, 42, 43] (by decide +kernel) (by decide +kernel)
set_option maxRecDepth 20000 in
theorem gX7_state_X5_standing : GoodIn wsX7_state (wsV RX7 142 RX5 yX5_standing wsX5_standing) := goodIn_app (goodIn_of _ (by decide +kernel)) ggX7_state_X5_standing
theorem dX7_state_0 : decode cX7_state 0 = .ok (.aload_n 0, 1) := by decide +kernel
theorem dX7_state_1 : decode cX7_state 1 = .ok (.getfield 10, 3) := by decide +kernel
theorem dX7_state_4 : decode cX7_state 4 = .ok (.iload_n 1, 1) := by decide +kernel
theorem dX7_state_5 : decode cX7_state 5 = .ok (.invokevirtual 82, 3) := by decide +kernel
theorem dX7_state_8 : decode cX7_state 8 = .ok (.ifCond .ne 5, 3) := by decide +kernel
theorem dX7_state_11 : decode cX7_state 11 = .ok (.iconst (-1), 1) := by decide +kernel
theorem dX7_state_12 : decode cX7_state 12 = .ok (.ireturn, 1) := by decide +kernel
theorem dX7_state_13 : decode cX7_state 13 = .ok (.iload_n 2, 1) := by decide +kernel
theorem dX7_state_14 : decode cX7_state 14 = .ok (.iconst 0, 1) := by decide +kernel
theorem dX7_state_15 : decode cX7_state 15 = .ok (.iconst 2, 1) := by decide +kernel
theorem dX7_state_16 : decode cX7_state 16 = .ok (.invokestatic 64, 3) := by decide +kernel
theorem dX7_state_19 : decode cX7_state 19 = .ok (.ifCond .eq 15, 3) := by decide +kernel
theorem dX7_state_22 : decode cX7_state 22 = .ok (.aload_n 0, 1) := by decide +kernel
theorem dX7_state_23 : decode cX7_state 23 = .ok (.getfield 10, 3) := by decide +kernel
theorem dX7_state_26 : decode cX7_state 26 = .ok (.iload_n 1, 1) := by decide +kernel
theorem dX7_state_27 : decode cX7_state 27 = .ok (.iload_n 2, 1) := by decide +kernel
theorem dX7_state_28 : decode cX7_state 28 = .ok (.invokevirtual 142, 3) := by decide +kernel
theorem dX7_state_31 : decode cX7_state 31 = .ok (.goto 5, 3) := by decide +kernel
theorem dX7_state_34 : decode cX7_state 34 = .ok (.bipush (-2), 2) := by decide +kernel
theorem dX7_state_36 : decode cX7_state 36 = .ok (.ireturn, 1) := by decide +kernel
set_option maxRecDepth 20000 in
theorem ggX7_behind_X5_isThere : GoodIn wsX7_behind wsX5_isThere := goodIn_r _ [8, 9, 10, 11, 12, 152, 153, 154, 155, 156, 157, 158, 159, 160, 161, 162, 163, 164] (by decide +kernel) (by decide +kernel)
set_option maxRecDepth 20000 in
theorem gX7_behind_X5_isThere : GoodIn wsX7_behind (wsV RX7 82 RX5 yX5_isThere wsX5_isThere) := goodIn_app (goodIn_of _ (by decide +kernel)) ggX7_behind_X5_isThere
set_option maxRecDepth 20000 in
theorem ggX7_behind_X7_within : GoodIn wsX7_behind wsX7_within := goodIn_r _ [15] (by decide +kernel) (by decide +kernel)
set_option maxRecDepth 20000 in
theorem gX7_behind_X7_within : GoodIn wsX7_behind (va_wsS RX7 64 yX7_within wsX7_within) := goodIn_app (goodIn_of _ (by decide +kernel)) ggX7_behind_X7_within
set_option maxRecDepth 20000 in
theorem ggX7_behind_X7_playSummer : GoodIn wsX7_behind wsX7_playSummer := goodIn_r _ [19, 20, 2, 1, 21, 22, 23, 24, 25, 26, 27, 28, 10, 11, 12, 29, 30, 31, 32, 33, 34, 14, 15, 35, 36, 37, 38, 39, 40, 41, 42, 43, 44, 45, 46, 47, 48, 49, 50, 51, 52, 53, 54, 55, 56, 57, 7, 58, 59, 9, 60, 61, 62, 63, 64, 65, 66, 67, 68, 69, 70, 71, 72, 73, 74, 75, 76, 77, 78, 79, 80, 81, 82, 83, 84, 85, 86, 87, 88, 89, 90, 91, 92, 93, 94, 95, 96, 97, 98, 99, 100, 101, 102, 103, 5, 6, 8, 104, 105, 106, 107, 108, 109, 110, 111, 112, 113, 114, 115, 116, 117, 118, 119, 120, 121, 122, 123, 124, 125, 126, 127, 128, 133, 134, 135, 136, 137, 138, 139, 140, 141, 142, 143, 144, 145, 146, 147, 148, 149, 150, 151, 165, 166, 152, 153, 154, 155, 156, 157, 158, 159, 160, 161, 162, 163, 164, 167, 168] (by decide +kernel) (by decide +kernel)
set_option maxRecDepth 20000 in
theorem gX7_behind_X7_playSummer : GoodIn wsX7_behind (wsV RX7 124 RX7 yX7_playSummer wsX7_playSummer) := goodIn_app (goodIn_of _ (by decide +kernel)) ggX7_behind_X7_playSummer
set_option maxRecDepth 20000 in
theorem ggX7_behind_X5_standing : GoodIn wsX7_behind wsX5_standing := goodIn_r _ [132, 65, 64, 66, 10, 11, 12, 152, 153, 154, 155, 156, 157, 158, 159, 160, 161, 162, 163, 164] (by decide +kernel) (by decide +kernel)
set_option maxRecDepth 20000 in
theorem gX7_behind_X5_standing : GoodIn wsX7_behind (wsV RX7 142 RX5 yX5_standing wsX5_standing) := goodIn_app (goodIn_of _ (by decide +kernel)) ggX7_behind_X5_standing
theorem dX7_behind_0 : decode cX7_behind 0 = .ok (.aload_n 0, 1) := by decide +kernel
theorem dX7_behind_1 : decode cX7_behind 1 = .ok (.getfield 10, 3) := by decide +kernel
theorem dX7_behind_4 : decode cX7_behind 4 = .ok (.iload_n 1, 1) := by decide +kernel
theorem dX7_behind_5 : decode cX7_behind 5 = .ok (.invokevirtual 82, 3) := by decide +kernel
theorem dX7_behind_8 : decode cX7_behind 8 = .ok (.ifCond .ne 5, 3) := by decide +kernel
theorem dX7_behind_11 : decode cX7_behind 11 = .ok (.iconst (-1), 1) := by decide +kernel
theorem dX7_behind_12 : decode cX7_behind 12 = .ok (.ireturn, 1) := by decide +kernel
theorem dX7_behind_13 : decode cX7_behind 13 = .ok (.iload_n 2, 1) := by decide +kernel
theorem dX7_behind_14 : decode cX7_behind 14 = .ok (.iconst 0, 1) := by decide +kernel
theorem dX7_behind_15 : decode cX7_behind 15 = .ok (.iconst 2, 1) := by decide +kernel
theorem dX7_behind_16 : decode cX7_behind 16 = .ok (.invokestatic 64, 3) := by decide +kernel
theorem dX7_behind_19 : decode cX7_behind 19 = .ok (.ifCond .ne 6, 3) := by decide +kernel
theorem dX7_behind_22 : decode cX7_behind 22 = .ok (.bipush (-2), 2) := by decide +kernel
theorem dX7_behind_24 : decode cX7_behind 24 = .ok (.ireturn, 1) := by decide +kernel
theorem dX7_behind_25 : decode cX7_behind 25 = .ok (.aload_n 0, 1) := by decide +kernel
theorem dX7_behind_26 : decode cX7_behind 26 = .ok (.invokevirtual 124, 3) := by decide +kernel
theorem dX7_behind_29 : decode cX7_behind 29 = .ok (.istore_n 3, 1) := by decide +kernel
theorem dX7_behind_30 : decode cX7_behind 30 = .ok (.iload_n 3, 1) := by decide +kernel
theorem dX7_behind_31 : decode cX7_behind 31 = .ok (.ifCond .eq 7, 3) := by decide +kernel
theorem dX7_behind_34 : decode cX7_behind 34 = .ok (.iload_n 3, 1) := by decide +kernel
theorem dX7_behind_35 : decode cX7_behind 35 = .ok (.goto 15, 3) := by decide +kernel
theorem dX7_behind_38 : decode cX7_behind 38 = .ok (.aload_n 0, 1) := by decide +kernel
theorem dX7_behind_39 : decode cX7_behind 39 = .ok (.getfield 39, 3) := by decide +kernel
theorem dX7_behind_42 : decode cX7_behind 42 = .ok (.getfield 146, 3) := by decide +kernel
theorem dX7_behind_45 : decode cX7_behind 45 = .ok (.iload_n 1, 1) := by decide +kernel
theorem dX7_behind_46 : decode cX7_behind 46 = .ok (.iload_n 2, 1) := by decide +kernel
theorem dX7_behind_47 : decode cX7_behind 47 = .ok (.invokevirtual 142, 3) := by decide +kernel
theorem dX7_behind_50 : decode cX7_behind 50 = .ok (.ireturn, 1) := by decide +kernel
set_option maxRecDepth 20000 in
theorem ggX7_done_X7_playSummer : GoodIn wsX7_done wsX7_playSummer := goodIn_r _ [10, 4, 2, 1, 11, 12, 13, 14, 15, 16, 17, 18, 19, 9, 20, 21, 22, 23, 24, 25, 26, 27, 28, 29, 30, 31, 32, 33, 34, 35, 36, 37, 38, 39, 40, 41, 42, 43, 44, 45, 46, 47, 48, 49, 50, 51, 52, 53, 54, 55, 56, 57, 58, 59, 60, 61, 62, 63, 64, 65, 66, 67, 68, 69, 70, 71, 72, 73, 74, 75, 76, 77, 78, 79, 80, 81, 82, 83, 84, 85, 86, 87, 88, 89, 90, 91, 92, 93, 94, 95, 96, 97, 98, 99, 100, 101, 102, 103, 104, 105, 106, 107, 108, 109, 110, 111, 112, 113, 114, 115, 116, 117, 118, 119, 120, 121, 122, 123, 124, 125, 126, 127, 133, 134, 135, 136, 137, 138, 139, 140, 141, 142, 143, 144, 145, 146, 147, 148, 149, 150, 151, 152, 153, 154, 155, 156, 157, 158, 159, 160, 161, 162, 163, 164, 165, 166, 167, 168] (by decide +kernel) (by decide +kernel)
set_option maxRecDepth 20000 in
theorem gX7_done_X7_playSummer : GoodIn wsX7_done (wsV RX7 124 RX7 yX7_playSummer wsX7_playSummer) := goodIn_app (goodIn_of _ (by decide +kernel)) ggX7_done_X7_playSummer
set_option maxRecDepth 20000 in
theorem ggX7_done_X5_copyFrom : GoodIn wsX7_done wsX5_copyFrom := goodIn_r _ [53, 54, 55, 56, 57, 58, 59, 60, 61, 62, 63, 64, 65, 66, 67, 9, 68, 69, 19, 20, 70, 71, 72, 154, 155, 156, 157, 158, 159, 160, 161, 162, 163, 164, 165, 166] (by decide +kernel) (by decide +kernel)
set_option maxRecDepth 20000 in
theorem gX7_done_X5_copyFrom : GoodIn wsX7_done (wsV RX7 149 RX5 yX5_copyFrom wsX5_copyFrom) := goodIn_app (goodIn_of _ (by decide +kernel)) ggX7_done_X5_copyFrom
set_option maxRecDepth 20000 in
theorem ggX7_done_X3_clear : GoodIn wsX7_done wsX3_clear := goodIn_r _ [132, 17, 152, 153] (by decide +kernel) (by decide +kernel)
set_option maxRecDepth 20000 in
theorem gX7_done_X3_clear : GoodIn wsX7_done (wsV RX7 118 RX3 yX3_clear wsX3_clear) := goodIn_app (goodIn_of _ (by decide +kernel)) ggX7_done_X3_clear
theorem dX7_done_0 : decode cX7_done 0 = .ok (.aload_n 0, 1) := by decide +kernel
theorem dX7_done_1 : decode cX7_done 1 = .ok (.invokevirtual 124, 3) := by decide +kernel
theorem dX7_done_4 : decode cX7_done 4 = .ok (.istore_n 1, 1) := by decide +kernel
theorem dX7_done_5 : decode cX7_done 5 = .ok (.iload_n 1, 1) := by decide +kernel
theorem dX7_done_6 : decode cX7_done 6 = .ok (.ifCond .eq 5, 3) := by decide +kernel
theorem dX7_done_9 : decode cX7_done 9 = .ok (.iload_n 1, 1) := by decide +kernel
theorem dX7_done_10 : decode cX7_done 10 = .ok (.ireturn, 1) := by decide +kernel
theorem dX7_done_11 : decode cX7_done 11 = .ok (.aload_n 0, 1) := by decide +kernel
theorem dX7_done_12 : decode cX7_done 12 = .ok (.getfield 10, 3) := by decide +kernel
theorem dX7_done_15 : decode cX7_done 15 = .ok (.aload_n 0, 1) := by decide +kernel
theorem dX7_done_16 : decode cX7_done 16 = .ok (.getfield 39, 3) := by decide +kernel
theorem dX7_done_19 : decode cX7_done 19 = .ok (.getfield 146, 3) := by decide +kernel
theorem dX7_done_22 : decode cX7_done 22 = .ok (.invokevirtual 149, 3) := by decide +kernel
theorem dX7_done_25 : decode cX7_done 25 = .ok (.aload_n 0, 1) := by decide +kernel
theorem dX7_done_26 : decode cX7_done 26 = .ok (.getfield 32, 3) := by decide +kernel
theorem dX7_done_29 : decode cX7_done 29 = .ok (.invokevirtual 118, 3) := by decide +kernel
theorem dX7_done_32 : decode cX7_done 32 = .ok (.aload_n 0, 1) := by decide +kernel
theorem dX7_done_33 : decode cX7_done 33 = .ok (.getfield 39, 3) := by decide +kernel
theorem dX7_done_36 : decode cX7_done 36 = .ok (.getfield 127, 3) := by decide +kernel
theorem dX7_done_39 : decode cX7_done 39 = .ok (.ireturn, 1) := by decide +kernel
set_option maxRecDepth 20000 in
theorem ggX7_ties_X7_within : GoodIn wsX7_ties wsX7_within := goodIn_r _ [6] (by decide +kernel) (by decide +kernel)
set_option maxRecDepth 20000 in
theorem gX7_ties_X7_within : GoodIn wsX7_ties (va_wsS RX7 64 yX7_within wsX7_within) := goodIn_app (goodIn_of _ (by decide +kernel)) ggX7_ties_X7_within
set_option maxRecDepth 20000 in
theorem ggX7_ties_X7_playSummer : GoodIn wsX7_ties wsX7_playSummer := goodIn_r _ [10, 11, 1, 12, 13, 14, 15, 16, 17, 18, 19, 20, 21, 5, 22, 23, 24, 25, 26, 27, 28, 4, 6, 29, 30, 31, 32, 33, 34, 35, 36, 37, 38, 39, 40, 41, 42, 43, 44, 45, 46, 47, 48, 49, 50, 51, 52, 53, 54, 55, 56, 57, 58, 59, 60, 61, 62, 63, 64, 65, 66, 67, 68, 69, 70, 71, 72, 73, 74, 75, 76, 77, 78, 79, 80, 81, 82, 83, 84, 85, 86, 87, 88, 89, 90, 91, 92, 93, 94, 95, 96, 97, 98, 99, 100, 101, 102, 103, 104, 105, 106, 107, 108, 109, 110, 111, 112, 113, 114, 115, 116, 117, 118, 119, 120, 121, 122, 123, 124, 125, 126, 127, 132, 133, 134, 135, 136, 137, 138, 139, 140, 141, 142, 143, 144, 145, 146, 147, 148, 149, 150, 151, 152, 153, 154, 155, 156, 157, 158, 159, 160, 161, 162, 163, 164, 165, 166, 167] (by decide +kernel) (by decide +kernel)
set_option maxRecDepth 20000 in
theorem gX7_ties_X7_playSummer : GoodIn wsX7_ties (wsV RX7 124 RX7 yX7_playSummer wsX7_playSummer) := goodIn_app (goodIn_of _ (by decide +kernel)) ggX7_ties_X7_playSummer
set_option maxRecDepth 20000 in
theorem ggX7_ties_X4_closest : GoodIn wsX7_ties wsX4_closest := goodIn_r _ [131, 43, 21, 5, 22, 142, 143, 144, 145, 146, 147, 148, 149, 150] (by decide +kernel) (by decide +kernel)
set_option maxRecDepth 20000 in
theorem gX7_ties_X4_closest : GoodIn wsX7_ties (wsV RX7 153 RX4 yX4_closest wsX4_closest) := goodIn_app (goodIn_of _ (by decide +kernel)) ggX7_ties_X4_closest
set_option maxRecDepth 20000 in
theorem ggX7_ties_X7_at : GoodIn wsX7_ties wsX7_at := goodIn_r _ [22] (by decide +kernel) (by decide +kernel)
set_option maxRecDepth 20000 in
theorem gX7_ties_X7_at : GoodIn wsX7_ties (va_wsS RX7 94 yX7_at wsX7_at) := goodIn_app (goodIn_of _ (by decide +kernel)) ggX7_ties_X7_at
theorem dX7_ties_0 : decode cX7_ties 0 = .ok (.iload_n 1, 1) := by decide +kernel
theorem dX7_ties_1 : decode cX7_ties 1 = .ok (.iconst 0, 1) := by decide +kernel
theorem dX7_ties_2 : decode cX7_ties 2 = .ok (.iconst 1, 1) := by decide +kernel
theorem dX7_ties_3 : decode cX7_ties 3 = .ok (.invokestatic 64, 3) := by decide +kernel
theorem dX7_ties_6 : decode cX7_ties 6 = .ok (.ifCond .ne 6, 3) := by decide +kernel
theorem dX7_ties_9 : decode cX7_ties 9 = .ok (.bipush (-2), 2) := by decide +kernel
theorem dX7_ties_11 : decode cX7_ties 11 = .ok (.ireturn, 1) := by decide +kernel
theorem dX7_ties_12 : decode cX7_ties 12 = .ok (.aload_n 0, 1) := by decide +kernel
theorem dX7_ties_13 : decode cX7_ties 13 = .ok (.invokevirtual 124, 3) := by decide +kernel
theorem dX7_ties_16 : decode cX7_ties 16 = .ok (.istore_n 2, 1) := by decide +kernel
theorem dX7_ties_17 : decode cX7_ties 17 = .ok (.iload_n 2, 1) := by decide +kernel
theorem dX7_ties_18 : decode cX7_ties 18 = .ok (.ifCond .eq 5, 3) := by decide +kernel
theorem dX7_ties_21 : decode cX7_ties 21 = .ok (.iload_n 2, 1) := by decide +kernel
theorem dX7_ties_22 : decode cX7_ties 22 = .ok (.ireturn, 1) := by decide +kernel
theorem dX7_ties_23 : decode cX7_ties 23 = .ok (.aload_n 0, 1) := by decide +kernel
theorem dX7_ties_24 : decode cX7_ties 24 = .ok (.getfield 39, 3) := by decide +kernel
theorem dX7_ties_27 : decode cX7_ties 27 = .ok (.invokevirtual 153, 3) := by decide +kernel
theorem dX7_ties_30 : decode cX7_ties 30 = .ok (.istore_n 3, 1) := by decide +kernel
theorem dX7_ties_31 : decode cX7_ties 31 = .ok (.iload_n 3, 1) := by decide +kernel
theorem dX7_ties_32 : decode cX7_ties 32 = .ok (.ifCond .ge 6, 3) := by decide +kernel
theorem dX7_ties_35 : decode cX7_ties 35 = .ok (.bipush (-6), 2) := by decide +kernel
theorem dX7_ties_37 : decode cX7_ties 37 = .ok (.ireturn, 1) := by decide +kernel
theorem dX7_ties_38 : decode cX7_ties 38 = .ok (.iload_n 1, 1) := by decide +kernel
theorem dX7_ties_39 : decode cX7_ties 39 = .ok (.ifCond .ne 18, 3) := by decide +kernel
theorem dX7_ties_42 : decode cX7_ties 42 = .ok (.iload_n 3, 1) := by decide +kernel
theorem dX7_ties_43 : decode cX7_ties 43 = .ok (.bipush 6, 2) := by decide +kernel
theorem dX7_ties_45 : decode cX7_ties 45 = .ok (.idiv, 1) := by decide +kernel
theorem dX7_ties_46 : decode cX7_ties 46 = .ok (.bipush 10, 2) := by decide +kernel
theorem dX7_ties_48 : decode cX7_ties 48 = .ok (.imul, 1) := by decide +kernel
theorem dX7_ties_49 : decode cX7_ties 49 = .ok (.iload_n 3, 1) := by decide +kernel
theorem dX7_ties_50 : decode cX7_ties 50 = .ok (.bipush 6, 2) := by decide +kernel
theorem dX7_ties_52 : decode cX7_ties 52 = .ok (.irem, 1) := by decide +kernel
theorem dX7_ties_53 : decode cX7_ties 53 = .ok (.iadd, 1) := by decide +kernel
theorem dX7_ties_54 : decode cX7_ties 54 = .ok (.goto 14, 3) := by decide +kernel
theorem dX7_ties_57 : decode cX7_ties 57 = .ok (.aload_n 0, 1) := by decide +kernel
theorem dX7_ties_58 : decode cX7_ties 58 = .ok (.getfield 39, 3) := by decide +kernel
theorem dX7_ties_61 : decode cX7_ties 61 = .ok (.getfield 156, 3) := by decide +kernel
theorem dX7_ties_64 : decode cX7_ties 64 = .ok (.iload_n 3, 1) := by decide +kernel
theorem dX7_ties_65 : decode cX7_ties 65 = .ok (.invokestatic 94, 3) := by decide +kernel
theorem dX7_ties_68 : decode cX7_ties 68 = .ok (.ireturn, 1) := by decide +kernel
set_option maxRecDepth 20000 in
theorem ggX7_unhurt_X7_within : GoodIn wsX7_unhurt wsX7_within := goodIn_r _ [10] (by decide +kernel) (by decide +kernel)
set_option maxRecDepth 20000 in
theorem gX7_unhurt_X7_within : GoodIn wsX7_unhurt (va_wsS RX7 64 yX7_within wsX7_within) := goodIn_app (goodIn_of _ (by decide +kernel)) ggX7_unhurt_X7_within
set_option maxRecDepth 20000 in
theorem ggX7_unhurt_X7_playSummer : GoodIn wsX7_unhurt wsX7_playSummer := goodIn_r _ [14, 15, 3, 16, 17, 18, 19, 20, 21, 22, 23, 24, 25, 9, 26, 27, 28, 29, 30, 31, 32, 8, 10, 33, 34, 35, 36, 37, 38, 39, 40, 41, 42, 43, 44, 45, 46, 47, 48, 49, 50, 51, 52, 53, 54, 55, 56, 57, 58, 59, 60, 61, 62, 63, 64, 65, 66, 67, 68, 69, 70, 71, 72, 73, 74, 75, 76, 77, 78, 79, 80, 81, 82, 83, 84, 85, 86, 87, 88, 89, 90, 91, 92, 93, 94, 95, 96, 97, 98, 99, 100, 101, 102, 103, 104, 105, 106, 107, 108, 109, 110, 111, 112, 113, 114, 115, 116, 117, 118, 119, 120, 121, 122, 123, 124, 125, 126, 127, 128, 129, 130, 131, 136, 137, 138, 139, 140, 141, 142, 143, 144, 145, 146, 147, 148, 149, 150, 151, 152, 153, 154, 155, 156, 157, 158, 159, 160, 161, 162, 163, 164, 165, 166, 167, 168, 169, 170, 171] (by decide +kernel) (by decide +kernel)
set_option maxRecDepth 20000 in
theorem gX7_unhurt_X7_playSummer : GoodIn wsX7_unhurt (wsV RX7 124 RX7 yX7_playSummer wsX7_playSummer) := goodIn_app (goodIn_of _ (by decide +kernel)) ggX7_unhurt_X7_playSummer
set_option maxRecDepth 20000 in
theorem ggX7_unhurt_X0_lowest : GoodIn wsX7_unhurt wsX0_lowest := goodIn_r _ [135, 83, 82, 170, 171] (by decide +kernel) (by decide +kernel)
set_option maxRecDepth 20000 in
theorem gX7_unhurt_X0_lowest : GoodIn wsX7_unhurt (wsV RX7 172 RX0 yX0_lowest wsX0_lowest) := goodIn_app (goodIn_of _ (by decide +kernel)) ggX7_unhurt_X0_lowest
theorem dX7_unhurt_0 : decode cX7_unhurt 0 = .ok (.iload_n 1, 1) := by decide +kernel
theorem dX7_unhurt_1 : decode cX7_unhurt 1 = .ok (.iconst 0, 1) := by decide +kernel
theorem dX7_unhurt_2 : decode cX7_unhurt 2 = .ok (.iconst 1, 1) := by decide +kernel
theorem dX7_unhurt_3 : decode cX7_unhurt 3 = .ok (.invokestatic 64, 3) := by decide +kernel
theorem dX7_unhurt_6 : decode cX7_unhurt 6 = .ok (.ifCond .ne 7, 3) := by decide +kernel
theorem dX7_unhurt_9 : decode cX7_unhurt 9 = .ok (.ldc2_w 159, 3) := by decide +kernel
theorem dX7_unhurt_12 : decode cX7_unhurt 12 = .ok (.lreturn, 1) := by decide +kernel
theorem dX7_unhurt_13 : decode cX7_unhurt 13 = .ok (.aload_n 0, 1) := by decide +kernel
theorem dX7_unhurt_14 : decode cX7_unhurt 14 = .ok (.invokevirtual 124, 3) := by decide +kernel
theorem dX7_unhurt_17 : decode cX7_unhurt 17 = .ok (.istore_n 2, 1) := by decide +kernel
theorem dX7_unhurt_18 : decode cX7_unhurt 18 = .ok (.iload_n 2, 1) := by decide +kernel
theorem dX7_unhurt_19 : decode cX7_unhurt 19 = .ok (.ifCond .eq 10, 3) := by decide +kernel
theorem dX7_unhurt_22 : decode cX7_unhurt 22 = .ok (.ldc2_w 161, 3) := by decide +kernel
theorem dX7_unhurt_25 : decode cX7_unhurt 25 = .ok (.iload_n 2, 1) := by decide +kernel
theorem dX7_unhurt_26 : decode cX7_unhurt 26 = .ok (.i2l, 1) := by decide +kernel
theorem dX7_unhurt_27 : decode cX7_unhurt 27 = .ok (.ladd, 1) := by decide +kernel
theorem dX7_unhurt_28 : decode cX7_unhurt 28 = .ok (.lreturn, 1) := by decide +kernel
theorem dX7_unhurt_29 : decode cX7_unhurt 29 = .ok (.aload_n 0, 1) := by decide +kernel
theorem dX7_unhurt_30 : decode cX7_unhurt 30 = .ok (.getfield 39, 3) := by decide +kernel
theorem dX7_unhurt_33 : decode cX7_unhurt 33 = .ok (.getfield 163, 3) := by decide +kernel
theorem dX7_unhurt_36 : decode cX7_unhurt 36 = .ok (.bipush 15, 2) := by decide +kernel
theorem dX7_unhurt_38 : decode cX7_unhurt 38 = .ok (.if_icmp .le 9, 3) := by decide +kernel
theorem dX7_unhurt_41 : decode cX7_unhurt 41 = .ok (.ldc2_w 166, 3) := by decide +kernel
theorem dX7_unhurt_44 : decode cX7_unhurt 44 = .ok (.goto 14, 3) := by decide +kernel
theorem dX7_unhurt_47 : decode cX7_unhurt 47 = .ok (.aload_n 0, 1) := by decide +kernel
theorem dX7_unhurt_48 : decode cX7_unhurt 48 = .ok (.getfield 39, 3) := by decide +kernel
theorem dX7_unhurt_51 : decode cX7_unhurt 51 = .ok (.getfield 168, 3) := by decide +kernel
theorem dX7_unhurt_54 : decode cX7_unhurt 54 = .ok (.iload_n 1, 1) := by decide +kernel
theorem dX7_unhurt_55 : decode cX7_unhurt 55 = .ok (.invokevirtual 172, 3) := by decide +kernel
theorem dX7_unhurt_58 : decode cX7_unhurt 58 = .ok (.lreturn, 1) := by decide +kernel
set_option maxRecDepth 20000 in
theorem ggX7_odds_X7_refusalOfHeight : GoodIn wsX7_odds wsX7_refusalOfHeight := goodIn_r _ [6, 1, 7, 8, 9, 10, 11, 12, 13, 5, 14, 15, 16, 17, 31, 32, 33, 34, 35, 36, 37, 38, 39, 40, 41, 42, 43, 44, 45, 46, 47, 48, 49, 50, 51, 52, 53] (by decide +kernel) (by decide +kernel)
set_option maxRecDepth 20000 in
theorem gX7_odds_X7_refusalOfHeight : GoodIn wsX7_odds (wsV RX7 178 RX7 yX7_refusalOfHeight wsX7_refusalOfHeight) := goodIn_app (goodIn_of _ (by decide +kernel)) ggX7_odds_X7_refusalOfHeight
set_option maxRecDepth 20000 in
theorem ggX7_odds_X5_oddsOf : GoodIn wsX7_odds wsX5_oddsOf := goodIn_r _ [21, 22, 23, 24, 25, 26, 27, 28, 29, 30, 13, 5, 14, 41, 42, 43, 44, 45, 46, 47, 48, 49, 50, 51, 52, 53] (by decide +kernel) (by decide +kernel)
set_option maxRecDepth 20000 in
theorem gX7_odds_X5_oddsOf : GoodIn wsX7_odds (wsV RX7 181 RX5 yX5_oddsOf wsX5_oddsOf) := goodIn_app (goodIn_of _ (by decide +kernel)) ggX7_odds_X5_oddsOf
theorem dX7_odds_0 : decode cX7_odds 0 = .ok (.aload_n 0, 1) := by decide +kernel
theorem dX7_odds_1 : decode cX7_odds 1 = .ok (.iload_n 1, 1) := by decide +kernel
theorem dX7_odds_2 : decode cX7_odds 2 = .ok (.iload_n 2, 1) := by decide +kernel
theorem dX7_odds_3 : decode cX7_odds 3 = .ok (.invokevirtual 178, 3) := by decide +kernel
theorem dX7_odds_6 : decode cX7_odds 6 = .ok (.istore_n 3, 1) := by decide +kernel
theorem dX7_odds_7 : decode cX7_odds 7 = .ok (.iload_n 3, 1) := by decide +kernel
theorem dX7_odds_8 : decode cX7_odds 8 = .ok (.ifCond .eq 7, 3) := by decide +kernel
theorem dX7_odds_11 : decode cX7_odds 11 = .ok (.iload_n 3, 1) := by decide +kernel
theorem dX7_odds_12 : decode cX7_odds 12 = .ok (.goto 12, 3) := by decide +kernel
theorem dX7_odds_15 : decode cX7_odds 15 = .ok (.aload_n 0, 1) := by decide +kernel
theorem dX7_odds_16 : decode cX7_odds 16 = .ok (.getfield 10, 3) := by decide +kernel
theorem dX7_odds_19 : decode cX7_odds 19 = .ok (.iload_n 1, 1) := by decide +kernel
theorem dX7_odds_20 : decode cX7_odds 20 = .ok (.iload_n 2, 1) := by decide +kernel
theorem dX7_odds_21 : decode cX7_odds 21 = .ok (.invokevirtual 181, 3) := by decide +kernel
theorem dX7_odds_24 : decode cX7_odds 24 = .ok (.ireturn, 1) := by decide +kernel
set_option maxRecDepth 20000 in
theorem ggX7_worth_X7_refusalOfHeight : GoodIn wsX7_worth wsX7_refusalOfHeight := goodIn_r _ [7, 1, 8, 9, 10, 11, 12, 13, 14, 6, 15, 16, 17, 18, 45, 46, 47, 48, 49, 50, 51, 52, 53, 54, 55, 56, 57, 58, 59, 60, 61, 62, 63, 64, 65, 66, 67] (by decide +kernel) (by decide +kernel)
set_option maxRecDepth 20000 in
theorem gX7_worth_X7_refusalOfHeight : GoodIn wsX7_worth (wsV RX7 178 RX7 yX7_refusalOfHeight wsX7_refusalOfHeight) := goodIn_app (goodIn_of _ (by decide +kernel)) ggX7_worth_X7_refusalOfHeight
set_option maxRecDepth 20000 in
theorem ggX7_worth_X7_within : GoodIn wsX7_worth wsX7_within := goodIn_r _ [18] (by decide +kernel) (by decide +kernel)
set_option maxRecDepth 20000 in
theorem gX7_worth_X7_within : GoodIn wsX7_worth (va_wsS RX7 64 yX7_within wsX7_within) := goodIn_app (goodIn_of _ (by decide +kernel)) ggX7_worth_X7_within
set_option maxRecDepth 20000 in
theorem ggX7_worth_X5_prideOf : GoodIn wsX7_worth wsX5_prideOf := goodIn_r _ [22, 23, 14, 6, 15, 55, 56, 57, 58, 59, 60, 61, 62, 63, 64, 65, 66, 67] (by decide +kernel) (by decide +kernel)
set_option maxRecDepth 20000 in
theorem gX7_worth_X5_prideOf : GoodIn wsX7_worth (wsV RX7 184 RX5 yX5_prideOf wsX5_prideOf) := goodIn_app (goodIn_of _ (by decide +kernel)) ggX7_worth_X5_prideOf
set_option maxRecDepth 20000 in
theorem ggX7_worth_X5_worthDone : GoodIn wsX7_worth wsX5_worthDone := goodIn_r _ [27, 28, 29, 14, 6, 15, 30, 31, 32, 11, 33, 34, 35, 36, 37, 38, 39, 40, 41, 55, 56, 57, 58, 59, 60, 61, 62, 63, 64, 65, 66, 67] (by decide +kernel) (by decide +kernel)
set_option maxRecDepth 20000 in
theorem gX7_worth_X5_worthDone : GoodIn wsX7_worth (wsV RX7 188 RX5 yX5_worthDone wsX5_worthDone) := goodIn_app (goodIn_of _ (by decide +kernel)) ggX7_worth_X5_worthDone
set_option maxRecDepth 20000 in
theorem ggX7_worth_X5_worthRefused : GoodIn wsX7_worth wsX5_worthRefused := goodIn_r _ [44] (by decide +kernel) (by decide +kernel)
set_option maxRecDepth 20000 in
theorem gX7_worth_X5_worthRefused : GoodIn wsX7_worth (va_wsS RX7 192 yX5_worthRefused wsX5_worthRefused) := goodIn_app (goodIn_of _ (by decide +kernel)) ggX7_worth_X5_worthRefused
theorem dX7_worth_0 : decode cX7_worth 0 = .ok (.aload_n 0, 1) := by decide +kernel
theorem dX7_worth_1 : decode cX7_worth 1 = .ok (.iload_n 1, 1) := by decide +kernel
theorem dX7_worth_2 : decode cX7_worth 2 = .ok (.iload_n 2, 1) := by decide +kernel
theorem dX7_worth_3 : decode cX7_worth 3 = .ok (.invokevirtual 178, 3) := by decide +kernel
theorem dX7_worth_6 : decode cX7_worth 6 = .ok (.istore 4, 2) := by decide +kernel
theorem dX7_worth_8 : decode cX7_worth 8 = .ok (.iload 4, 2) := by decide +kernel
theorem dX7_worth_10 : decode cX7_worth 10 = .ok (.ifCond .eq 6, 3) := by decide +kernel
theorem dX7_worth_13 : decode cX7_worth 13 = .ok (.iload 4, 2) := by decide +kernel
theorem dX7_worth_15 : decode cX7_worth 15 = .ok (.ireturn, 1) := by decide +kernel
theorem dX7_worth_16 : decode cX7_worth 16 = .ok (.iload_n 3, 1) := by decide +kernel
theorem dX7_worth_17 : decode cX7_worth 17 = .ok (.iconst 0, 1) := by decide +kernel
theorem dX7_worth_18 : decode cX7_worth 18 = .ok (.iconst 1, 1) := by decide +kernel
theorem dX7_worth_19 : decode cX7_worth 19 = .ok (.invokestatic 64, 3) := by decide +kernel
theorem dX7_worth_22 : decode cX7_worth 22 = .ok (.ifCond .ne 6, 3) := by decide +kernel
theorem dX7_worth_25 : decode cX7_worth 25 = .ok (.bipush (-2), 2) := by decide +kernel
theorem dX7_worth_27 : decode cX7_worth 27 = .ok (.ireturn, 1) := by decide +kernel
theorem dX7_worth_28 : decode cX7_worth 28 = .ok (.aload_n 0, 1) := by decide +kernel
theorem dX7_worth_29 : decode cX7_worth 29 = .ok (.getfield 10, 3) := by decide +kernel
theorem dX7_worth_32 : decode cX7_worth 32 = .ok (.iload_n 1, 1) := by decide +kernel
theorem dX7_worth_33 : decode cX7_worth 33 = .ok (.invokevirtual 184, 3) := by decide +kernel
theorem dX7_worth_36 : decode cX7_worth 36 = .ok (.istore 5, 2) := by decide +kernel
theorem dX7_worth_38 : decode cX7_worth 38 = .ok (.ldc 187, 2) := by decide +kernel
theorem dX7_worth_40 : decode cX7_worth 40 = .ok (.iload_n 3, 1) := by decide +kernel
theorem dX7_worth_41 : decode cX7_worth 41 = .ok (.ifCond .ne 17, 3) := by decide +kernel
theorem dX7_worth_44 : decode cX7_worth 44 = .ok (.aload_n 0, 1) := by decide +kernel
theorem dX7_worth_45 : decode cX7_worth 45 = .ok (.getfield 10, 3) := by decide +kernel
theorem dX7_worth_48 : decode cX7_worth 48 = .ok (.iload_n 1, 1) := by decide +kernel
theorem dX7_worth_49 : decode cX7_worth 49 = .ok (.iload_n 2, 1) := by decide +kernel
theorem dX7_worth_50 : decode cX7_worth 50 = .ok (.iload 5, 2) := by decide +kernel
theorem dX7_worth_52 : decode cX7_worth 52 = .ok (.invokevirtual 188, 3) := by decide +kernel
theorem dX7_worth_55 : decode cX7_worth 55 = .ok (.goto 9, 3) := by decide +kernel
theorem dX7_worth_58 : decode cX7_worth 58 = .ok (.iload_n 2, 1) := by decide +kernel
theorem dX7_worth_59 : decode cX7_worth 59 = .ok (.iload 5, 2) := by decide +kernel
theorem dX7_worth_61 : decode cX7_worth 61 = .ok (.invokestatic 192, 3) := by decide +kernel
theorem dX7_worth_64 : decode cX7_worth 64 = .ok (.iadd, 1) := by decide +kernel
theorem dX7_worth_65 : decode cX7_worth 65 = .ok (.ireturn, 1) := by decide +kernel
set_option maxRecDepth 20000 in
theorem ggX7_does_X7_refusalOfHeight : GoodIn wsX7_does wsX7_refusalOfHeight := goodIn_r _ [6, 1, 7, 8, 9, 10, 11, 12, 13, 5, 14, 15, 16, 17, 48, 49, 50, 51, 52, 53, 54, 55, 56, 57, 58, 59, 60, 61, 62, 63, 64, 65, 66, 67, 68, 69, 70] (by decide +kernel) (by decide +kernel)
set_option maxRecDepth 20000 in
theorem gX7_does_X7_refusalOfHeight : GoodIn wsX7_does (wsV RX7 178 RX7 yX7_refusalOfHeight wsX7_refusalOfHeight) := goodIn_app (goodIn_of _ (by decide +kernel)) ggX7_does_X7_refusalOfHeight
set_option maxRecDepth 20000 in
theorem ggX7_does_X5_prideOf : GoodIn wsX7_does wsX5_prideOf := goodIn_r _ [21, 22, 13, 5, 14, 58, 59, 60, 61, 62, 63, 64, 65, 66, 67, 68, 69, 70] (by decide +kernel) (by decide +kernel)
set_option maxRecDepth 20000 in
theorem gX7_does_X5_prideOf : GoodIn wsX7_does (wsV RX7 184 RX5 yX5_prideOf wsX5_prideOf) := goodIn_app (goodIn_of _ (by decide +kernel)) ggX7_does_X5_prideOf
set_option maxRecDepth 20000 in
theorem ggX7_does_X5_dares : GoodIn wsX7_does wsX5_dares := goodIn_r _ [26, 27, 28, 29, 10, 30, 31, 32, 13, 5, 14, 33, 34, 35, 36, 37, 38, 39, 40, 41, 42, 43, 44, 45, 46, 47, 58, 59, 60, 61, 62, 63, 64, 65, 66, 67, 68, 69, 70] (by decide +kernel) (by decide +kernel)
set_option maxRecDepth 20000 in
theorem gX7_does_X5_dares : GoodIn wsX7_does (wsV RX7 195 RX5 yX5_dares wsX5_dares) := goodIn_app (goodIn_of _ (by decide +kernel)) ggX7_does_X5_dares
theorem dX7_does_0 : decode cX7_does 0 = .ok (.aload_n 0, 1) := by decide +kernel
theorem dX7_does_1 : decode cX7_does 1 = .ok (.iload_n 1, 1) := by decide +kernel
theorem dX7_does_2 : decode cX7_does 2 = .ok (.iload_n 2, 1) := by decide +kernel
theorem dX7_does_3 : decode cX7_does 3 = .ok (.invokevirtual 178, 3) := by decide +kernel
theorem dX7_does_6 : decode cX7_does 6 = .ok (.istore_n 3, 1) := by decide +kernel
theorem dX7_does_7 : decode cX7_does 7 = .ok (.iload_n 3, 1) := by decide +kernel
theorem dX7_does_8 : decode cX7_does 8 = .ok (.ifCond .eq 5, 3) := by decide +kernel
theorem dX7_does_11 : decode cX7_does 11 = .ok (.iload_n 3, 1) := by decide +kernel
theorem dX7_does_12 : decode cX7_does 12 = .ok (.ireturn, 1) := by decide +kernel
theorem dX7_does_13 : decode cX7_does 13 = .ok (.aload_n 0, 1) := by decide +kernel
theorem dX7_does_14 : decode cX7_does 14 = .ok (.getfield 10, 3) := by decide +kernel
theorem dX7_does_17 : decode cX7_does 17 = .ok (.iload_n 1, 1) := by decide +kernel
theorem dX7_does_18 : decode cX7_does 18 = .ok (.iload_n 2, 1) := by decide +kernel
theorem dX7_does_19 : decode cX7_does 19 = .ok (.aload_n 0, 1) := by decide +kernel
theorem dX7_does_20 : decode cX7_does 20 = .ok (.getfield 10, 3) := by decide +kernel
theorem dX7_does_23 : decode cX7_does 23 = .ok (.iload_n 1, 1) := by decide +kernel
theorem dX7_does_24 : decode cX7_does 24 = .ok (.invokevirtual 184, 3) := by decide +kernel
theorem dX7_does_27 : decode cX7_does 27 = .ok (.invokevirtual 195, 3) := by decide +kernel
theorem dX7_does_30 : decode cX7_does 30 = .ok (.ifCond .eq 7, 3) := by decide +kernel
theorem dX7_does_33 : decode cX7_does 33 = .ok (.iconst 1, 1) := by decide +kernel
theorem dX7_does_34 : decode cX7_does 34 = .ok (.goto 4, 3) := by decide +kernel
theorem dX7_does_37 : decode cX7_does 37 = .ok (.iconst 0, 1) := by decide +kernel
theorem dX7_does_38 : decode cX7_does 38 = .ok (.ireturn, 1) := by decide +kernel
set_option maxRecDepth 20000 in
theorem ggX7_nerve_X5_isThere : GoodIn wsX7_nerve wsX5_isThere := goodIn_r _ [6, 7, 8, 9, 10, 58, 59, 60, 61, 62, 63, 64, 65, 66, 67, 68, 69, 70] (by decide +kernel) (by decide +kernel)
set_option maxRecDepth 20000 in
theorem gX7_nerve_X5_isThere : GoodIn wsX7_nerve (wsV RX7 82 RX5 yX5_isThere wsX5_isThere) := goodIn_app (goodIn_of _ (by decide +kernel)) ggX7_nerve_X5_isThere
set_option maxRecDepth 20000 in
theorem ggX7_nerve_X7_within : GoodIn wsX7_nerve wsX7_within := goodIn_r _ [13] (by decide +kernel) (by decide +kernel)
set_option maxRecDepth 20000 in
theorem gX7_nerve_X7_within : GoodIn wsX7_nerve (va_wsS RX7 64 yX7_within wsX7_within) := goodIn_app (goodIn_of _ (by decide +kernel)) ggX7_nerve_X7_within
set_option maxRecDepth 20000 in
theorem ggX7_nerve_X5_surest : GoodIn wsX7_nerve wsX5_surest := goodIn_r _ [17, 18, 19, 20, 5, 21, 22, 23, 24, 25, 26, 27, 28, 29, 30, 8, 9, 10, 58, 59, 60, 61, 62, 63, 64, 65, 66, 67, 68, 69, 70] (by decide +kernel) (by decide +kernel)
set_option maxRecDepth 20000 in
theorem gX7_nerve_X5_surest : GoodIn wsX7_nerve (wsV RX7 198 RX5 yX5_surest wsX5_surest) := goodIn_app (goodIn_of _ (by decide +kernel)) ggX7_nerve_X5_surest
set_option maxRecDepth 20000 in
theorem ggX7_nerve_X5_leastRefused : GoodIn wsX7_nerve wsX5_leastRefused := goodIn_r _ [34, 35, 8, 9, 10, 36, 37, 38, 5, 39, 40, 41, 42, 43, 22, 44, 18, 19, 20, 21, 23, 24, 25, 26, 27, 28, 29, 30, 45, 46, 47, 58, 59, 60, 61, 62, 63, 64, 65, 66, 67, 68, 69, 70] (by decide +kernel) (by decide +kernel)
set_option maxRecDepth 20000 in
theorem gX7_nerve_X5_leastRefused : GoodIn wsX7_nerve (wsV RX7 201 RX5 yX5_leastRefused wsX5_leastRefused) := goodIn_app (goodIn_of _ (by decide +kernel)) ggX7_nerve_X5_leastRefused
theorem dX7_nerve_0 : decode cX7_nerve 0 = .ok (.aload_n 0, 1) := by decide +kernel
theorem dX7_nerve_1 : decode cX7_nerve 1 = .ok (.getfield 10, 3) := by decide +kernel
theorem dX7_nerve_4 : decode cX7_nerve 4 = .ok (.iload_n 1, 1) := by decide +kernel
theorem dX7_nerve_5 : decode cX7_nerve 5 = .ok (.invokevirtual 82, 3) := by decide +kernel
theorem dX7_nerve_8 : decode cX7_nerve 8 = .ok (.ifCond .ne 5, 3) := by decide +kernel
theorem dX7_nerve_11 : decode cX7_nerve 11 = .ok (.iconst (-1), 1) := by decide +kernel
theorem dX7_nerve_12 : decode cX7_nerve 12 = .ok (.ireturn, 1) := by decide +kernel
theorem dX7_nerve_13 : decode cX7_nerve 13 = .ok (.iload_n 2, 1) := by decide +kernel
theorem dX7_nerve_14 : decode cX7_nerve 14 = .ok (.iconst 0, 1) := by decide +kernel
theorem dX7_nerve_15 : decode cX7_nerve 15 = .ok (.iconst 2, 1) := by decide +kernel
theorem dX7_nerve_16 : decode cX7_nerve 16 = .ok (.invokestatic 64, 3) := by decide +kernel
theorem dX7_nerve_19 : decode cX7_nerve 19 = .ok (.ifCond .ne 6, 3) := by decide +kernel
theorem dX7_nerve_22 : decode cX7_nerve 22 = .ok (.bipush (-2), 2) := by decide +kernel
theorem dX7_nerve_24 : decode cX7_nerve 24 = .ok (.ireturn, 1) := by decide +kernel
theorem dX7_nerve_25 : decode cX7_nerve 25 = .ok (.iload_n 2, 1) := by decide +kernel
theorem dX7_nerve_26 : decode cX7_nerve 26 = .ok (.iconst 2, 1) := by decide +kernel
theorem dX7_nerve_27 : decode cX7_nerve 27 = .ok (.if_icmp .ne 12, 3) := by decide +kernel
theorem dX7_nerve_30 : decode cX7_nerve 30 = .ok (.aload_n 0, 1) := by decide +kernel
theorem dX7_nerve_31 : decode cX7_nerve 31 = .ok (.getfield 10, 3) := by decide +kernel
theorem dX7_nerve_34 : decode cX7_nerve 34 = .ok (.iload_n 1, 1) := by decide +kernel
theorem dX7_nerve_35 : decode cX7_nerve 35 = .ok (.invokevirtual 198, 3) := by decide +kernel
theorem dX7_nerve_38 : decode cX7_nerve 38 = .ok (.ireturn, 1) := by decide +kernel
theorem dX7_nerve_39 : decode cX7_nerve 39 = .ok (.aload_n 0, 1) := by decide +kernel
theorem dX7_nerve_40 : decode cX7_nerve 40 = .ok (.getfield 10, 3) := by decide +kernel
theorem dX7_nerve_43 : decode cX7_nerve 43 = .ok (.iload_n 1, 1) := by decide +kernel
theorem dX7_nerve_44 : decode cX7_nerve 44 = .ok (.invokevirtual 201, 3) := by decide +kernel
theorem dX7_nerve_47 : decode cX7_nerve 47 = .ok (.istore_n 3, 1) := by decide +kernel
theorem dX7_nerve_48 : decode cX7_nerve 48 = .ok (.iload_n 2, 1) := by decide +kernel
theorem dX7_nerve_49 : decode cX7_nerve 49 = .ok (.iconst 1, 1) := by decide +kernel
theorem dX7_nerve_50 : decode cX7_nerve 50 = .ok (.if_icmp .ne 16, 3) := by decide +kernel
theorem dX7_nerve_53 : decode cX7_nerve 53 = .ok (.iload_n 3, 1) := by decide +kernel
theorem dX7_nerve_54 : decode cX7_nerve 54 = .ok (.bipush 15, 2) := by decide +kernel
theorem dX7_nerve_56 : decode cX7_nerve 56 = .ok (.if_icmp .le 8, 3) := by decide +kernel
theorem dX7_nerve_59 : decode cX7_nerve 59 = .ok (.bipush (-6), 2) := by decide +kernel
theorem dX7_nerve_61 : decode cX7_nerve 61 = .ok (.goto 4, 3) := by decide +kernel
theorem dX7_nerve_64 : decode cX7_nerve 64 = .ok (.iload_n 3, 1) := by decide +kernel
theorem dX7_nerve_65 : decode cX7_nerve 65 = .ok (.ireturn, 1) := by decide +kernel
theorem dX7_nerve_66 : decode cX7_nerve 66 = .ok (.iload_n 3, 1) := by decide +kernel
theorem dX7_nerve_67 : decode cX7_nerve 67 = .ok (.iconst 1, 1) := by decide +kernel
theorem dX7_nerve_68 : decode cX7_nerve 68 = .ok (.isub, 1) := by decide +kernel
theorem dX7_nerve_69 : decode cX7_nerve 69 = .ok (.ireturn, 1) := by decide +kernel
set_option maxRecDepth 20000 in
theorem ggX7_climb_X7_refusalOfClimb : GoodIn wsX7_climb wsX7_refusalOfClimb := goodIn_r _ [10, 2, 11, 12, 13, 14, 15, 16, 17, 9, 18, 19, 20, 21, 79, 80, 81, 82, 83, 84, 85, 86, 87, 88, 93, 94, 95, 96, 97, 98, 99, 100, 101, 102, 103, 104, 105] (by decide +kernel) (by decide +kernel)
set_option maxRecDepth 20000 in
theorem gX7_climb_X7_refusalOfClimb : GoodIn wsX7_climb (wsV RX7 204 RX7 yX7_refusalOfClimb wsX7_refusalOfClimb) := goodIn_app (goodIn_of _ (by decide +kernel)) ggX7_climb_X7_refusalOfClimb
set_option maxRecDepth 20000 in
theorem ggX7_climb_X7_within : GoodIn wsX7_climb wsX7_within := goodIn_r _ [21] (by decide +kernel) (by decide +kernel)
set_option maxRecDepth 20000 in
theorem gX7_climb_X7_within : GoodIn wsX7_climb (va_wsS RX7 64 yX7_within wsX7_within) := goodIn_app (goodIn_of _ (by decide +kernel)) ggX7_climb_X7_within
set_option maxRecDepth 20000 in
theorem ggX7_climb_X1_go : GoodIn wsX7_climb wsX1_go := goodIn_r _ [26, 27, 28, 29, 30, 31, 32, 33, 34, 35, 36, 37, 38, 39, 40, 41, 42, 43, 44, 14, 45, 46, 17, 9, 18, 47, 48, 49, 50, 51, 52, 53, 54, 55, 56, 57, 58, 59, 60, 61, 62, 63, 64, 65, 66, 67, 68, 69, 70, 71, 72, 73, 74, 75, 76, 77, 78, 89, 90, 91, 92, 106, 107, 93, 94, 95, 96, 97, 98, 99, 100, 101, 102, 103, 104, 105] (by decide +kernel) (by decide +kernel)
set_option maxRecDepth 20000 in
theorem gX7_climb_X1_go : GoodIn wsX7_climb (wsV RX7 208 RX1 yX1_go wsX1_go) := goodIn_app (goodIn_of _ (by decide +kernel)) ggX7_climb_X1_go
theorem dX7_climb_0 : decode cX7_climb 0 = .ok (.aload_n 0, 1) := by decide +kernel
theorem dX7_climb_1 : decode cX7_climb 1 = .ok (.iload_n 1, 1) := by decide +kernel
theorem dX7_climb_2 : decode cX7_climb 2 = .ok (.iload_n 2, 1) := by decide +kernel
theorem dX7_climb_3 : decode cX7_climb 3 = .ok (.iload_n 3, 1) := by decide +kernel
theorem dX7_climb_4 : decode cX7_climb 4 = .ok (.iload 4, 2) := by decide +kernel
theorem dX7_climb_6 : decode cX7_climb 6 = .ok (.invokevirtual 204, 3) := by decide +kernel
theorem dX7_climb_9 : decode cX7_climb 9 = .ok (.istore 6, 2) := by decide +kernel
theorem dX7_climb_11 : decode cX7_climb 11 = .ok (.iload 6, 2) := by decide +kernel
theorem dX7_climb_13 : decode cX7_climb 13 = .ok (.ifCond .eq 6, 3) := by decide +kernel
theorem dX7_climb_16 : decode cX7_climb 16 = .ok (.iload 6, 2) := by decide +kernel
theorem dX7_climb_18 : decode cX7_climb 18 = .ok (.ireturn, 1) := by decide +kernel
theorem dX7_climb_19 : decode cX7_climb 19 = .ok (.iload 5, 2) := by decide +kernel
theorem dX7_climb_21 : decode cX7_climb 21 = .ok (.iconst 0, 1) := by decide +kernel
theorem dX7_climb_22 : decode cX7_climb 22 = .ok (.iconst 2, 1) := by decide +kernel
theorem dX7_climb_23 : decode cX7_climb 23 = .ok (.invokestatic 64, 3) := by decide +kernel
theorem dX7_climb_26 : decode cX7_climb 26 = .ok (.ifCond .ne 6, 3) := by decide +kernel
theorem dX7_climb_29 : decode cX7_climb 29 = .ok (.bipush (-2), 2) := by decide +kernel
theorem dX7_climb_31 : decode cX7_climb 31 = .ok (.ireturn, 1) := by decide +kernel
theorem dX7_climb_32 : decode cX7_climb 32 = .ok (.aload_n 0, 1) := by decide +kernel
theorem dX7_climb_33 : decode cX7_climb 33 = .ok (.getfield 46, 3) := by decide +kernel
theorem dX7_climb_36 : decode cX7_climb 36 = .ok (.aload_n 0, 1) := by decide +kernel
theorem dX7_climb_37 : decode cX7_climb 37 = .ok (.getfield 10, 3) := by decide +kernel
theorem dX7_climb_40 : decode cX7_climb 40 = .ok (.iload_n 1, 1) := by decide +kernel
theorem dX7_climb_41 : decode cX7_climb 41 = .ok (.iload_n 2, 1) := by decide +kernel
theorem dX7_climb_42 : decode cX7_climb 42 = .ok (.iload_n 3, 1) := by decide +kernel
theorem dX7_climb_43 : decode cX7_climb 43 = .ok (.iload 4, 2) := by decide +kernel
theorem dX7_climb_45 : decode cX7_climb 45 = .ok (.invokevirtual 208, 3) := by decide +kernel
theorem dX7_climb_48 : decode cX7_climb 48 = .ok (.iload 5, 2) := by decide +kernel
theorem dX7_climb_50 : decode cX7_climb 50 = .ok (.lookupswitch 42 #[(0, 26), (1, 34)], 26) := by decide +kernel
theorem dX7_climb_76 : decode cX7_climb 76 = .ok (.aload_n 0, 1) := by decide +kernel
theorem dX7_climb_77 : decode cX7_climb 77 = .ok (.getfield 46, 3) := by decide +kernel
theorem dX7_climb_80 : decode cX7_climb 80 = .ok (.getfield 211, 3) := by decide +kernel
theorem dX7_climb_83 : decode cX7_climb 83 = .ok (.ireturn, 1) := by decide +kernel
theorem dX7_climb_84 : decode cX7_climb 84 = .ok (.aload_n 0, 1) := by decide +kernel
theorem dX7_climb_85 : decode cX7_climb 85 = .ok (.getfield 46, 3) := by decide +kernel
theorem dX7_climb_88 : decode cX7_climb 88 = .ok (.getfield 212, 3) := by decide +kernel
theorem dX7_climb_91 : decode cX7_climb 91 = .ok (.ireturn, 1) := by decide +kernel
theorem dX7_climb_92 : decode cX7_climb 92 = .ok (.aload_n 0, 1) := by decide +kernel
theorem dX7_climb_93 : decode cX7_climb 93 = .ok (.getfield 46, 3) := by decide +kernel
theorem dX7_climb_96 : decode cX7_climb 96 = .ok (.getfield 215, 3) := by decide +kernel
theorem dX7_climb_99 : decode cX7_climb 99 = .ok (.ireturn, 1) := by decide +kernel
set_option maxRecDepth 20000 in
theorem ggX7_safe_X7_refusalOfClimb : GoodIn wsX7_safe wsX7_refusalOfClimb := goodIn_r _ [10, 4, 11, 12, 13, 14, 15, 16, 17, 9, 18, 19, 20, 21, 83, 84, 85, 86, 87, 88, 89, 90, 91, 92, 97, 98, 99, 100, 101, 102, 103, 104, 105, 106, 107, 108, 109] (by decide +kernel) (by decide +kernel)
set_option maxRecDepth 20000 in
theorem gX7_safe_X7_refusalOfClimb : GoodIn wsX7_safe (wsV RX7 204 RX7 yX7_refusalOfClimb wsX7_refusalOfClimb) := goodIn_app (goodIn_of _ (by decide +kernel)) ggX7_safe_X7_refusalOfClimb
set_option maxRecDepth 20000 in
theorem ggX7_safe_X7_within : GoodIn wsX7_safe wsX7_within := goodIn_r _ [21] (by decide +kernel) (by decide +kernel)
set_option maxRecDepth 20000 in
theorem gX7_safe_X7_within : GoodIn wsX7_safe (va_wsS RX7 64 yX7_within wsX7_within) := goodIn_app (goodIn_of _ (by decide +kernel)) ggX7_safe_X7_within
set_option maxRecDepth 20000 in
theorem ggX7_safe_X1_go : GoodIn wsX7_safe wsX1_go := goodIn_r _ [26, 27, 28, 29, 30, 31, 32, 33, 34, 35, 36, 37, 38, 39, 40, 41, 42, 43, 44, 14, 45, 46, 17, 9, 18, 47, 48, 49, 50, 51, 52, 53, 54, 55, 56, 57, 58, 59, 60, 61, 62, 63, 64, 65, 66, 67, 68, 69, 70, 71, 72, 73, 74, 75, 76, 77, 78, 93, 94, 95, 96, 110, 111, 97, 98, 99, 100, 101, 102, 103, 104, 105, 106, 107, 108, 109] (by decide +kernel) (by decide +kernel)
set_option maxRecDepth 20000 in
theorem gX7_safe_X1_go : GoodIn wsX7_safe (wsV RX7 208 RX1 yX1_go wsX1_go) := goodIn_app (goodIn_of _ (by decide +kernel)) ggX7_safe_X1_go
set_option maxRecDepth 20000 in
theorem ggX7_safe_X0_lowest : GoodIn wsX7_safe wsX0_lowest := goodIn_r _ [82, 41, 40, 110, 111] (by decide +kernel) (by decide +kernel)
set_option maxRecDepth 20000 in
theorem gX7_safe_X0_lowest : GoodIn wsX7_safe (wsV RX7 172 RX0 yX0_lowest wsX0_lowest) := goodIn_app (goodIn_of _ (by decide +kernel)) ggX7_safe_X0_lowest
theorem dX7_safe_0 : decode cX7_safe 0 = .ok (.aload_n 0, 1) := by decide +kernel
theorem dX7_safe_1 : decode cX7_safe 1 = .ok (.iload_n 1, 1) := by decide +kernel
theorem dX7_safe_2 : decode cX7_safe 2 = .ok (.iload_n 2, 1) := by decide +kernel
theorem dX7_safe_3 : decode cX7_safe 3 = .ok (.iload_n 3, 1) := by decide +kernel
theorem dX7_safe_4 : decode cX7_safe 4 = .ok (.iload 4, 2) := by decide +kernel
theorem dX7_safe_6 : decode cX7_safe 6 = .ok (.invokevirtual 204, 3) := by decide +kernel
theorem dX7_safe_9 : decode cX7_safe 9 = .ok (.istore 6, 2) := by decide +kernel
theorem dX7_safe_11 : decode cX7_safe 11 = .ok (.iload 6, 2) := by decide +kernel
theorem dX7_safe_13 : decode cX7_safe 13 = .ok (.ifCond .eq 11, 3) := by decide +kernel
theorem dX7_safe_16 : decode cX7_safe 16 = .ok (.ldc2_w 161, 3) := by decide +kernel
theorem dX7_safe_19 : decode cX7_safe 19 = .ok (.iload 6, 2) := by decide +kernel
theorem dX7_safe_21 : decode cX7_safe 21 = .ok (.i2l, 1) := by decide +kernel
theorem dX7_safe_22 : decode cX7_safe 22 = .ok (.ladd, 1) := by decide +kernel
theorem dX7_safe_23 : decode cX7_safe 23 = .ok (.lreturn, 1) := by decide +kernel
theorem dX7_safe_24 : decode cX7_safe 24 = .ok (.iload 5, 2) := by decide +kernel
theorem dX7_safe_26 : decode cX7_safe 26 = .ok (.iconst 0, 1) := by decide +kernel
theorem dX7_safe_27 : decode cX7_safe 27 = .ok (.iconst 1, 1) := by decide +kernel
theorem dX7_safe_28 : decode cX7_safe 28 = .ok (.invokestatic 64, 3) := by decide +kernel
theorem dX7_safe_31 : decode cX7_safe 31 = .ok (.ifCond .ne 7, 3) := by decide +kernel
theorem dX7_safe_34 : decode cX7_safe 34 = .ok (.ldc2_w 159, 3) := by decide +kernel
theorem dX7_safe_37 : decode cX7_safe 37 = .ok (.lreturn, 1) := by decide +kernel
theorem dX7_safe_38 : decode cX7_safe 38 = .ok (.aload_n 0, 1) := by decide +kernel
theorem dX7_safe_39 : decode cX7_safe 39 = .ok (.getfield 46, 3) := by decide +kernel
theorem dX7_safe_42 : decode cX7_safe 42 = .ok (.aload_n 0, 1) := by decide +kernel
theorem dX7_safe_43 : decode cX7_safe 43 = .ok (.getfield 10, 3) := by decide +kernel
theorem dX7_safe_46 : decode cX7_safe 46 = .ok (.iload_n 1, 1) := by decide +kernel
theorem dX7_safe_47 : decode cX7_safe 47 = .ok (.iload_n 2, 1) := by decide +kernel
theorem dX7_safe_48 : decode cX7_safe 48 = .ok (.iload_n 3, 1) := by decide +kernel
theorem dX7_safe_49 : decode cX7_safe 49 = .ok (.iload 4, 2) := by decide +kernel
theorem dX7_safe_51 : decode cX7_safe 51 = .ok (.invokevirtual 208, 3) := by decide +kernel
theorem dX7_safe_54 : decode cX7_safe 54 = .ok (.aload_n 0, 1) := by decide +kernel
theorem dX7_safe_55 : decode cX7_safe 55 = .ok (.getfield 46, 3) := by decide +kernel
theorem dX7_safe_58 : decode cX7_safe 58 = .ok (.getfield 218, 3) := by decide +kernel
theorem dX7_safe_61 : decode cX7_safe 61 = .ok (.iload 5, 2) := by decide +kernel
theorem dX7_safe_63 : decode cX7_safe 63 = .ok (.invokevirtual 172, 3) := by decide +kernel
theorem dX7_safe_66 : decode cX7_safe 66 = .ok (.lreturn, 1) := by decide +kernel
set_option maxRecDepth 20000 in
theorem ggX7_law_X7_refusalOfClimb : GoodIn wsX7_law wsX7_refusalOfClimb := goodIn_r _ [8, 2, 9, 10, 11, 12, 13, 14, 15, 7, 16, 17, 18, 19, 81, 82, 83, 84, 85, 86, 87, 88, 89, 90, 95, 96, 97, 98, 99, 100, 101, 102, 103, 104, 105, 106, 107] (by decide +kernel) (by decide +kernel)
set_option maxRecDepth 20000 in
theorem gX7_law_X7_refusalOfClimb : GoodIn wsX7_law (wsV RX7 204 RX7 yX7_refusalOfClimb wsX7_refusalOfClimb) := goodIn_app (goodIn_of _ (by decide +kernel)) ggX7_law_X7_refusalOfClimb
set_option maxRecDepth 20000 in
theorem ggX7_law_X7_within : GoodIn wsX7_law wsX7_within := goodIn_r _ [19] (by decide +kernel) (by decide +kernel)
set_option maxRecDepth 20000 in
theorem gX7_law_X7_within : GoodIn wsX7_law (va_wsS RX7 64 yX7_within wsX7_within) := goodIn_app (goodIn_of _ (by decide +kernel)) ggX7_law_X7_within
set_option maxRecDepth 20000 in
theorem ggX7_law_X1_go : GoodIn wsX7_law wsX1_go := goodIn_r _ [24, 25, 26, 27, 28, 29, 30, 31, 32, 33, 34, 35, 36, 37, 38, 39, 40, 41, 42, 12, 43, 44, 15, 7, 16, 45, 46, 47, 48, 49, 50, 51, 52, 53, 54, 55, 56, 57, 58, 59, 60, 61, 62, 63, 64, 65, 66, 67, 68, 69, 70, 71, 72, 73, 74, 75, 76, 91, 92, 93, 94, 108, 109, 95, 96, 97, 98, 99, 100, 101, 102, 103, 104, 105, 106, 107] (by decide +kernel) (by decide +kernel)
set_option maxRecDepth 20000 in
theorem gX7_law_X1_go : GoodIn wsX7_law (wsV RX7 208 RX1 yX1_go wsX1_go) := goodIn_app (goodIn_of _ (by decide +kernel)) ggX7_law_X1_go
set_option maxRecDepth 20000 in
theorem ggX7_law_X0_isAtLeast : GoodIn wsX7_law wsX0_isAtLeast := goodIn_r _ [80, 38, 39, 108, 109] (by decide +kernel) (by decide +kernel)
set_option maxRecDepth 20000 in
theorem gX7_law_X0_isAtLeast : GoodIn wsX7_law (wsV RX7 219 RX0 yX0_isAtLeast wsX0_isAtLeast) := goodIn_app (goodIn_of _ (by decide +kernel)) ggX7_law_X0_isAtLeast
theorem dX7_law_0 : decode cX7_law 0 = .ok (.aload_n 0, 1) := by decide +kernel
theorem dX7_law_1 : decode cX7_law 1 = .ok (.iload_n 1, 1) := by decide +kernel
theorem dX7_law_2 : decode cX7_law 2 = .ok (.iload_n 2, 1) := by decide +kernel
theorem dX7_law_3 : decode cX7_law 3 = .ok (.iload_n 3, 1) := by decide +kernel
theorem dX7_law_4 : decode cX7_law 4 = .ok (.bipush 15, 2) := by decide +kernel
theorem dX7_law_6 : decode cX7_law 6 = .ok (.invokevirtual 204, 3) := by decide +kernel
theorem dX7_law_9 : decode cX7_law 9 = .ok (.istore 6, 2) := by decide +kernel
theorem dX7_law_11 : decode cX7_law 11 = .ok (.iload 6, 2) := by decide +kernel
theorem dX7_law_13 : decode cX7_law 13 = .ok (.ifCond .eq 6, 3) := by decide +kernel
theorem dX7_law_16 : decode cX7_law 16 = .ok (.iload 6, 2) := by decide +kernel
theorem dX7_law_18 : decode cX7_law 18 = .ok (.ireturn, 1) := by decide +kernel
theorem dX7_law_19 : decode cX7_law 19 = .ok (.iload 5, 2) := by decide +kernel
theorem dX7_law_21 : decode cX7_law 21 = .ok (.iconst 1, 1) := by decide +kernel
theorem dX7_law_22 : decode cX7_law 22 = .ok (.bipush 100, 2) := by decide +kernel
theorem dX7_law_24 : decode cX7_law 24 = .ok (.invokestatic 64, 3) := by decide +kernel
theorem dX7_law_27 : decode cX7_law 27 = .ok (.ifCond .eq 14, 3) := by decide +kernel
theorem dX7_law_30 : decode cX7_law 30 = .ok (.iload 4, 2) := by decide +kernel
theorem dX7_law_32 : decode cX7_law 32 = .ok (.iconst 0, 1) := by decide +kernel
theorem dX7_law_33 : decode cX7_law 33 = .ok (.iload 5, 2) := by decide +kernel
theorem dX7_law_35 : decode cX7_law 35 = .ok (.invokestatic 64, 3) := by decide +kernel
theorem dX7_law_38 : decode cX7_law 38 = .ok (.ifCond .ne 6, 3) := by decide +kernel
theorem dX7_law_41 : decode cX7_law 41 = .ok (.bipush (-2), 2) := by decide +kernel
theorem dX7_law_43 : decode cX7_law 43 = .ok (.ireturn, 1) := by decide +kernel
theorem dX7_law_44 : decode cX7_law 44 = .ok (.bipush 15, 2) := by decide +kernel
theorem dX7_law_46 : decode cX7_law 46 = .ok (.istore 7, 2) := by decide +kernel
theorem dX7_law_48 : decode cX7_law 48 = .ok (.iload 7, 2) := by decide +kernel
theorem dX7_law_50 : decode cX7_law 50 = .ok (.iload_n 3, 1) := by decide +kernel
theorem dX7_law_51 : decode cX7_law 51 = .ok (.if_icmp .lt 45, 3) := by decide +kernel
theorem dX7_law_54 : decode cX7_law 54 = .ok (.aload_n 0, 1) := by decide +kernel
theorem dX7_law_55 : decode cX7_law 55 = .ok (.getfield 46, 3) := by decide +kernel
theorem dX7_law_58 : decode cX7_law 58 = .ok (.aload_n 0, 1) := by decide +kernel
theorem dX7_law_59 : decode cX7_law 59 = .ok (.getfield 10, 3) := by decide +kernel
theorem dX7_law_62 : decode cX7_law 62 = .ok (.iload_n 1, 1) := by decide +kernel
theorem dX7_law_63 : decode cX7_law 63 = .ok (.iload_n 2, 1) := by decide +kernel
theorem dX7_law_64 : decode cX7_law 64 = .ok (.iload_n 3, 1) := by decide +kernel
theorem dX7_law_65 : decode cX7_law 65 = .ok (.iload 7, 2) := by decide +kernel
theorem dX7_law_67 : decode cX7_law 67 = .ok (.invokevirtual 208, 3) := by decide +kernel
theorem dX7_law_70 : decode cX7_law 70 = .ok (.aload_n 0, 1) := by decide +kernel
theorem dX7_law_71 : decode cX7_law 71 = .ok (.getfield 46, 3) := by decide +kernel
theorem dX7_law_74 : decode cX7_law 74 = .ok (.getfield 218, 3) := by decide +kernel
theorem dX7_law_77 : decode cX7_law 77 = .ok (.iload 4, 2) := by decide +kernel
theorem dX7_law_79 : decode cX7_law 79 = .ok (.iload 5, 2) := by decide +kernel
theorem dX7_law_81 : decode cX7_law 81 = .ok (.invokevirtual 219, 3) := by decide +kernel
theorem dX7_law_84 : decode cX7_law 84 = .ok (.ifCond .eq 6, 3) := by decide +kernel
theorem dX7_law_87 : decode cX7_law 87 = .ok (.iload 7, 2) := by decide +kernel
theorem dX7_law_89 : decode cX7_law 89 = .ok (.ireturn, 1) := by decide +kernel
theorem dX7_law_90 : decode cX7_law 90 = .ok (.iinc 7 (-1), 3) := by decide +kernel
theorem dX7_law_93 : decode cX7_law 93 = .ok (.goto (-45), 3) := by decide +kernel
theorem dX7_law_96 : decode cX7_law 96 = .ok (.bipush (-6), 2) := by decide +kernel
theorem dX7_law_98 : decode cX7_law 98 = .ok (.ireturn, 1) := by decide +kernel
set_option maxRecDepth 20000 in
theorem ggX7_game_X7_refusalOfClimb : GoodIn wsX7_game wsX7_refusalOfClimb := goodIn_r _ [11, 2, 12, 13, 14, 15, 16, 17, 18, 10, 19, 20, 21, 22, 70, 71, 72, 73, 74, 75, 76, 77, 78, 79, 83, 84, 85, 86, 87, 88, 89, 90, 91, 92, 93, 94, 95] (by decide +kernel) (by decide +kernel)
set_option maxRecDepth 20000 in
theorem gX7_game_X7_refusalOfClimb : GoodIn wsX7_game (wsV RX7 204 RX7 yX7_refusalOfClimb wsX7_refusalOfClimb) := goodIn_app (goodIn_of _ (by decide +kernel)) ggX7_game_X7_refusalOfClimb
set_option maxRecDepth 20000 in
theorem ggX7_game_X7_within : GoodIn wsX7_game wsX7_within := goodIn_r _ [22] (by decide +kernel) (by decide +kernel)
set_option maxRecDepth 20000 in
theorem gX7_game_X7_within : GoodIn wsX7_game (va_wsS RX7 64 yX7_within wsX7_within) := goodIn_app (goodIn_of _ (by decide +kernel)) ggX7_game_X7_within
set_option maxRecDepth 20000 in
theorem ggX7_game_X2_solve : GoodIn wsX7_game wsX2_solve := goodIn_r _ [27, 28, 29, 30, 31, 32, 33, 34, 35, 36, 37, 15, 38, 39, 18, 10, 19, 40, 41, 42, 26, 43, 44, 45, 46, 47, 48, 49, 50, 51, 52, 53, 54, 55, 56, 57, 58, 59, 60, 61, 62, 63, 64, 65, 66, 67, 68, 69, 80, 81, 82, 83, 84, 85, 86, 87, 88, 89, 90, 91, 92, 93, 94, 95] (by decide +kernel) (by decide +kernel)
set_option maxRecDepth 20000 in
theorem gX7_game_X2_solve : GoodIn wsX7_game (wsV RX7 223 RX2 yX2_solve wsX2_solve) := goodIn_app (goodIn_of _ (by decide +kernel)) ggX7_game_X2_solve
theorem dX7_game_0 : decode cX7_game 0 = .ok (.aload_n 0, 1) := by decide +kernel
theorem dX7_game_1 : decode cX7_game 1 = .ok (.iload_n 1, 1) := by decide +kernel
theorem dX7_game_2 : decode cX7_game 2 = .ok (.iload_n 2, 1) := by decide +kernel
theorem dX7_game_3 : decode cX7_game 3 = .ok (.iload_n 3, 1) := by decide +kernel
theorem dX7_game_4 : decode cX7_game 4 = .ok (.iload 4, 2) := by decide +kernel
theorem dX7_game_6 : decode cX7_game 6 = .ok (.invokevirtual 204, 3) := by decide +kernel
theorem dX7_game_9 : decode cX7_game 9 = .ok (.istore 6, 2) := by decide +kernel
theorem dX7_game_11 : decode cX7_game 11 = .ok (.iload 6, 2) := by decide +kernel
theorem dX7_game_13 : decode cX7_game 13 = .ok (.ifCond .eq 6, 3) := by decide +kernel
theorem dX7_game_16 : decode cX7_game 16 = .ok (.iload 6, 2) := by decide +kernel
theorem dX7_game_18 : decode cX7_game 18 = .ok (.ireturn, 1) := by decide +kernel
theorem dX7_game_19 : decode cX7_game 19 = .ok (.iload 5, 2) := by decide +kernel
theorem dX7_game_21 : decode cX7_game 21 = .ok (.iconst 0, 1) := by decide +kernel
theorem dX7_game_22 : decode cX7_game 22 = .ok (.iconst 2, 1) := by decide +kernel
theorem dX7_game_23 : decode cX7_game 23 = .ok (.invokestatic 64, 3) := by decide +kernel
theorem dX7_game_26 : decode cX7_game 26 = .ok (.ifCond .ne 6, 3) := by decide +kernel
theorem dX7_game_29 : decode cX7_game 29 = .ok (.bipush (-2), 2) := by decide +kernel
theorem dX7_game_31 : decode cX7_game 31 = .ok (.ireturn, 1) := by decide +kernel
theorem dX7_game_32 : decode cX7_game 32 = .ok (.aload_n 0, 1) := by decide +kernel
theorem dX7_game_33 : decode cX7_game 33 = .ok (.getfield 53, 3) := by decide +kernel
theorem dX7_game_36 : decode cX7_game 36 = .ok (.aload_n 0, 1) := by decide +kernel
theorem dX7_game_37 : decode cX7_game 37 = .ok (.getfield 10, 3) := by decide +kernel
theorem dX7_game_40 : decode cX7_game 40 = .ok (.iload_n 1, 1) := by decide +kernel
theorem dX7_game_41 : decode cX7_game 41 = .ok (.iload_n 2, 1) := by decide +kernel
theorem dX7_game_42 : decode cX7_game 42 = .ok (.iload_n 3, 1) := by decide +kernel
theorem dX7_game_43 : decode cX7_game 43 = .ok (.iload 4, 2) := by decide +kernel
theorem dX7_game_45 : decode cX7_game 45 = .ok (.invokevirtual 223, 3) := by decide +kernel
theorem dX7_game_48 : decode cX7_game 48 = .ok (.iload 5, 2) := by decide +kernel
theorem dX7_game_50 : decode cX7_game 50 = .ok (.lookupswitch 45 #[(0, 26), (1, 34)], 26) := by decide +kernel
theorem dX7_game_76 : decode cX7_game 76 = .ok (.aload_n 0, 1) := by decide +kernel
theorem dX7_game_77 : decode cX7_game 77 = .ok (.getfield 53, 3) := by decide +kernel
theorem dX7_game_80 : decode cX7_game 80 = .ok (.getfield 226, 3) := by decide +kernel
theorem dX7_game_83 : decode cX7_game 83 = .ok (.ireturn, 1) := by decide +kernel
theorem dX7_game_84 : decode cX7_game 84 = .ok (.ldc 187, 2) := by decide +kernel
theorem dX7_game_86 : decode cX7_game 86 = .ok (.aload_n 0, 1) := by decide +kernel
theorem dX7_game_87 : decode cX7_game 87 = .ok (.getfield 53, 3) := by decide +kernel
theorem dX7_game_90 : decode cX7_game 90 = .ok (.getfield 229, 3) := by decide +kernel
theorem dX7_game_93 : decode cX7_game 93 = .ok (.iadd, 1) := by decide +kernel
theorem dX7_game_94 : decode cX7_game 94 = .ok (.ireturn, 1) := by decide +kernel
theorem dX7_game_95 : decode cX7_game 95 = .ok (.ldc 187, 2) := by decide +kernel
theorem dX7_game_97 : decode cX7_game 97 = .ok (.aload_n 0, 1) := by decide +kernel
theorem dX7_game_98 : decode cX7_game 98 = .ok (.getfield 53, 3) := by decide +kernel
theorem dX7_game_101 : decode cX7_game 101 = .ok (.getfield 232, 3) := by decide +kernel
theorem dX7_game_104 : decode cX7_game 104 = .ok (.iadd, 1) := by decide +kernel
theorem dX7_game_105 : decode cX7_game 105 = .ok (.ireturn, 1) := by decide +kernel
set_option maxRecDepth 20000 in
theorem ggX7_enough_X5_isThere : GoodIn wsX7_enough wsX5_isThere := goodIn_r _ [6, 7, 8, 9, 10, 39, 40, 41, 42, 43, 44, 45, 46, 47, 48, 49, 50, 51] (by decide +kernel) (by decide +kernel)
set_option maxRecDepth 20000 in
theorem gX7_enough_X5_isThere : GoodIn wsX7_enough (wsV RX7 82 RX5 yX5_isThere wsX5_isThere) := goodIn_app (goodIn_of _ (by decide +kernel)) ggX7_enough_X5_isThere
set_option maxRecDepth 20000 in
theorem ggX7_enough_X5_joined : GoodIn wsX7_enough wsX5_joined := goodIn_r _ [14, 15, 16, 17, 5, 18, 19, 20, 21, 22, 23, 24, 25, 26, 27, 28, 3, 4, 6, 7, 8, 9, 10, 39, 40, 41, 42, 43, 44, 45, 46, 47, 48, 49, 50, 51] (by decide +kernel) (by decide +kernel)
set_option maxRecDepth 20000 in
theorem gX7_enough_X5_joined : GoodIn wsX7_enough (wsV RX7 235 RX5 yX5_joined wsX5_joined) := goodIn_app (goodIn_of _ (by decide +kernel)) ggX7_enough_X5_joined
theorem dX7_enough_0 : decode cX7_enough 0 = .ok (.aload_n 0, 1) := by decide +kernel
theorem dX7_enough_1 : decode cX7_enough 1 = .ok (.getfield 10, 3) := by decide +kernel
theorem dX7_enough_4 : decode cX7_enough 4 = .ok (.iload_n 1, 1) := by decide +kernel
theorem dX7_enough_5 : decode cX7_enough 5 = .ok (.invokevirtual 82, 3) := by decide +kernel
theorem dX7_enough_8 : decode cX7_enough 8 = .ok (.ifCond .eq 16, 3) := by decide +kernel
theorem dX7_enough_11 : decode cX7_enough 11 = .ok (.aload_n 0, 1) := by decide +kernel
theorem dX7_enough_12 : decode cX7_enough 12 = .ok (.getfield 10, 3) := by decide +kernel
theorem dX7_enough_15 : decode cX7_enough 15 = .ok (.iconst 1, 1) := by decide +kernel
theorem dX7_enough_16 : decode cX7_enough 16 = .ok (.iload_n 1, 1) := by decide +kernel
theorem dX7_enough_17 : decode cX7_enough 17 = .ok (.ishl, 1) := by decide +kernel
theorem dX7_enough_18 : decode cX7_enough 18 = .ok (.invokevirtual 235, 3) := by decide +kernel
theorem dX7_enough_21 : decode cX7_enough 21 = .ok (.goto 4, 3) := by decide +kernel
theorem dX7_enough_24 : decode cX7_enough 24 = .ok (.iconst (-1), 1) := by decide +kernel
theorem dX7_enough_25 : decode cX7_enough 25 = .ok (.ireturn, 1) := by decide +kernel
set_option maxRecDepth 20000 in
theorem ggX7_holds_X5_isThere : GoodIn wsX7_holds wsX5_isThere := goodIn_r _ [6, 7, 8, 9, 10, 47, 48, 49, 50, 51, 52, 53, 54, 55, 56, 57, 58, 59] (by decide +kernel) (by decide +kernel)
set_option maxRecDepth 20000 in
theorem gX7_holds_X5_isThere : GoodIn wsX7_holds (wsV RX7 82 RX5 yX5_isThere wsX5_isThere) := goodIn_app (goodIn_of _ (by decide +kernel)) ggX7_holds_X5_isThere
set_option maxRecDepth 20000 in
theorem ggX7_holds_X5_joined : GoodIn wsX7_holds wsX5_joined := goodIn_r _ [14, 15, 16, 17, 5, 18, 19, 20, 21, 22, 23, 24, 25, 26, 27, 28, 3, 4, 6, 7, 8, 9, 10, 47, 48, 49, 50, 51, 52, 53, 54, 55, 56, 57, 58, 59] (by decide +kernel) (by decide +kernel)
set_option maxRecDepth 20000 in
theorem gX7_holds_X5_joined : GoodIn wsX7_holds (wsV RX7 235 RX5 yX5_joined wsX5_joined) := goodIn_app (goodIn_of _ (by decide +kernel)) ggX7_holds_X5_joined
set_option maxRecDepth 20000 in
theorem ggX7_holds_X5_isMost : GoodIn wsX7_holds wsX5_isMost := goodIn_r _ [32, 21, 22, 23, 24, 25, 26, 27, 33, 34, 35, 5, 36, 7, 8, 9, 10, 47, 48, 49, 50, 51, 52, 53, 54, 55, 56, 57, 58, 59] (by decide +kernel) (by decide +kernel)
set_option maxRecDepth 20000 in
theorem gX7_holds_X5_isMost : GoodIn wsX7_holds (wsV RX7 238 RX5 yX5_isMost wsX5_isMost) := goodIn_app (goodIn_of _ (by decide +kernel)) ggX7_holds_X5_isMost
theorem dX7_holds_0 : decode cX7_holds 0 = .ok (.aload_n 0, 1) := by decide +kernel
theorem dX7_holds_1 : decode cX7_holds 1 = .ok (.getfield 10, 3) := by decide +kernel
theorem dX7_holds_4 : decode cX7_holds 4 = .ok (.iload_n 1, 1) := by decide +kernel
theorem dX7_holds_5 : decode cX7_holds 5 = .ok (.invokevirtual 82, 3) := by decide +kernel
theorem dX7_holds_8 : decode cX7_holds 8 = .ok (.ifCond .ne 5, 3) := by decide +kernel
theorem dX7_holds_11 : decode cX7_holds 11 = .ok (.iconst (-1), 1) := by decide +kernel
theorem dX7_holds_12 : decode cX7_holds 12 = .ok (.ireturn, 1) := by decide +kernel
theorem dX7_holds_13 : decode cX7_holds 13 = .ok (.aload_n 0, 1) := by decide +kernel
theorem dX7_holds_14 : decode cX7_holds 14 = .ok (.getfield 10, 3) := by decide +kernel
theorem dX7_holds_17 : decode cX7_holds 17 = .ok (.aload_n 0, 1) := by decide +kernel
theorem dX7_holds_18 : decode cX7_holds 18 = .ok (.getfield 10, 3) := by decide +kernel
theorem dX7_holds_21 : decode cX7_holds 21 = .ok (.iconst 1, 1) := by decide +kernel
theorem dX7_holds_22 : decode cX7_holds 22 = .ok (.iload_n 1, 1) := by decide +kernel
theorem dX7_holds_23 : decode cX7_holds 23 = .ok (.ishl, 1) := by decide +kernel
theorem dX7_holds_24 : decode cX7_holds 24 = .ok (.invokevirtual 235, 3) := by decide +kernel
theorem dX7_holds_27 : decode cX7_holds 27 = .ok (.invokevirtual 238, 3) := by decide +kernel
theorem dX7_holds_30 : decode cX7_holds 30 = .ok (.ifCond .eq 7, 3) := by decide +kernel
theorem dX7_holds_33 : decode cX7_holds 33 = .ok (.iconst 1, 1) := by decide +kernel
theorem dX7_holds_34 : decode cX7_holds 34 = .ok (.goto 4, 3) := by decide +kernel
theorem dX7_holds_37 : decode cX7_holds 37 = .ok (.iconst 0, 1) := by decide +kernel
theorem dX7_holds_38 : decode cX7_holds 38 = .ok (.ireturn, 1) := by decide +kernel
set_option maxRecDepth 20000 in
theorem ggX7_won_X7_within : GoodIn wsX7_won wsX7_within := goodIn_r _ [5] (by decide +kernel) (by decide +kernel)
set_option maxRecDepth 20000 in
theorem gX7_won_X7_within : GoodIn wsX7_won (va_wsS RX7 64 yX7_within wsX7_within) := goodIn_app (goodIn_of _ (by decide +kernel)) ggX7_won_X7_within
set_option maxRecDepth 20000 in
theorem ggX7_won_X5_fewestToHold : GoodIn wsX7_won wsX5_fewestToHold := goodIn_r _ [10, 11, 12, 13, 14, 9, 15, 16, 17, 4, 18, 19, 20, 21, 22, 23, 24, 25, 26, 27, 28, 29, 30, 31, 32, 33, 34, 35, 36, 37, 38, 39, 40, 41, 42, 54, 55, 56, 57, 58, 59, 60, 61, 62, 63, 64, 65, 66] (by decide +kernel) (by decide +kernel)
set_option maxRecDepth 20000 in
theorem gX7_won_X5_fewestToHold : GoodIn wsX7_won (wsV RX7 241 RX5 yX5_fewestToHold wsX5_fewestToHold) := goodIn_app (goodIn_of _ (by decide +kernel)) ggX7_won_X5_fewestToHold
set_option maxRecDepth 20000 in
theorem ggX7_won_J6_bitCount_0f7a4 : GoodIn wsX7_won wsJ6_bitCount_0f7a4 := goodIn_r _ [22, 23, 24, 25] (by decide +kernel) (by decide +kernel)
set_option maxRecDepth 20000 in
theorem gX7_won_J6_bitCount_0f7a4 : GoodIn wsX7_won (va_wsS RX7 76 yJ6_bitCount_0f7a4 wsJ6_bitCount_0f7a4) := goodIn_app (goodIn_of _ (by decide +kernel)) ggX7_won_J6_bitCount_0f7a4
theorem dX7_won_0 : decode cX7_won 0 = .ok (.iload_n 1, 1) := by decide +kernel
theorem dX7_won_1 : decode cX7_won 1 = .ok (.iconst 0, 1) := by decide +kernel
theorem dX7_won_2 : decode cX7_won 2 = .ok (.iconst 1, 1) := by decide +kernel
theorem dX7_won_3 : decode cX7_won 3 = .ok (.invokestatic 64, 3) := by decide +kernel
theorem dX7_won_6 : decode cX7_won 6 = .ok (.ifCond .ne 6, 3) := by decide +kernel
theorem dX7_won_9 : decode cX7_won 9 = .ok (.bipush (-2), 2) := by decide +kernel
theorem dX7_won_11 : decode cX7_won 11 = .ok (.ireturn, 1) := by decide +kernel
theorem dX7_won_12 : decode cX7_won 12 = .ok (.aload_n 0, 1) := by decide +kernel
theorem dX7_won_13 : decode cX7_won 13 = .ok (.getfield 10, 3) := by decide +kernel
theorem dX7_won_16 : decode cX7_won 16 = .ok (.invokevirtual 241, 3) := by decide +kernel
theorem dX7_won_19 : decode cX7_won 19 = .ok (.istore_n 2, 1) := by decide +kernel
theorem dX7_won_20 : decode cX7_won 20 = .ok (.iload_n 2, 1) := by decide +kernel
theorem dX7_won_21 : decode cX7_won 21 = .ok (.ifCond .ne 6, 3) := by decide +kernel
theorem dX7_won_24 : decode cX7_won 24 = .ok (.bipush (-6), 2) := by decide +kernel
theorem dX7_won_26 : decode cX7_won 26 = .ok (.ireturn, 1) := by decide +kernel
theorem dX7_won_27 : decode cX7_won 27 = .ok (.iload_n 1, 1) := by decide +kernel
theorem dX7_won_28 : decode cX7_won 28 = .ok (.ifCond .ne 10, 3) := by decide +kernel
theorem dX7_won_31 : decode cX7_won 31 = .ok (.iload_n 2, 1) := by decide +kernel
theorem dX7_won_32 : decode cX7_won 32 = .ok (.invokestatic 76, 3) := by decide +kernel
theorem dX7_won_35 : decode cX7_won 35 = .ok (.goto 4, 3) := by decide +kernel
theorem dX7_won_38 : decode cX7_won 38 = .ok (.iload_n 2, 1) := by decide +kernel
theorem dX7_won_39 : decode cX7_won 39 = .ok (.ireturn, 1) := by decide +kernel
set_option maxRecDepth 20000 in
theorem ggX7_refuser_X7_refusalOfHeight : GoodIn wsX7_refuser wsX7_refusalOfHeight := goodIn_r _ [6, 1, 7, 8, 9, 10, 11, 12, 13, 5, 14, 15, 16, 17, 51, 52, 53, 54, 55, 56, 57, 58, 59, 60, 61, 62, 63, 64, 65, 66, 67, 68, 69, 70, 71, 72, 73] (by decide +kernel) (by decide +kernel)
set_option maxRecDepth 20000 in
theorem gX7_refuser_X7_refusalOfHeight : GoodIn wsX7_refuser (wsV RX7 178 RX7 yX7_refusalOfHeight wsX7_refusalOfHeight) := goodIn_app (goodIn_of _ (by decide +kernel)) ggX7_refuser_X7_refusalOfHeight
set_option maxRecDepth 20000 in
theorem ggX7_refuser_X5_wouldRefuse : GoodIn wsX7_refuser wsX5_wouldRefuse := goodIn_r _ [21, 22, 23, 24, 25, 8, 9, 10, 11, 12, 13, 5, 14, 26, 27, 28, 29, 30, 31, 32, 33, 34, 35, 36, 37, 38, 39, 40, 41, 42, 43, 44, 45, 46, 47, 48, 49, 50, 61, 62, 63, 64, 65, 66, 67, 68, 69, 70, 71, 72, 73] (by decide +kernel) (by decide +kernel)
set_option maxRecDepth 20000 in
theorem gX7_refuser_X5_wouldRefuse : GoodIn wsX7_refuser (wsV RX7 244 RX5 yX5_wouldRefuse wsX5_wouldRefuse) := goodIn_app (goodIn_of _ (by decide +kernel)) ggX7_refuser_X5_wouldRefuse
theorem dX7_refuser_0 : decode cX7_refuser 0 = .ok (.aload_n 0, 1) := by decide +kernel
theorem dX7_refuser_1 : decode cX7_refuser 1 = .ok (.iload_n 1, 1) := by decide +kernel
theorem dX7_refuser_2 : decode cX7_refuser 2 = .ok (.iload_n 2, 1) := by decide +kernel
theorem dX7_refuser_3 : decode cX7_refuser 3 = .ok (.invokevirtual 178, 3) := by decide +kernel
theorem dX7_refuser_6 : decode cX7_refuser 6 = .ok (.istore_n 3, 1) := by decide +kernel
theorem dX7_refuser_7 : decode cX7_refuser 7 = .ok (.iload_n 3, 1) := by decide +kernel
theorem dX7_refuser_8 : decode cX7_refuser 8 = .ok (.ifCond .eq 5, 3) := by decide +kernel
theorem dX7_refuser_11 : decode cX7_refuser 11 = .ok (.iload_n 3, 1) := by decide +kernel
theorem dX7_refuser_12 : decode cX7_refuser 12 = .ok (.ireturn, 1) := by decide +kernel
theorem dX7_refuser_13 : decode cX7_refuser 13 = .ok (.iconst 0, 1) := by decide +kernel
theorem dX7_refuser_14 : decode cX7_refuser 14 = .ok (.istore 4, 2) := by decide +kernel
theorem dX7_refuser_16 : decode cX7_refuser 16 = .ok (.iload 4, 2) := by decide +kernel
theorem dX7_refuser_18 : decode cX7_refuser 18 = .ok (.bipush 6, 2) := by decide +kernel
theorem dX7_refuser_20 : decode cX7_refuser 20 = .ok (.if_icmp .ge 31, 3) := by decide +kernel
theorem dX7_refuser_23 : decode cX7_refuser 23 = .ok (.iload 4, 2) := by decide +kernel
theorem dX7_refuser_25 : decode cX7_refuser 25 = .ok (.iload_n 1, 1) := by decide +kernel
theorem dX7_refuser_26 : decode cX7_refuser 26 = .ok (.if_icmp .eq 19, 3) := by decide +kernel
theorem dX7_refuser_29 : decode cX7_refuser 29 = .ok (.aload_n 0, 1) := by decide +kernel
theorem dX7_refuser_30 : decode cX7_refuser 30 = .ok (.getfield 10, 3) := by decide +kernel
theorem dX7_refuser_33 : decode cX7_refuser 33 = .ok (.iload 4, 2) := by decide +kernel
theorem dX7_refuser_35 : decode cX7_refuser 35 = .ok (.iload_n 2, 1) := by decide +kernel
theorem dX7_refuser_36 : decode cX7_refuser 36 = .ok (.invokevirtual 244, 3) := by decide +kernel
theorem dX7_refuser_39 : decode cX7_refuser 39 = .ok (.ifCond .eq 6, 3) := by decide +kernel
theorem dX7_refuser_42 : decode cX7_refuser 42 = .ok (.iload 4, 2) := by decide +kernel
theorem dX7_refuser_44 : decode cX7_refuser 44 = .ok (.ireturn, 1) := by decide +kernel
theorem dX7_refuser_45 : decode cX7_refuser 45 = .ok (.iinc 4 1, 3) := by decide +kernel
theorem dX7_refuser_48 : decode cX7_refuser 48 = .ok (.goto (-32), 3) := by decide +kernel
theorem dX7_refuser_51 : decode cX7_refuser 51 = .ok (.bipush (-6), 2) := by decide +kernel
theorem dX7_refuser_53 : decode cX7_refuser 53 = .ok (.ireturn, 1) := by decide +kernel
set_option maxRecDepth 20000 in
theorem ggX7_likely_X7_refusalOfHeight : GoodIn wsX7_likely wsX7_refusalOfHeight := goodIn_r _ [6, 1, 7, 8, 9, 10, 11, 12, 13, 5, 14, 15, 16, 17, 43, 44, 45, 46, 47, 48, 49, 50, 51, 52, 53, 54, 55, 56, 57, 58, 59, 60, 61, 62, 63, 64, 65] (by decide +kernel) (by decide +kernel)
set_option maxRecDepth 20000 in
theorem gX7_likely_X7_refusalOfHeight : GoodIn wsX7_likely (wsV RX7 178 RX7 yX7_refusalOfHeight wsX7_refusalOfHeight) := goodIn_app (goodIn_of _ (by decide +kernel)) ggX7_likely_X7_refusalOfHeight
set_option maxRecDepth 20000 in
theorem ggX7_likely_X5_dares : GoodIn wsX7_likely wsX5_dares := goodIn_r _ [21, 22, 23, 24, 10, 25, 26, 27, 13, 5, 14, 28, 29, 30, 31, 32, 33, 34, 35, 36, 37, 38, 39, 40, 41, 42, 53, 54, 55, 56, 57, 58, 59, 60, 61, 62, 63, 64, 65] (by decide +kernel) (by decide +kernel)
set_option maxRecDepth 20000 in
theorem gX7_likely_X5_dares : GoodIn wsX7_likely (wsV RX7 195 RX5 yX5_dares wsX5_dares) := goodIn_app (goodIn_of _ (by decide +kernel)) ggX7_likely_X5_dares
theorem dX7_likely_0 : decode cX7_likely 0 = .ok (.aload_n 0, 1) := by decide +kernel
theorem dX7_likely_1 : decode cX7_likely 1 = .ok (.iload_n 1, 1) := by decide +kernel
theorem dX7_likely_2 : decode cX7_likely 2 = .ok (.iload_n 2, 1) := by decide +kernel
theorem dX7_likely_3 : decode cX7_likely 3 = .ok (.invokevirtual 178, 3) := by decide +kernel
theorem dX7_likely_6 : decode cX7_likely 6 = .ok (.istore_n 3, 1) := by decide +kernel
theorem dX7_likely_7 : decode cX7_likely 7 = .ok (.iload_n 3, 1) := by decide +kernel
theorem dX7_likely_8 : decode cX7_likely 8 = .ok (.ifCond .eq 5, 3) := by decide +kernel
theorem dX7_likely_11 : decode cX7_likely 11 = .ok (.iload_n 3, 1) := by decide +kernel
theorem dX7_likely_12 : decode cX7_likely 12 = .ok (.ireturn, 1) := by decide +kernel
theorem dX7_likely_13 : decode cX7_likely 13 = .ok (.iconst 0, 1) := by decide +kernel
theorem dX7_likely_14 : decode cX7_likely 14 = .ok (.istore 4, 2) := by decide +kernel
theorem dX7_likely_16 : decode cX7_likely 16 = .ok (.iconst 0, 1) := by decide +kernel
theorem dX7_likely_17 : decode cX7_likely 17 = .ok (.istore 5, 2) := by decide +kernel
theorem dX7_likely_19 : decode cX7_likely 19 = .ok (.iload 5, 2) := by decide +kernel
theorem dX7_likely_21 : decode cX7_likely 21 = .ok (.bipush 9, 2) := by decide +kernel
theorem dX7_likely_23 : decode cX7_likely 23 = .ok (.if_icmp .gt 26, 3) := by decide +kernel
theorem dX7_likely_26 : decode cX7_likely 26 = .ok (.aload_n 0, 1) := by decide +kernel
theorem dX7_likely_27 : decode cX7_likely 27 = .ok (.getfield 10, 3) := by decide +kernel
theorem dX7_likely_30 : decode cX7_likely 30 = .ok (.iload_n 1, 1) := by decide +kernel
theorem dX7_likely_31 : decode cX7_likely 31 = .ok (.iload_n 2, 1) := by decide +kernel
theorem dX7_likely_32 : decode cX7_likely 32 = .ok (.iload 5, 2) := by decide +kernel
theorem dX7_likely_34 : decode cX7_likely 34 = .ok (.invokevirtual 195, 3) := by decide +kernel
theorem dX7_likely_37 : decode cX7_likely 37 = .ok (.ifCond .eq 6, 3) := by decide +kernel
theorem dX7_likely_40 : decode cX7_likely 40 = .ok (.iinc 4 1, 3) := by decide +kernel
theorem dX7_likely_43 : decode cX7_likely 43 = .ok (.iinc 5 1, 3) := by decide +kernel
theorem dX7_likely_46 : decode cX7_likely 46 = .ok (.goto (-27), 3) := by decide +kernel
theorem dX7_likely_49 : decode cX7_likely 49 = .ok (.iload 4, 2) := by decide +kernel
theorem dX7_likely_51 : decode cX7_likely 51 = .ok (.ireturn, 1) := by decide +kernel
set_option maxRecDepth 20000 in
theorem ggX7_seen_X7_refusalOfHeight : GoodIn wsX7_seen wsX7_refusalOfHeight := goodIn_r _ [7, 1, 8, 9, 10, 11, 12, 13, 14, 6, 15, 16, 17, 18, 29, 30, 31, 32, 33, 34, 35, 36, 37, 38, 39, 40, 41, 42, 43, 44, 45, 46, 47, 48, 49, 50, 51] (by decide +kernel) (by decide +kernel)
set_option maxRecDepth 20000 in
theorem gX7_seen_X7_refusalOfHeight : GoodIn wsX7_seen (wsV RX7 178 RX7 yX7_refusalOfHeight wsX7_refusalOfHeight) := goodIn_app (goodIn_of _ (by decide +kernel)) ggX7_seen_X7_refusalOfHeight
set_option maxRecDepth 20000 in
theorem ggX7_seen_X7_within : GoodIn wsX7_seen wsX7_within := goodIn_r _ [18] (by decide +kernel) (by decide +kernel)
set_option maxRecDepth 20000 in
theorem gX7_seen_X7_within : GoodIn wsX7_seen (va_wsS RX7 64 yX7_within wsX7_within) := goodIn_app (goodIn_of _ (by decide +kernel)) ggX7_seen_X7_within
set_option maxRecDepth 20000 in
theorem ggX7_seen_X5_see : GoodIn wsX7_seen wsX5_see := goodIn_r _ [22, 23, 24, 25, 26, 27, 6, 28, 39, 40, 41, 42, 43, 44, 45, 46, 47, 48, 49, 50, 51] (by decide +kernel) (by decide +kernel)
set_option maxRecDepth 20000 in
theorem gX7_seen_X5_see : GoodIn wsX7_seen (wsV RX7 247 RX5 yX5_see wsX5_see) := goodIn_app (goodIn_of _ (by decide +kernel)) ggX7_seen_X5_see
theorem dX7_seen_0 : decode cX7_seen 0 = .ok (.aload_n 0, 1) := by decide +kernel
theorem dX7_seen_1 : decode cX7_seen 1 = .ok (.iload_n 1, 1) := by decide +kernel
theorem dX7_seen_2 : decode cX7_seen 2 = .ok (.iload_n 2, 1) := by decide +kernel
theorem dX7_seen_3 : decode cX7_seen 3 = .ok (.invokevirtual 178, 3) := by decide +kernel
theorem dX7_seen_6 : decode cX7_seen 6 = .ok (.istore 4, 2) := by decide +kernel
theorem dX7_seen_8 : decode cX7_seen 8 = .ok (.iload 4, 2) := by decide +kernel
theorem dX7_seen_10 : decode cX7_seen 10 = .ok (.ifCond .eq 6, 3) := by decide +kernel
theorem dX7_seen_13 : decode cX7_seen 13 = .ok (.iload 4, 2) := by decide +kernel
theorem dX7_seen_15 : decode cX7_seen 15 = .ok (.ireturn, 1) := by decide +kernel
theorem dX7_seen_16 : decode cX7_seen 16 = .ok (.iload_n 3, 1) := by decide +kernel
theorem dX7_seen_17 : decode cX7_seen 17 = .ok (.iconst 0, 1) := by decide +kernel
theorem dX7_seen_18 : decode cX7_seen 18 = .ok (.iconst 1, 1) := by decide +kernel
theorem dX7_seen_19 : decode cX7_seen 19 = .ok (.invokestatic 64, 3) := by decide +kernel
theorem dX7_seen_22 : decode cX7_seen 22 = .ok (.ifCond .ne 6, 3) := by decide +kernel
theorem dX7_seen_25 : decode cX7_seen 25 = .ok (.bipush (-2), 2) := by decide +kernel
theorem dX7_seen_27 : decode cX7_seen 27 = .ok (.ireturn, 1) := by decide +kernel
theorem dX7_seen_28 : decode cX7_seen 28 = .ok (.aload_n 0, 1) := by decide +kernel
theorem dX7_seen_29 : decode cX7_seen 29 = .ok (.getfield 10, 3) := by decide +kernel
theorem dX7_seen_32 : decode cX7_seen 32 = .ok (.iload_n 1, 1) := by decide +kernel
theorem dX7_seen_33 : decode cX7_seen 33 = .ok (.iload_n 2, 1) := by decide +kernel
theorem dX7_seen_34 : decode cX7_seen 34 = .ok (.iload_n 3, 1) := by decide +kernel
theorem dX7_seen_35 : decode cX7_seen 35 = .ok (.invokevirtual 247, 3) := by decide +kernel
theorem dX7_seen_38 : decode cX7_seen 38 = .ok (.ifCond .eq 13, 3) := by decide +kernel
theorem dX7_seen_41 : decode cX7_seen 41 = .ok (.aload_n 0, 1) := by decide +kernel
theorem dX7_seen_42 : decode cX7_seen 42 = .ok (.getfield 10, 3) := by decide +kernel
theorem dX7_seen_45 : decode cX7_seen 45 = .ok (.getfield 250, 3) := by decide +kernel
theorem dX7_seen_48 : decode cX7_seen 48 = .ok (.goto 5, 3) := by decide +kernel
theorem dX7_seen_51 : decode cX7_seen 51 = .ok (.bipush (-4), 2) := by decide +kernel
theorem dX7_seen_53 : decode cX7_seen 53 = .ok (.ireturn, 1) := by decide +kernel
theorem dX7_forget_0 : decode cX7_forget 0 = .ok (.aload_n 0, 1) := by decide +kernel
theorem dX7_forget_1 : decode cX7_forget 1 = .ok (.getfield 10, 3) := by decide +kernel
theorem dX7_forget_4 : decode cX7_forget 4 = .ok (.getfield 250, 3) := by decide +kernel
theorem dX7_forget_7 : decode cX7_forget 7 = .ok (.istore_n 1, 1) := by decide +kernel
theorem dX7_forget_8 : decode cX7_forget 8 = .ok (.aload_n 0, 1) := by decide +kernel
theorem dX7_forget_9 : decode cX7_forget 9 = .ok (.getfield 10, 3) := by decide +kernel
theorem dX7_forget_12 : decode cX7_forget 12 = .ok (.iconst 0, 1) := by decide +kernel
theorem dX7_forget_13 : decode cX7_forget 13 = .ok (.putfield 250, 3) := by decide +kernel
theorem dX7_forget_16 : decode cX7_forget 16 = .ok (.iload_n 1, 1) := by decide +kernel
theorem dX7_forget_17 : decode cX7_forget 17 = .ok (.ireturn, 1) := by decide +kernel
set_option maxRecDepth 20000 in
theorem ggX7_prides_X5_isThere : GoodIn wsX7_prides wsX5_isThere := goodIn_r _ [6, 7, 8, 9, 10, 57, 58, 59, 60, 61, 62, 63, 64, 65, 66, 67, 68, 69] (by decide +kernel) (by decide +kernel)
set_option maxRecDepth 20000 in
theorem gX7_prides_X5_isThere : GoodIn wsX7_prides (wsV RX7 82 RX5 yX5_isThere wsX5_isThere) := goodIn_app (goodIn_of _ (by decide +kernel)) ggX7_prides_X5_isThere
set_option maxRecDepth 20000 in
theorem ggX7_prides_X7_within : GoodIn wsX7_prides wsX7_within := goodIn_r _ [13] (by decide +kernel) (by decide +kernel)
set_option maxRecDepth 20000 in
theorem gX7_prides_X7_within : GoodIn wsX7_prides (va_wsS RX7 64 yX7_within wsX7_within) := goodIn_app (goodIn_of _ (by decide +kernel)) ggX7_prides_X7_within
set_option maxRecDepth 20000 in
theorem ggX7_prides_X5_fitsSights : GoodIn wsX7_prides wsX5_fitsSights := goodIn_r _ [17, 18, 19, 20, 21, 8, 9, 10, 22, 23, 24, 5, 25, 26, 27, 28, 29, 30, 31, 32, 33, 34, 35, 36, 37, 38, 39, 40, 41, 42, 43, 44, 45, 46, 57, 58, 59, 60, 61, 62, 63, 64, 65, 66, 67, 68, 69] (by decide +kernel) (by decide +kernel)
set_option maxRecDepth 20000 in
theorem gX7_prides_X5_fitsSights : GoodIn wsX7_prides (wsV RX7 253 RX5 yX5_fitsSights wsX5_fitsSights) := goodIn_app (goodIn_of _ (by decide +kernel)) ggX7_prides_X5_fitsSights
theorem dX7_prides_0 : decode cX7_prides 0 = .ok (.aload_n 0, 1) := by decide +kernel
theorem dX7_prides_1 : decode cX7_prides 1 = .ok (.getfield 10, 3) := by decide +kernel
theorem dX7_prides_4 : decode cX7_prides 4 = .ok (.iload_n 1, 1) := by decide +kernel
theorem dX7_prides_5 : decode cX7_prides 5 = .ok (.invokevirtual 82, 3) := by decide +kernel
theorem dX7_prides_8 : decode cX7_prides 8 = .ok (.ifCond .ne 5, 3) := by decide +kernel
theorem dX7_prides_11 : decode cX7_prides 11 = .ok (.iconst (-1), 1) := by decide +kernel
theorem dX7_prides_12 : decode cX7_prides 12 = .ok (.ireturn, 1) := by decide +kernel
theorem dX7_prides_13 : decode cX7_prides 13 = .ok (.iload_n 2, 1) := by decide +kernel
theorem dX7_prides_14 : decode cX7_prides 14 = .ok (.iconst 0, 1) := by decide +kernel
theorem dX7_prides_15 : decode cX7_prides 15 = .ok (.iconst 2, 1) := by decide +kernel
theorem dX7_prides_16 : decode cX7_prides 16 = .ok (.invokestatic 64, 3) := by decide +kernel
theorem dX7_prides_19 : decode cX7_prides 19 = .ok (.ifCond .ne 6, 3) := by decide +kernel
theorem dX7_prides_22 : decode cX7_prides 22 = .ok (.bipush (-2), 2) := by decide +kernel
theorem dX7_prides_24 : decode cX7_prides 24 = .ok (.ireturn, 1) := by decide +kernel
theorem dX7_prides_25 : decode cX7_prides 25 = .ok (.iconst 0, 1) := by decide +kernel
theorem dX7_prides_26 : decode cX7_prides 26 = .ok (.istore_n 3, 1) := by decide +kernel
theorem dX7_prides_27 : decode cX7_prides 27 = .ok (.bipush (-6), 2) := by decide +kernel
theorem dX7_prides_29 : decode cX7_prides 29 = .ok (.istore 4, 2) := by decide +kernel
theorem dX7_prides_31 : decode cX7_prides 31 = .ok (.bipush (-6), 2) := by decide +kernel
theorem dX7_prides_33 : decode cX7_prides 33 = .ok (.istore 5, 2) := by decide +kernel
theorem dX7_prides_35 : decode cX7_prides 35 = .ok (.iconst 0, 1) := by decide +kernel
theorem dX7_prides_36 : decode cX7_prides 36 = .ok (.istore 6, 2) := by decide +kernel
theorem dX7_prides_38 : decode cX7_prides 38 = .ok (.iload 6, 2) := by decide +kernel
theorem dX7_prides_40 : decode cX7_prides 40 = .ok (.bipush 9, 2) := by decide +kernel
theorem dX7_prides_42 : decode cX7_prides 42 = .ok (.if_icmp .gt 42, 3) := by decide +kernel
theorem dX7_prides_45 : decode cX7_prides 45 = .ok (.aload_n 0, 1) := by decide +kernel
theorem dX7_prides_46 : decode cX7_prides 46 = .ok (.getfield 10, 3) := by decide +kernel
theorem dX7_prides_49 : decode cX7_prides 49 = .ok (.iload_n 1, 1) := by decide +kernel
theorem dX7_prides_50 : decode cX7_prides 50 = .ok (.iload 6, 2) := by decide +kernel
theorem dX7_prides_52 : decode cX7_prides 52 = .ok (.invokevirtual 253, 3) := by decide +kernel
theorem dX7_prides_55 : decode cX7_prides 55 = .ok (.ifCond .eq 23, 3) := by decide +kernel
theorem dX7_prides_58 : decode cX7_prides 58 = .ok (.iload_n 3, 1) := by decide +kernel
theorem dX7_prides_59 : decode cX7_prides 59 = .ok (.ifCond .ne 8, 3) := by decide +kernel
theorem dX7_prides_62 : decode cX7_prides 62 = .ok (.iload 6, 2) := by decide +kernel
theorem dX7_prides_64 : decode cX7_prides 64 = .ok (.goto 5, 3) := by decide +kernel
theorem dX7_prides_67 : decode cX7_prides 67 = .ok (.iload 4, 2) := by decide +kernel
theorem dX7_prides_69 : decode cX7_prides 69 = .ok (.istore 4, 2) := by decide +kernel
theorem dX7_prides_71 : decode cX7_prides 71 = .ok (.iload 6, 2) := by decide +kernel
theorem dX7_prides_73 : decode cX7_prides 73 = .ok (.istore 5, 2) := by decide +kernel
theorem dX7_prides_75 : decode cX7_prides 75 = .ok (.iinc 3 1, 3) := by decide +kernel
theorem dX7_prides_78 : decode cX7_prides 78 = .ok (.iinc 6 1, 3) := by decide +kernel
theorem dX7_prides_81 : decode cX7_prides 81 = .ok (.goto (-43), 3) := by decide +kernel
theorem dX7_prides_84 : decode cX7_prides 84 = .ok (.iload_n 2, 1) := by decide +kernel
theorem dX7_prides_85 : decode cX7_prides 85 = .ok (.ifCond .ne 5, 3) := by decide +kernel
theorem dX7_prides_88 : decode cX7_prides 88 = .ok (.iload_n 3, 1) := by decide +kernel
theorem dX7_prides_89 : decode cX7_prides 89 = .ok (.ireturn, 1) := by decide +kernel
theorem dX7_prides_90 : decode cX7_prides 90 = .ok (.iload_n 2, 1) := by decide +kernel
theorem dX7_prides_91 : decode cX7_prides 91 = .ok (.iconst 1, 1) := by decide +kernel
theorem dX7_prides_92 : decode cX7_prides 92 = .ok (.if_icmp .ne 8, 3) := by decide +kernel
theorem dX7_prides_95 : decode cX7_prides 95 = .ok (.iload 4, 2) := by decide +kernel
theorem dX7_prides_97 : decode cX7_prides 97 = .ok (.goto 5, 3) := by decide +kernel
theorem dX7_prides_100 : decode cX7_prides 100 = .ok (.iload 5, 2) := by decide +kernel
theorem dX7_prides_102 : decode cX7_prides 102 = .ok (.ireturn, 1) := by decide +kernel
set_option maxRecDepth 20000 in
theorem ggX7_year_X7_at : GoodIn wsX7_year wsX7_at := goodIn_r _ [10] (by decide +kernel) (by decide +kernel)
set_option maxRecDepth 20000 in
theorem gX7_year_X7_at : GoodIn wsX7_year (va_wsS RX7 94 yX7_at wsX7_at) := goodIn_app (goodIn_of _ (by decide +kernel)) ggX7_year_X7_at
set_option maxRecDepth 20000 in
theorem ggX7_year_X7_within : GoodIn wsX7_year wsX7_within := goodIn_r _ [13] (by decide +kernel) (by decide +kernel)
set_option maxRecDepth 20000 in
theorem gX7_year_X7_within : GoodIn wsX7_year (va_wsS RX7 64 yX7_within wsX7_within) := goodIn_app (goodIn_of _ (by decide +kernel)) ggX7_year_X7_within
set_option maxRecDepth 20000 in
theorem ggX7_year_X6_pass : GoodIn wsX7_year wsX6_pass := goodIn_r _ [18, 19, 20, 21, 22, 23, 24, 25, 26, 27, 28, 29, 30, 31, 32, 33, 34, 35, 36, 37, 38, 39, 40, 41, 9, 42, 7, 8, 10, 43, 44, 45, 46, 47, 48, 49, 50, 51, 17, 52, 53, 54, 55, 56, 57, 58, 59, 60, 61, 62, 63, 64, 65, 66, 67, 68, 69, 70, 71, 72, 73, 74, 75, 76, 77, 78, 79, 80, 81, 82, 83, 84, 85, 86, 87, 88, 89, 90, 91, 92, 93, 94, 95, 96, 97, 98, 99, 100, 101, 102, 103, 104, 115, 116, 117, 118, 119, 120, 121, 122, 123, 124, 125, 126, 127, 128, 129, 130, 131] (by decide +kernel) (by decide +kernel)
set_option maxRecDepth 20000 in
theorem gX7_year_X6_pass : GoodIn wsX7_year (wsV RX7 256 RX6 yX6_pass wsX6_pass) := goodIn_app (goodIn_of _ (by decide +kernel)) ggX7_year_X6_pass
theorem dX7_year_0 : decode cX7_year 0 = .ok (.iload_n 1, 1) := by decide +kernel
theorem dX7_year_1 : decode cX7_year 1 = .ok (.iconst 0, 1) := by decide +kernel
theorem dX7_year_2 : decode cX7_year 2 = .ok (.getstatic 98, 3) := by decide +kernel
theorem dX7_year_5 : decode cX7_year 5 = .ok (.bipush 6, 2) := by decide +kernel
theorem dX7_year_7 : decode cX7_year 7 = .ok (.invokestatic 94, 3) := by decide +kernel
theorem dX7_year_10 : decode cX7_year 10 = .ok (.invokestatic 64, 3) := by decide +kernel
theorem dX7_year_13 : decode cX7_year 13 = .ok (.ifCond .eq 22, 3) := by decide +kernel
theorem dX7_year_16 : decode cX7_year 16 = .ok (.iload_n 2, 1) := by decide +kernel
theorem dX7_year_17 : decode cX7_year 17 = .ok (.iconst 1, 1) := by decide +kernel
theorem dX7_year_18 : decode cX7_year 18 = .ok (.bipush 99, 2) := by decide +kernel
theorem dX7_year_20 : decode cX7_year 20 = .ok (.invokestatic 64, 3) := by decide +kernel
theorem dX7_year_23 : decode cX7_year 23 = .ok (.ifCond .eq 12, 3) := by decide +kernel
theorem dX7_year_26 : decode cX7_year 26 = .ok (.iload_n 3, 1) := by decide +kernel
theorem dX7_year_27 : decode cX7_year 27 = .ok (.iconst 0, 1) := by decide +kernel
theorem dX7_year_28 : decode cX7_year 28 = .ok (.iconst 2, 1) := by decide +kernel
theorem dX7_year_29 : decode cX7_year 29 = .ok (.invokestatic 64, 3) := by decide +kernel
theorem dX7_year_32 : decode cX7_year 32 = .ok (.ifCond .ne 6, 3) := by decide +kernel
theorem dX7_year_35 : decode cX7_year 35 = .ok (.bipush (-2), 2) := by decide +kernel
theorem dX7_year_37 : decode cX7_year 37 = .ok (.ireturn, 1) := by decide +kernel
theorem dX7_year_38 : decode cX7_year 38 = .ok (.aload_n 0, 1) := by decide +kernel
theorem dX7_year_39 : decode cX7_year 39 = .ok (.getfield 60, 3) := by decide +kernel
theorem dX7_year_42 : decode cX7_year 42 = .ok (.aload_n 0, 1) := by decide +kernel
theorem dX7_year_43 : decode cX7_year 43 = .ok (.getfield 10, 3) := by decide +kernel
theorem dX7_year_46 : decode cX7_year 46 = .ok (.iload_n 1, 1) := by decide +kernel
theorem dX7_year_47 : decode cX7_year 47 = .ok (.iload_n 2, 1) := by decide +kernel
theorem dX7_year_48 : decode cX7_year 48 = .ok (.invokevirtual 256, 3) := by decide +kernel
theorem dX7_year_51 : decode cX7_year 51 = .ok (.iload_n 3, 1) := by decide +kernel
theorem dX7_year_52 : decode cX7_year 52 = .ok (.lookupswitch 44 #[(0, 28), (1, 36)], 28) := by decide +kernel
theorem dX7_year_80 : decode cX7_year 80 = .ok (.aload_n 0, 1) := by decide +kernel
theorem dX7_year_81 : decode cX7_year 81 = .ok (.getfield 60, 3) := by decide +kernel
theorem dX7_year_84 : decode cX7_year 84 = .ok (.getfield 260, 3) := by decide +kernel
theorem dX7_year_87 : decode cX7_year 87 = .ok (.ireturn, 1) := by decide +kernel
theorem dX7_year_88 : decode cX7_year 88 = .ok (.aload_n 0, 1) := by decide +kernel
theorem dX7_year_89 : decode cX7_year 89 = .ok (.getfield 60, 3) := by decide +kernel
theorem dX7_year_92 : decode cX7_year 92 = .ok (.getfield 261, 3) := by decide +kernel
theorem dX7_year_95 : decode cX7_year 95 = .ok (.ireturn, 1) := by decide +kernel
theorem dX7_year_96 : decode cX7_year 96 = .ok (.aload_n 0, 1) := by decide +kernel
theorem dX7_year_97 : decode cX7_year 97 = .ok (.getfield 60, 3) := by decide +kernel
theorem dX7_year_100 : decode cX7_year 100 = .ok (.getfield 262, 3) := by decide +kernel
theorem dX7_year_103 : decode cX7_year 103 = .ok (.ireturn, 1) := by decide +kernel
set_option maxRecDepth 20000 in
theorem ggX7_image_X7_within : GoodIn wsX7_image wsX7_within := goodIn_r _ [9] (by decide +kernel) (by decide +kernel)
set_option maxRecDepth 20000 in
theorem gX7_image_X7_within : GoodIn wsX7_image (va_wsS RX7 64 yX7_within wsX7_within) := goodIn_app (goodIn_of _ (by decide +kernel)) ggX7_image_X7_within
set_option maxRecDepth 20000 in
theorem ggX7_image_X5_copyFrom : GoodIn wsX7_image wsX5_copyFrom := goodIn_r _ [14, 15, 16, 17, 18, 19, 20, 21, 22, 23, 24, 25, 26, 27, 28, 8, 29, 30, 31, 32, 33, 34, 35, 46, 47, 48, 49, 50, 51, 52, 53, 54, 55, 56, 57, 58] (by decide +kernel) (by decide +kernel)
set_option maxRecDepth 20000 in
theorem gX7_image_X5_copyFrom : GoodIn wsX7_image (wsV RX7 149 RX5 yX5_copyFrom wsX5_copyFrom) := goodIn_app (goodIn_of _ (by decide +kernel)) ggX7_image_X5_copyFrom
theorem dX7_image_0 : decode cX7_image 0 = .ok (.iload_n 1, 1) := by decide +kernel
theorem dX7_image_1 : decode cX7_image 1 = .ok (.iconst 0, 1) := by decide +kernel
theorem dX7_image_2 : decode cX7_image 2 = .ok (.iconst 1, 1) := by decide +kernel
theorem dX7_image_3 : decode cX7_image 3 = .ok (.invokestatic 64, 3) := by decide +kernel
theorem dX7_image_6 : decode cX7_image 6 = .ok (.ifCond .ne 6, 3) := by decide +kernel
theorem dX7_image_9 : decode cX7_image 9 = .ok (.bipush (-2), 2) := by decide +kernel
theorem dX7_image_11 : decode cX7_image 11 = .ok (.ireturn, 1) := by decide +kernel
theorem dX7_image_12 : decode cX7_image 12 = .ok (.iload_n 1, 1) := by decide +kernel
theorem dX7_image_13 : decode cX7_image 13 = .ok (.ifCond .ne 22, 3) := by decide +kernel
theorem dX7_image_16 : decode cX7_image 16 = .ok (.aload_n 0, 1) := by decide +kernel
theorem dX7_image_17 : decode cX7_image 17 = .ok (.getfield 16, 3) := by decide +kernel
theorem dX7_image_20 : decode cX7_image 20 = .ok (.aload_n 0, 1) := by decide +kernel
theorem dX7_image_21 : decode cX7_image 21 = .ok (.getfield 10, 3) := by decide +kernel
theorem dX7_image_24 : decode cX7_image 24 = .ok (.invokevirtual 149, 3) := by decide +kernel
theorem dX7_image_27 : decode cX7_image 27 = .ok (.aload_n 0, 1) := by decide +kernel
theorem dX7_image_28 : decode cX7_image 28 = .ok (.iconst 1, 1) := by decide +kernel
theorem dX7_image_29 : decode cX7_image 29 = .ok (.putfield 22, 3) := by decide +kernel
theorem dX7_image_32 : decode cX7_image 32 = .ok (.goto 19, 3) := by decide +kernel
theorem dX7_image_35 : decode cX7_image 35 = .ok (.aload_n 0, 1) := by decide +kernel
theorem dX7_image_36 : decode cX7_image 36 = .ok (.getfield 19, 3) := by decide +kernel
theorem dX7_image_39 : decode cX7_image 39 = .ok (.aload_n 0, 1) := by decide +kernel
theorem dX7_image_40 : decode cX7_image 40 = .ok (.getfield 10, 3) := by decide +kernel
theorem dX7_image_43 : decode cX7_image 43 = .ok (.invokevirtual 149, 3) := by decide +kernel
theorem dX7_image_46 : decode cX7_image 46 = .ok (.aload_n 0, 1) := by decide +kernel
theorem dX7_image_47 : decode cX7_image 47 = .ok (.iconst 1, 1) := by decide +kernel
theorem dX7_image_48 : decode cX7_image 48 = .ok (.putfield 26, 3) := by decide +kernel
theorem dX7_image_51 : decode cX7_image 51 = .ok (.iconst 1, 1) := by decide +kernel
theorem dX7_image_52 : decode cX7_image 52 = .ok (.ireturn, 1) := by decide +kernel
set_option maxRecDepth 20000 in
theorem ggX7_restore_X7_within : GoodIn wsX7_restore wsX7_within := goodIn_r _ [9] (by decide +kernel) (by decide +kernel)
set_option maxRecDepth 20000 in
theorem gX7_restore_X7_within : GoodIn wsX7_restore (va_wsS RX7 64 yX7_within wsX7_within) := goodIn_app (goodIn_of _ (by decide +kernel)) ggX7_restore_X7_within
set_option maxRecDepth 20000 in
theorem ggX7_restore_X5_copyFrom : GoodIn wsX7_restore wsX5_copyFrom := goodIn_r _ [14, 15, 16, 17, 18, 19, 20, 21, 22, 23, 24, 25, 26, 27, 28, 8, 29, 30, 31, 32, 33, 34, 35, 46, 47, 48, 49, 50, 51, 52, 53, 54, 55, 56, 57, 58] (by decide +kernel) (by decide +kernel)
set_option maxRecDepth 20000 in
theorem gX7_restore_X5_copyFrom : GoodIn wsX7_restore (wsV RX7 149 RX5 yX5_copyFrom wsX5_copyFrom) := goodIn_app (goodIn_of _ (by decide +kernel)) ggX7_restore_X5_copyFrom
theorem dX7_restore_0 : decode cX7_restore 0 = .ok (.iload_n 1, 1) := by decide +kernel
theorem dX7_restore_1 : decode cX7_restore 1 = .ok (.iconst 0, 1) := by decide +kernel
theorem dX7_restore_2 : decode cX7_restore 2 = .ok (.iconst 1, 1) := by decide +kernel
theorem dX7_restore_3 : decode cX7_restore 3 = .ok (.invokestatic 64, 3) := by decide +kernel
theorem dX7_restore_6 : decode cX7_restore 6 = .ok (.ifCond .ne 6, 3) := by decide +kernel
theorem dX7_restore_9 : decode cX7_restore 9 = .ok (.bipush (-2), 2) := by decide +kernel
theorem dX7_restore_11 : decode cX7_restore 11 = .ok (.ireturn, 1) := by decide +kernel
theorem dX7_restore_12 : decode cX7_restore 12 = .ok (.iload_n 1, 1) := by decide +kernel
theorem dX7_restore_13 : decode cX7_restore 13 = .ok (.ifCond .ne 13, 3) := by decide +kernel
theorem dX7_restore_16 : decode cX7_restore 16 = .ok (.aload_n 0, 1) := by decide +kernel
theorem dX7_restore_17 : decode cX7_restore 17 = .ok (.getfield 22, 3) := by decide +kernel
theorem dX7_restore_20 : decode cX7_restore 20 = .ok (.ifCond .ne 16, 3) := by decide +kernel
theorem dX7_restore_23 : decode cX7_restore 23 = .ok (.goto 10, 3) := by decide +kernel
theorem dX7_restore_26 : decode cX7_restore 26 = .ok (.aload_n 0, 1) := by decide +kernel
theorem dX7_restore_27 : decode cX7_restore 27 = .ok (.getfield 26, 3) := by decide +kernel
theorem dX7_restore_30 : decode cX7_restore 30 = .ok (.ifCond .ne 6, 3) := by decide +kernel
theorem dX7_restore_33 : decode cX7_restore 33 = .ok (.bipush (-3), 2) := by decide +kernel
theorem dX7_restore_35 : decode cX7_restore 35 = .ok (.ireturn, 1) := by decide +kernel
theorem dX7_restore_36 : decode cX7_restore 36 = .ok (.aload_n 0, 1) := by decide +kernel
theorem dX7_restore_37 : decode cX7_restore 37 = .ok (.getfield 10, 3) := by decide +kernel
theorem dX7_restore_40 : decode cX7_restore 40 = .ok (.iload_n 1, 1) := by decide +kernel
theorem dX7_restore_41 : decode cX7_restore 41 = .ok (.ifCond .ne 10, 3) := by decide +kernel
theorem dX7_restore_44 : decode cX7_restore 44 = .ok (.aload_n 0, 1) := by decide +kernel
theorem dX7_restore_45 : decode cX7_restore 45 = .ok (.getfield 16, 3) := by decide +kernel
theorem dX7_restore_48 : decode cX7_restore 48 = .ok (.goto 7, 3) := by decide +kernel
theorem dX7_restore_51 : decode cX7_restore 51 = .ok (.aload_n 0, 1) := by decide +kernel
theorem dX7_restore_52 : decode cX7_restore 52 = .ok (.getfield 19, 3) := by decide +kernel
theorem dX7_restore_55 : decode cX7_restore 55 = .ok (.invokevirtual 149, 3) := by decide +kernel
theorem dX7_restore_58 : decode cX7_restore 58 = .ok (.iconst 1, 1) := by decide +kernel
theorem dX7_restore_59 : decode cX7_restore 59 = .ok (.ireturn, 1) := by decide +kernel
set_option maxRecDepth 20000 in
theorem ggX7_told_X5_bits : GoodIn wsX7_told wsX5_bits := goodIn_r _ [9, 10, 11, 12, 13, 47, 48, 49, 50, 51, 52, 53, 54, 55, 56, 57, 58, 59] (by decide +kernel) (by decide +kernel)
set_option maxRecDepth 20000 in
theorem gX7_told_X5_bits : GoodIn wsX7_told (wsV RX7 72 RX5 yX5_bits wsX5_bits) := goodIn_app (goodIn_of _ (by decide +kernel)) ggX7_told_X5_bits
set_option maxRecDepth 20000 in
theorem ggX7_told_X7_within : GoodIn wsX7_told wsX7_within := goodIn_r _ [16] (by decide +kernel) (by decide +kernel)
set_option maxRecDepth 20000 in
theorem gX7_told_X7_within : GoodIn wsX7_told (va_wsS RX7 64 yX7_within wsX7_within) := goodIn_app (goodIn_of _ (by decide +kernel)) ggX7_told_X7_within
set_option maxRecDepth 20000 in
theorem ggX7_told_X5_rule : GoodIn wsX7_told wsX5_rule := goodIn_r _ [20, 21, 11, 12, 13, 47, 48, 49, 50, 51, 52, 53, 54, 55, 56, 57, 58, 59] (by decide +kernel) (by decide +kernel)
set_option maxRecDepth 20000 in
theorem gX7_told_X5_rule : GoodIn wsX7_told (wsV RX7 101 RX5 yX5_rule wsX5_rule) := goodIn_app (goodIn_of _ (by decide +kernel)) ggX7_told_X5_rule
set_option maxRecDepth 20000 in
theorem ggX7_told_X7_trait : GoodIn wsX7_told wsX7_trait := goodIn_r _ [25, 3, 26, 27, 28, 29, 30, 31, 32, 8, 33, 10, 11, 12, 13, 34, 35, 36, 37, 38, 39, 40, 41, 42, 43, 44, 47, 48, 49, 50, 51, 52, 53, 54, 55, 56, 57, 58, 59] (by decide +kernel) (by decide +kernel)
set_option maxRecDepth 20000 in
theorem gX7_told_X7_trait : GoodIn wsX7_told (wsV RX7 265 RX7 yX7_trait wsX7_trait) := goodIn_app (goodIn_of _ (by decide +kernel)) ggX7_told_X7_trait
theorem dX7_told_0 : decode cX7_told 0 = .ok (.iload_n 1, 1) := by decide +kernel
theorem dX7_told_1 : decode cX7_told 1 = .ok (.ifCond .ne 11, 3) := by decide +kernel
theorem dX7_told_4 : decode cX7_told 4 = .ok (.aload_n 0, 1) := by decide +kernel
theorem dX7_told_5 : decode cX7_told 5 = .ok (.getfield 32, 3) := by decide +kernel
theorem dX7_told_8 : decode cX7_told 8 = .ok (.getfield 114, 3) := by decide +kernel
theorem dX7_told_11 : decode cX7_told 11 = .ok (.ireturn, 1) := by decide +kernel
theorem dX7_told_12 : decode cX7_told 12 = .ok (.iload_n 1, 1) := by decide +kernel
theorem dX7_told_13 : decode cX7_told 13 = .ok (.iconst 1, 1) := by decide +kernel
theorem dX7_told_14 : decode cX7_told 14 = .ok (.if_icmp .ne 11, 3) := by decide +kernel
theorem dX7_told_17 : decode cX7_told 17 = .ok (.aload_n 0, 1) := by decide +kernel
theorem dX7_told_18 : decode cX7_told 18 = .ok (.getfield 10, 3) := by decide +kernel
theorem dX7_told_21 : decode cX7_told 21 = .ok (.invokevirtual 72, 3) := by decide +kernel
theorem dX7_told_24 : decode cX7_told 24 = .ok (.ireturn, 1) := by decide +kernel
theorem dX7_told_25 : decode cX7_told 25 = .ok (.iload_n 1, 1) := by decide +kernel
theorem dX7_told_26 : decode cX7_told 26 = .ok (.iconst 2, 1) := by decide +kernel
theorem dX7_told_27 : decode cX7_told 27 = .ok (.bipush 8, 2) := by decide +kernel
theorem dX7_told_29 : decode cX7_told 29 = .ok (.invokestatic 64, 3) := by decide +kernel
theorem dX7_told_32 : decode cX7_told 32 = .ok (.ifCond .eq 14, 3) := by decide +kernel
theorem dX7_told_35 : decode cX7_told 35 = .ok (.aload_n 0, 1) := by decide +kernel
theorem dX7_told_36 : decode cX7_told 36 = .ok (.getfield 10, 3) := by decide +kernel
theorem dX7_told_39 : decode cX7_told 39 = .ok (.iload_n 1, 1) := by decide +kernel
theorem dX7_told_40 : decode cX7_told 40 = .ok (.iconst 2, 1) := by decide +kernel
theorem dX7_told_41 : decode cX7_told 41 = .ok (.isub, 1) := by decide +kernel
theorem dX7_told_42 : decode cX7_told 42 = .ok (.invokevirtual 101, 3) := by decide +kernel
theorem dX7_told_45 : decode cX7_told 45 = .ok (.ireturn, 1) := by decide +kernel
theorem dX7_told_46 : decode cX7_told 46 = .ok (.iload_n 1, 1) := by decide +kernel
theorem dX7_told_47 : decode cX7_told 47 = .ok (.bipush 9, 2) := by decide +kernel
theorem dX7_told_49 : decode cX7_told 49 = .ok (.if_icmp .ne 11, 3) := by decide +kernel
theorem dX7_told_52 : decode cX7_told 52 = .ok (.aload_n 0, 1) := by decide +kernel
theorem dX7_told_53 : decode cX7_told 53 = .ok (.getfield 10, 3) := by decide +kernel
theorem dX7_told_56 : decode cX7_told 56 = .ok (.getfield 250, 3) := by decide +kernel
theorem dX7_told_59 : decode cX7_told 59 = .ok (.ireturn, 1) := by decide +kernel
theorem dX7_told_60 : decode cX7_told 60 = .ok (.iload_n 1, 1) := by decide +kernel
theorem dX7_told_61 : decode cX7_told 61 = .ok (.bipush 10, 2) := by decide +kernel
theorem dX7_told_63 : decode cX7_told 63 = .ok (.if_icmp .ge 8, 3) := by decide +kernel
theorem dX7_told_66 : decode cX7_told 66 = .ok (.bipush (-2), 2) := by decide +kernel
theorem dX7_told_68 : decode cX7_told 68 = .ok (.goto 17, 3) := by decide +kernel
theorem dX7_told_71 : decode cX7_told 71 = .ok (.aload_n 0, 1) := by decide +kernel
theorem dX7_told_72 : decode cX7_told 72 = .ok (.iload_n 1, 1) := by decide +kernel
theorem dX7_told_73 : decode cX7_told 73 = .ok (.bipush 10, 2) := by decide +kernel
theorem dX7_told_75 : decode cX7_told 75 = .ok (.idiv, 1) := by decide +kernel
theorem dX7_told_76 : decode cX7_told 76 = .ok (.iconst 1, 1) := by decide +kernel
theorem dX7_told_77 : decode cX7_told 77 = .ok (.isub, 1) := by decide +kernel
theorem dX7_told_78 : decode cX7_told 78 = .ok (.iload_n 1, 1) := by decide +kernel
theorem dX7_told_79 : decode cX7_told 79 = .ok (.bipush 10, 2) := by decide +kernel
theorem dX7_told_81 : decode cX7_told 81 = .ok (.irem, 1) := by decide +kernel
theorem dX7_told_82 : decode cX7_told 82 = .ok (.invokevirtual 265, 3) := by decide +kernel
theorem dX7_told_85 : decode cX7_told 85 = .ok (.ireturn, 1) := by decide +kernel
set_option maxRecDepth 20000 in
theorem ggX7_trait_X5_isThere : GoodIn wsX7_trait wsX5_isThere := goodIn_r _ [10, 11, 12, 13, 14, 26, 27, 28, 29, 30, 31, 32, 33, 34, 35, 36, 37, 38] (by decide +kernel) (by decide +kernel)
set_option maxRecDepth 20000 in
theorem gX7_trait_X5_isThere : GoodIn wsX7_trait (wsV RX7 82 RX5 yX5_isThere wsX5_isThere) := goodIn_app (goodIn_of _ (by decide +kernel)) ggX7_trait_X5_isThere
set_option maxRecDepth 20000 in
theorem ggX7_trait_X7_at : GoodIn wsX7_trait wsX7_at := goodIn_r _ [14] (by decide +kernel) (by decide +kernel)
set_option maxRecDepth 20000 in
theorem gX7_trait_X7_at : GoodIn wsX7_trait (va_wsS RX7 94 yX7_at wsX7_at) := goodIn_app (goodIn_of _ (by decide +kernel)) ggX7_trait_X7_at
theorem dX7_trait_0 : decode cX7_trait 0 = .ok (.aload_n 0, 1) := by decide +kernel
theorem dX7_trait_1 : decode cX7_trait 1 = .ok (.getfield 10, 3) := by decide +kernel
theorem dX7_trait_4 : decode cX7_trait 4 = .ok (.iload_n 1, 1) := by decide +kernel
theorem dX7_trait_5 : decode cX7_trait 5 = .ok (.invokevirtual 82, 3) := by decide +kernel
theorem dX7_trait_8 : decode cX7_trait 8 = .ok (.ifCond .ne 6, 3) := by decide +kernel
theorem dX7_trait_11 : decode cX7_trait 11 = .ok (.bipush (-2), 2) := by decide +kernel
theorem dX7_trait_13 : decode cX7_trait 13 = .ok (.ireturn, 1) := by decide +kernel
theorem dX7_trait_14 : decode cX7_trait 14 = .ok (.iload_n 2, 1) := by decide +kernel
theorem dX7_trait_15 : decode cX7_trait 15 = .ok (.tableswitch 77 0 3 #[29, 41, 53, 65], 29) := by decide +kernel
theorem dX7_trait_44 : decode cX7_trait 44 = .ok (.aload_n 0, 1) := by decide +kernel
theorem dX7_trait_45 : decode cX7_trait 45 = .ok (.getfield 10, 3) := by decide +kernel
theorem dX7_trait_48 : decode cX7_trait 48 = .ok (.getfield 268, 3) := by decide +kernel
theorem dX7_trait_51 : decode cX7_trait 51 = .ok (.iload_n 1, 1) := by decide +kernel
theorem dX7_trait_52 : decode cX7_trait 52 = .ok (.invokestatic 94, 3) := by decide +kernel
theorem dX7_trait_55 : decode cX7_trait 55 = .ok (.ireturn, 1) := by decide +kernel
theorem dX7_trait_56 : decode cX7_trait 56 = .ok (.aload_n 0, 1) := by decide +kernel
theorem dX7_trait_57 : decode cX7_trait 57 = .ok (.getfield 10, 3) := by decide +kernel
theorem dX7_trait_60 : decode cX7_trait 60 = .ok (.getfield 271, 3) := by decide +kernel
theorem dX7_trait_63 : decode cX7_trait 63 = .ok (.iload_n 1, 1) := by decide +kernel
theorem dX7_trait_64 : decode cX7_trait 64 = .ok (.invokestatic 94, 3) := by decide +kernel
theorem dX7_trait_67 : decode cX7_trait 67 = .ok (.ireturn, 1) := by decide +kernel
theorem dX7_trait_68 : decode cX7_trait 68 = .ok (.aload_n 0, 1) := by decide +kernel
theorem dX7_trait_69 : decode cX7_trait 69 = .ok (.getfield 10, 3) := by decide +kernel
theorem dX7_trait_72 : decode cX7_trait 72 = .ok (.getfield 274, 3) := by decide +kernel
theorem dX7_trait_75 : decode cX7_trait 75 = .ok (.iload_n 1, 1) := by decide +kernel
theorem dX7_trait_76 : decode cX7_trait 76 = .ok (.invokestatic 94, 3) := by decide +kernel
theorem dX7_trait_79 : decode cX7_trait 79 = .ok (.ireturn, 1) := by decide +kernel
theorem dX7_trait_80 : decode cX7_trait 80 = .ok (.aload_n 0, 1) := by decide +kernel
theorem dX7_trait_81 : decode cX7_trait 81 = .ok (.getfield 10, 3) := by decide +kernel
theorem dX7_trait_84 : decode cX7_trait 84 = .ok (.getfield 277, 3) := by decide +kernel
theorem dX7_trait_87 : decode cX7_trait 87 = .ok (.iload_n 1, 1) := by decide +kernel
theorem dX7_trait_88 : decode cX7_trait 88 = .ok (.invokestatic 94, 3) := by decide +kernel
theorem dX7_trait_91 : decode cX7_trait 91 = .ok (.ireturn, 1) := by decide +kernel
theorem dX7_trait_92 : decode cX7_trait 92 = .ok (.bipush (-2), 2) := by decide +kernel
theorem dX7_trait_94 : decode cX7_trait 94 = .ok (.ireturn, 1) := by decide +kernel
set_option maxRecDepth 20000 in
theorem ggX7_playSummer_X3_faultAt : GoodIn wsX7_playSummer wsX3_faultAt := goodIn_r _ [9, 10, 11, 12, 13, 14, 15, 16, 8, 17, 18, 19, 20, 21, 22, 141, 142] (by decide +kernel) (by decide +kernel)
set_option maxRecDepth 20000 in
theorem gX7_playSummer_X3_faultAt : GoodIn wsX7_playSummer (wsV RX7 121 RX3 yX3_faultAt wsX3_faultAt) := goodIn_app (goodIn_of _ (by decide +kernel)) ggX7_playSummer_X3_faultAt
set_option maxRecDepth 20000 in
theorem ggX7_playSummer_X4_play : GoodIn wsX7_playSummer wsX4_play := goodIn_r _ [27, 28, 29, 30, 31, 32, 33, 34, 35, 26, 36, 37, 38, 39, 40, 41, 42, 43, 44, 45, 46, 47, 48, 49, 50, 51, 52, 53, 54, 55, 56, 57, 58, 59, 60, 61, 13, 62, 63, 12, 14, 64, 65, 66, 67, 68, 69, 70, 71, 72, 73, 74, 75, 76, 77, 78, 79, 80, 81, 82, 83, 84, 85, 86, 87, 88, 89, 90, 91, 92, 93, 94, 95, 96, 97, 98, 99, 100, 101, 102, 103, 104, 105, 106, 107, 108, 109, 110, 111, 112, 113, 114, 115, 116, 117, 118, 119, 120, 121, 141, 142, 132, 133, 134, 135, 136, 137, 138, 139, 140, 143, 144, 145, 146, 147, 148, 149, 150, 151, 152, 153, 154, 155, 156, 157] (by decide +kernel) (by decide +kernel)
set_option maxRecDepth 20000 in
theorem gX7_playSummer_X4_play : GoodIn wsX7_playSummer (wsV RX7 280 RX4 yX4_play wsX4_play) := goodIn_app (goodIn_of _ (by decide +kernel)) ggX7_playSummer_X4_play
theorem dX7_playSummer_0 : decode cX7_playSummer 0 = .ok (.aload_n 0, 1) := by decide +kernel
theorem dX7_playSummer_1 : decode cX7_playSummer 1 = .ok (.getfield 32, 3) := by decide +kernel
theorem dX7_playSummer_4 : decode cX7_playSummer 4 = .ok (.invokevirtual 121, 3) := by decide +kernel
theorem dX7_playSummer_7 : decode cX7_playSummer 7 = .ok (.bipush (-6), 2) := by decide +kernel
theorem dX7_playSummer_9 : decode cX7_playSummer 9 = .ok (.if_icmp .eq 6, 3) := by decide +kernel
theorem dX7_playSummer_12 : decode cX7_playSummer 12 = .ok (.bipush (-5), 2) := by decide +kernel
theorem dX7_playSummer_14 : decode cX7_playSummer 14 = .ok (.ireturn, 1) := by decide +kernel
theorem dX7_playSummer_15 : decode cX7_playSummer 15 = .ok (.aload_n 0, 1) := by decide +kernel
theorem dX7_playSummer_16 : decode cX7_playSummer 16 = .ok (.getfield 39, 3) := by decide +kernel
theorem dX7_playSummer_19 : decode cX7_playSummer 19 = .ok (.aload_n 0, 1) := by decide +kernel
theorem dX7_playSummer_20 : decode cX7_playSummer 20 = .ok (.getfield 32, 3) := by decide +kernel
theorem dX7_playSummer_23 : decode cX7_playSummer 23 = .ok (.aload_n 0, 1) := by decide +kernel
theorem dX7_playSummer_24 : decode cX7_playSummer 24 = .ok (.getfield 10, 3) := by decide +kernel
theorem dX7_playSummer_27 : decode cX7_playSummer 27 = .ok (.invokevirtual 280, 3) := by decide +kernel
theorem dX7_playSummer_30 : decode cX7_playSummer 30 = .ok (.aload_n 0, 1) := by decide +kernel
theorem dX7_playSummer_31 : decode cX7_playSummer 31 = .ok (.getfield 39, 3) := by decide +kernel
theorem dX7_playSummer_34 : decode cX7_playSummer 34 = .ok (.getfield 130, 3) := by decide +kernel
theorem dX7_playSummer_37 : decode cX7_playSummer 37 = .ok (.ifCond .eq 8, 3) := by decide +kernel
theorem dX7_playSummer_40 : decode cX7_playSummer 40 = .ok (.bipush (-3), 2) := by decide +kernel
theorem dX7_playSummer_42 : decode cX7_playSummer 42 = .ok (.goto 4, 3) := by decide +kernel
theorem dX7_playSummer_45 : decode cX7_playSummer 45 = .ok (.iconst 0, 1) := by decide +kernel
theorem dX7_playSummer_46 : decode cX7_playSummer 46 = .ok (.ireturn, 1) := by decide +kernel
set_option maxRecDepth 20000 in
theorem ggX7_refusalOfHeight_X5_isThere : GoodIn wsX7_refusalOfHeight wsX5_isThere := goodIn_r _ [6, 7, 8, 9, 10, 24, 25, 26, 27, 28, 29, 30, 31, 32, 33, 34, 35, 36] (by decide +kernel) (by decide +kernel)
set_option maxRecDepth 20000 in
theorem gX7_refusalOfHeight_X5_isThere : GoodIn wsX7_refusalOfHeight (wsV RX7 82 RX5 yX5_isThere wsX5_isThere) := goodIn_app (goodIn_of _ (by decide +kernel)) ggX7_refusalOfHeight_X5_isThere
set_option maxRecDepth 20000 in
theorem ggX7_refusalOfHeight_X7_within : GoodIn wsX7_refusalOfHeight wsX7_within := goodIn_r _ [13] (by decide +kernel) (by decide +kernel)
set_option maxRecDepth 20000 in
theorem gX7_refusalOfHeight_X7_within : GoodIn wsX7_refusalOfHeight (va_wsS RX7 64 yX7_within wsX7_within) := goodIn_app (goodIn_of _ (by decide +kernel)) ggX7_refusalOfHeight_X7_within
theorem dX7_refusalOfHeight_0 : decode cX7_refusalOfHeight 0 = .ok (.aload_n 0, 1) := by decide +kernel
theorem dX7_refusalOfHeight_1 : decode cX7_refusalOfHeight 1 = .ok (.getfield 10, 3) := by decide +kernel
theorem dX7_refusalOfHeight_4 : decode cX7_refusalOfHeight 4 = .ok (.iload_n 1, 1) := by decide +kernel
theorem dX7_refusalOfHeight_5 : decode cX7_refusalOfHeight 5 = .ok (.invokevirtual 82, 3) := by decide +kernel
theorem dX7_refusalOfHeight_8 : decode cX7_refusalOfHeight 8 = .ok (.ifCond .ne 5, 3) := by decide +kernel
theorem dX7_refusalOfHeight_11 : decode cX7_refusalOfHeight 11 = .ok (.iconst (-1), 1) := by decide +kernel
theorem dX7_refusalOfHeight_12 : decode cX7_refusalOfHeight 12 = .ok (.ireturn, 1) := by decide +kernel
theorem dX7_refusalOfHeight_13 : decode cX7_refusalOfHeight 13 = .ok (.iload_n 2, 1) := by decide +kernel
theorem dX7_refusalOfHeight_14 : decode cX7_refusalOfHeight 14 = .ok (.iconst 1, 1) := by decide +kernel
theorem dX7_refusalOfHeight_15 : decode cX7_refusalOfHeight 15 = .ok (.bipush 15, 2) := by decide +kernel
theorem dX7_refusalOfHeight_17 : decode cX7_refusalOfHeight 17 = .ok (.invokestatic 64, 3) := by decide +kernel
theorem dX7_refusalOfHeight_20 : decode cX7_refusalOfHeight 20 = .ok (.ifCond .eq 7, 3) := by decide +kernel
theorem dX7_refusalOfHeight_23 : decode cX7_refusalOfHeight 23 = .ok (.iconst 0, 1) := by decide +kernel
theorem dX7_refusalOfHeight_24 : decode cX7_refusalOfHeight 24 = .ok (.goto 5, 3) := by decide +kernel
theorem dX7_refusalOfHeight_27 : decode cX7_refusalOfHeight 27 = .ok (.bipush (-2), 2) := by decide +kernel
theorem dX7_refusalOfHeight_29 : decode cX7_refusalOfHeight 29 = .ok (.ireturn, 1) := by decide +kernel
set_option maxRecDepth 20000 in
theorem ggX7_refusalOfClimb_X5_isThere : GoodIn wsX7_refusalOfClimb wsX5_isThere := goodIn_r _ [6, 7, 8, 9, 10, 24, 25, 26, 27, 28, 29, 30, 31, 32, 33, 34, 35, 36] (by decide +kernel) (by decide +kernel)
set_option maxRecDepth 20000 in
theorem gX7_refusalOfClimb_X5_isThere : GoodIn wsX7_refusalOfClimb (wsV RX7 82 RX5 yX5_isThere wsX5_isThere) := goodIn_app (goodIn_of _ (by decide +kernel)) ggX7_refusalOfClimb_X5_isThere
set_option maxRecDepth 20000 in
theorem ggX7_refusalOfClimb_X7_within : GoodIn wsX7_refusalOfClimb wsX7_within := goodIn_r _ [13] (by decide +kernel) (by decide +kernel)
set_option maxRecDepth 20000 in
theorem gX7_refusalOfClimb_X7_within : GoodIn wsX7_refusalOfClimb (va_wsS RX7 64 yX7_within wsX7_within) := goodIn_app (goodIn_of _ (by decide +kernel)) ggX7_refusalOfClimb_X7_within
theorem dX7_refusalOfClimb_0 : decode cX7_refusalOfClimb 0 = .ok (.aload_n 0, 1) := by decide +kernel
theorem dX7_refusalOfClimb_1 : decode cX7_refusalOfClimb 1 = .ok (.getfield 10, 3) := by decide +kernel
theorem dX7_refusalOfClimb_4 : decode cX7_refusalOfClimb 4 = .ok (.iload_n 1, 1) := by decide +kernel
theorem dX7_refusalOfClimb_5 : decode cX7_refusalOfClimb 5 = .ok (.invokevirtual 82, 3) := by decide +kernel
theorem dX7_refusalOfClimb_8 : decode cX7_refusalOfClimb 8 = .ok (.ifCond .eq 19, 3) := by decide +kernel
theorem dX7_refusalOfClimb_11 : decode cX7_refusalOfClimb 11 = .ok (.aload_n 0, 1) := by decide +kernel
theorem dX7_refusalOfClimb_12 : decode cX7_refusalOfClimb 12 = .ok (.getfield 10, 3) := by decide +kernel
theorem dX7_refusalOfClimb_15 : decode cX7_refusalOfClimb 15 = .ok (.iload_n 2, 1) := by decide +kernel
theorem dX7_refusalOfClimb_16 : decode cX7_refusalOfClimb 16 = .ok (.invokevirtual 82, 3) := by decide +kernel
theorem dX7_refusalOfClimb_19 : decode cX7_refusalOfClimb 19 = .ok (.ifCond .eq 8, 3) := by decide +kernel
theorem dX7_refusalOfClimb_22 : decode cX7_refusalOfClimb 22 = .ok (.iload_n 1, 1) := by decide +kernel
theorem dX7_refusalOfClimb_23 : decode cX7_refusalOfClimb 23 = .ok (.iload_n 2, 1) := by decide +kernel
theorem dX7_refusalOfClimb_24 : decode cX7_refusalOfClimb 24 = .ok (.if_icmp .ne 5, 3) := by decide +kernel
theorem dX7_refusalOfClimb_27 : decode cX7_refusalOfClimb 27 = .ok (.iconst (-1), 1) := by decide +kernel
theorem dX7_refusalOfClimb_28 : decode cX7_refusalOfClimb 28 = .ok (.ireturn, 1) := by decide +kernel
theorem dX7_refusalOfClimb_29 : decode cX7_refusalOfClimb 29 = .ok (.iload 4, 2) := by decide +kernel
theorem dX7_refusalOfClimb_31 : decode cX7_refusalOfClimb 31 = .ok (.iconst 1, 1) := by decide +kernel
theorem dX7_refusalOfClimb_32 : decode cX7_refusalOfClimb 32 = .ok (.bipush 15, 2) := by decide +kernel
theorem dX7_refusalOfClimb_34 : decode cX7_refusalOfClimb 34 = .ok (.invokestatic 64, 3) := by decide +kernel
theorem dX7_refusalOfClimb_37 : decode cX7_refusalOfClimb 37 = .ok (.ifCond .eq 17, 3) := by decide +kernel
theorem dX7_refusalOfClimb_40 : decode cX7_refusalOfClimb 40 = .ok (.iload_n 3, 1) := by decide +kernel
theorem dX7_refusalOfClimb_41 : decode cX7_refusalOfClimb 41 = .ok (.iconst 1, 1) := by decide +kernel
theorem dX7_refusalOfClimb_42 : decode cX7_refusalOfClimb 42 = .ok (.iload 4, 2) := by decide +kernel
theorem dX7_refusalOfClimb_44 : decode cX7_refusalOfClimb 44 = .ok (.invokestatic 64, 3) := by decide +kernel
theorem dX7_refusalOfClimb_47 : decode cX7_refusalOfClimb 47 = .ok (.ifCond .eq 7, 3) := by decide +kernel
theorem dX7_refusalOfClimb_50 : decode cX7_refusalOfClimb 50 = .ok (.iconst 0, 1) := by decide +kernel
theorem dX7_refusalOfClimb_51 : decode cX7_refusalOfClimb 51 = .ok (.goto 5, 3) := by decide +kernel
theorem dX7_refusalOfClimb_54 : decode cX7_refusalOfClimb 54 = .ok (.bipush (-2), 2) := by decide +kernel
theorem dX7_refusalOfClimb_56 : decode cX7_refusalOfClimb 56 = .ok (.ireturn, 1) := by decide +kernel
theorem dX7_within_0 : decode cX7_within 0 = .ok (.iload_n 0, 1) := by decide +kernel
theorem dX7_within_1 : decode cX7_within 1 = .ok (.iload_n 1, 1) := by decide +kernel
theorem dX7_within_2 : decode cX7_within 2 = .ok (.if_icmp .lt 12, 3) := by decide +kernel
theorem dX7_within_5 : decode cX7_within 5 = .ok (.iload_n 0, 1) := by decide +kernel
theorem dX7_within_6 : decode cX7_within 6 = .ok (.iload_n 2, 1) := by decide +kernel
theorem dX7_within_7 : decode cX7_within 7 = .ok (.if_icmp .gt 7, 3) := by decide +kernel
theorem dX7_within_10 : decode cX7_within 10 = .ok (.iconst 1, 1) := by decide +kernel
theorem dX7_within_11 : decode cX7_within 11 = .ok (.goto 4, 3) := by decide +kernel
theorem dX7_within_14 : decode cX7_within 14 = .ok (.iconst 0, 1) := by decide +kernel
theorem dX7_within_15 : decode cX7_within 15 = .ok (.ireturn, 1) := by decide +kernel
theorem dX7_at_0 : decode cX7_at 0 = .ok (.aload_n 0, 1) := by decide +kernel
theorem dX7_at_1 : decode cX7_at 1 = .ok (.ifnull 19, 3) := by decide +kernel
theorem dX7_at_4 : decode cX7_at 4 = .ok (.iload_n 1, 1) := by decide +kernel
theorem dX7_at_5 : decode cX7_at 5 = .ok (.ifCond .lt 15, 3) := by decide +kernel
theorem dX7_at_8 : decode cX7_at 8 = .ok (.iload_n 1, 1) := by decide +kernel
theorem dX7_at_9 : decode cX7_at 9 = .ok (.aload_n 0, 1) := by decide +kernel
theorem dX7_at_10 : decode cX7_at 10 = .ok (.arraylength, 1) := by decide +kernel
theorem dX7_at_11 : decode cX7_at 11 = .ok (.if_icmp .ge 9, 3) := by decide +kernel
theorem dX7_at_14 : decode cX7_at 14 = .ok (.aload_n 0, 1) := by decide +kernel
theorem dX7_at_15 : decode cX7_at 15 = .ok (.iload_n 1, 1) := by decide +kernel
theorem dX7_at_16 : decode cX7_at 16 = .ok (.iaload, 1) := by decide +kernel
theorem dX7_at_17 : decode cX7_at 17 = .ok (.goto 4, 3) := by decide +kernel
theorem dX7_at_20 : decode cX7_at 20 = .ok (.iconst 0, 1) := by decide +kernel
theorem dX7_at_21 : decode cX7_at 21 = .ok (.ireturn, 1) := by decide +kernel
theorem dX7_put_0 : decode cX7_put 0 = .ok (.aload_n 0, 1) := by decide +kernel
theorem dX7_put_1 : decode cX7_put 1 = .ok (.ifnull 17, 3) := by decide +kernel
theorem dX7_put_4 : decode cX7_put 4 = .ok (.iload_n 1, 1) := by decide +kernel
theorem dX7_put_5 : decode cX7_put 5 = .ok (.ifCond .lt 13, 3) := by decide +kernel
theorem dX7_put_8 : decode cX7_put 8 = .ok (.iload_n 1, 1) := by decide +kernel
theorem dX7_put_9 : decode cX7_put 9 = .ok (.aload_n 0, 1) := by decide +kernel
theorem dX7_put_10 : decode cX7_put 10 = .ok (.arraylength, 1) := by decide +kernel
theorem dX7_put_11 : decode cX7_put 11 = .ok (.if_icmp .ge 7, 3) := by decide +kernel
theorem dX7_put_14 : decode cX7_put 14 = .ok (.aload_n 0, 1) := by decide +kernel
theorem dX7_put_15 : decode cX7_put 15 = .ok (.iload_n 1, 1) := by decide +kernel
theorem dX7_put_16 : decode cX7_put 16 = .ok (.iload_n 2, 1) := by decide +kernel
theorem dX7_put_17 : decode cX7_put 17 = .ok (.iastore, 1) := by decide +kernel
theorem dX7_put_18 : decode cX7_put 18 = .ok (.return_, 1) := by decide +kernel
set_option maxRecDepth 20000 in
theorem ggX7_copyRow_X7_at : GoodIn wsX7_copyRow wsX7_at := goodIn_r _ [4] (by decide +kernel) (by decide +kernel)
set_option maxRecDepth 20000 in
theorem gX7_copyRow_X7_at : GoodIn wsX7_copyRow (va_wsS RX7 94 yX7_at wsX7_at) := goodIn_app (goodIn_of _ (by decide +kernel)) ggX7_copyRow_X7_at
set_option maxRecDepth 20000 in
theorem ggX7_copyRow_X7_put : GoodIn wsX7_copyRow wsX7_put := goodIn_r _ [7] (by decide +kernel) (by decide +kernel)
set_option maxRecDepth 20000 in
theorem gX7_copyRow_X7_put : GoodIn wsX7_copyRow (va_wsS RX7 107 yX7_put wsX7_put) := goodIn_app (goodIn_of _ (by decide +kernel)) ggX7_copyRow_X7_put
theorem dX7_copyRow_0 : decode cX7_copyRow 0 = .ok (.iconst 0, 1) := by decide +kernel
theorem dX7_copyRow_1 : decode cX7_copyRow 1 = .ok (.istore_n 2, 1) := by decide +kernel
theorem dX7_copyRow_2 : decode cX7_copyRow 2 = .ok (.aload_n 1, 1) := by decide +kernel
theorem dX7_copyRow_3 : decode cX7_copyRow 3 = .ok (.ifnull 25, 3) := by decide +kernel
theorem dX7_copyRow_6 : decode cX7_copyRow 6 = .ok (.iload_n 2, 1) := by decide +kernel
theorem dX7_copyRow_7 : decode cX7_copyRow 7 = .ok (.aload_n 1, 1) := by decide +kernel
theorem dX7_copyRow_8 : decode cX7_copyRow 8 = .ok (.arraylength, 1) := by decide +kernel
theorem dX7_copyRow_9 : decode cX7_copyRow 9 = .ok (.if_icmp .ge 19, 3) := by decide +kernel
theorem dX7_copyRow_12 : decode cX7_copyRow 12 = .ok (.aload_n 1, 1) := by decide +kernel
theorem dX7_copyRow_13 : decode cX7_copyRow 13 = .ok (.iload_n 2, 1) := by decide +kernel
theorem dX7_copyRow_14 : decode cX7_copyRow 14 = .ok (.aload_n 0, 1) := by decide +kernel
theorem dX7_copyRow_15 : decode cX7_copyRow 15 = .ok (.iload_n 2, 1) := by decide +kernel
theorem dX7_copyRow_16 : decode cX7_copyRow 16 = .ok (.invokestatic 94, 3) := by decide +kernel
theorem dX7_copyRow_19 : decode cX7_copyRow 19 = .ok (.invokestatic 107, 3) := by decide +kernel
theorem dX7_copyRow_22 : decode cX7_copyRow 22 = .ok (.iinc 2 1, 3) := by decide +kernel
theorem dX7_copyRow_25 : decode cX7_copyRow 25 = .ok (.goto (-23), 3) := by decide +kernel
theorem dX7_copyRow_28 : decode cX7_copyRow 28 = .ok (.return_, 1) := by decide +kernel
theorem dX7_drawAfter_0 : decode cX7_drawAfter 0 = .ok (.bipush 75, 2) := by decide +kernel
theorem dX7_drawAfter_2 : decode cX7_drawAfter 2 = .ok (.iload_n 0, 1) := by decide +kernel
theorem dX7_drawAfter_3 : decode cX7_drawAfter 3 = .ok (.imul, 1) := by decide +kernel
theorem dX7_drawAfter_4 : decode cX7_drawAfter 4 = .ok (.bipush 74, 2) := by decide +kernel
theorem dX7_drawAfter_6 : decode cX7_drawAfter 6 = .ok (.iadd, 1) := by decide +kernel
theorem dX7_drawAfter_7 : decode cX7_drawAfter 7 = .ok (.ldc_w 284, 3) := by decide +kernel
theorem dX7_drawAfter_10 : decode cX7_drawAfter 10 = .ok (.irem, 1) := by decide +kernel
theorem dX7_drawAfter_11 : decode cX7_drawAfter 11 = .ok (.ireturn, 1) := by decide +kernel
end
section
theorem dX8_init_0 : decode cX8_init 0 = .ok (.aload_n 0, 1) := by decide +kernel
theorem dX8_init_1 : decode cX8_init 1 = .ok (.invokespecial 1, 3) := by decide +kernel
theorem dX8_init_4 : decode cX8_init 4 = .ok (.aload_n 0, 1) := by decide +kernel
theorem dX8_init_5 : decode cX8_init 5 = .ok (.bipush 6, 2) := by decide +kernel
theorem dX8_init_7 : decode cX8_init 7 = .ok (.newarray .int, 2) := by decide +kernel
theorem dX8_init_9 : decode cX8_init 9 = .ok (.putfield 7, 3) := by decide +kernel
theorem dX8_init_12 : decode cX8_init 12 = .ok (.aload_n 0, 1) := by decide +kernel
theorem dX8_init_13 : decode cX8_init 13 = .ok (.bipush 6, 2) := by decide +kernel
theorem dX8_init_15 : decode cX8_init 15 = .ok (.newarray .int, 2) := by decide +kernel
theorem dX8_init_17 : decode cX8_init 17 = .ok (.putfield 13, 3) := by decide +kernel
theorem dX8_init_20 : decode cX8_init 20 = .ok (.aload_n 0, 1) := by decide +kernel
theorem dX8_init_21 : decode cX8_init 21 = .ok (.bipush 6, 2) := by decide +kernel
theorem dX8_init_23 : decode cX8_init 23 = .ok (.newarray .int, 2) := by decide +kernel
theorem dX8_init_25 : decode cX8_init 25 = .ok (.putfield 16, 3) := by decide +kernel
theorem dX8_init_28 : decode cX8_init 28 = .ok (.aload_n 0, 1) := by decide +kernel
theorem dX8_init_29 : decode cX8_init 29 = .ok (.bipush 6, 2) := by decide +kernel
theorem dX8_init_31 : decode cX8_init 31 = .ok (.newarray .int, 2) := by decide +kernel
theorem dX8_init_33 : decode cX8_init 33 = .ok (.putfield 19, 3) := by decide +kernel
theorem dX8_init_36 : decode cX8_init 36 = .ok (.aload_n 0, 1) := by decide +kernel
theorem dX8_init_37 : decode cX8_init 37 = .ok (.bipush 6, 2) := by decide +kernel
theorem dX8_init_39 : decode cX8_init 39 = .ok (.newarray .int, 2) := by decide +kernel
theorem dX8_init_41 : decode cX8_init 41 = .ok (.putfield 22, 3) := by decide +kernel
theorem dX8_init_44 : decode cX8_init 44 = .ok (.aload_n 0, 1) := by decide +kernel
theorem dX8_init_45 : decode cX8_init 45 = .ok (.bipush 6, 2) := by decide +kernel
theorem dX8_init_47 : decode cX8_init 47 = .ok (.newarray .int, 2) := by decide +kernel
theorem dX8_init_49 : decode cX8_init 49 = .ok (.putfield 25, 3) := by decide +kernel
theorem dX8_init_52 : decode cX8_init 52 = .ok (.aload_n 0, 1) := by decide +kernel
theorem dX8_init_53 : decode cX8_init 53 = .ok (.bipush 6, 2) := by decide +kernel
theorem dX8_init_55 : decode cX8_init 55 = .ok (.newarray .int, 2) := by decide +kernel
theorem dX8_init_57 : decode cX8_init 57 = .ok (.putfield 28, 3) := by decide +kernel
theorem dX8_init_60 : decode cX8_init 60 = .ok (.aload_n 0, 1) := by decide +kernel
theorem dX8_init_61 : decode cX8_init 61 = .ok (.bipush 6, 2) := by decide +kernel
theorem dX8_init_63 : decode cX8_init 63 = .ok (.newarray .int, 2) := by decide +kernel
theorem dX8_init_65 : decode cX8_init 65 = .ok (.putfield 31, 3) := by decide +kernel
theorem dX8_init_68 : decode cX8_init 68 = .ok (.aload_n 0, 1) := by decide +kernel
theorem dX8_init_69 : decode cX8_init 69 = .ok (.bipush 6, 2) := by decide +kernel
theorem dX8_init_71 : decode cX8_init 71 = .ok (.newarray .int, 2) := by decide +kernel
theorem dX8_init_73 : decode cX8_init 73 = .ok (.putfield 34, 3) := by decide +kernel
theorem dX8_init_76 : decode cX8_init 76 = .ok (.aload_n 0, 1) := by decide +kernel
theorem dX8_init_77 : decode cX8_init 77 = .ok (.bipush 6, 2) := by decide +kernel
theorem dX8_init_79 : decode cX8_init 79 = .ok (.newarray .int, 2) := by decide +kernel
theorem dX8_init_81 : decode cX8_init 81 = .ok (.putfield 37, 3) := by decide +kernel
theorem dX8_init_84 : decode cX8_init 84 = .ok (.aload_n 0, 1) := by decide +kernel
theorem dX8_init_85 : decode cX8_init 85 = .ok (.bipush 60, 2) := by decide +kernel
theorem dX8_init_87 : decode cX8_init 87 = .ok (.newarray .int, 2) := by decide +kernel
theorem dX8_init_89 : decode cX8_init 89 = .ok (.putfield 40, 3) := by decide +kernel
theorem dX8_init_92 : decode cX8_init 92 = .ok (.aload_n 0, 1) := by decide +kernel
theorem dX8_init_93 : decode cX8_init 93 = .ok (.bipush 60, 2) := by decide +kernel
theorem dX8_init_95 : decode cX8_init 95 = .ok (.newarray .int, 2) := by decide +kernel
theorem dX8_init_97 : decode cX8_init 97 = .ok (.putfield 43, 3) := by decide +kernel
theorem dX8_init_100 : decode cX8_init 100 = .ok (.aload_n 0, 1) := by decide +kernel
theorem dX8_init_101 : decode cX8_init 101 = .ok (.bipush 60, 2) := by decide +kernel
theorem dX8_init_103 : decode cX8_init 103 = .ok (.newarray .int, 2) := by decide +kernel
theorem dX8_init_105 : decode cX8_init 105 = .ok (.putfield 46, 3) := by decide +kernel
theorem dX8_init_108 : decode cX8_init 108 = .ok (.aload_n 0, 1) := by decide +kernel
theorem dX8_init_109 : decode cX8_init 109 = .ok (.bipush 60, 2) := by decide +kernel
theorem dX8_init_111 : decode cX8_init 111 = .ok (.newarray .int, 2) := by decide +kernel
theorem dX8_init_113 : decode cX8_init 113 = .ok (.putfield 49, 3) := by decide +kernel
theorem dX8_init_116 : decode cX8_init 116 = .ok (.aload_n 0, 1) := by decide +kernel
theorem dX8_init_117 : decode cX8_init 117 = .ok (.bipush 60, 2) := by decide +kernel
theorem dX8_init_119 : decode cX8_init 119 = .ok (.newarray .int, 2) := by decide +kernel
theorem dX8_init_121 : decode cX8_init 121 = .ok (.putfield 52, 3) := by decide +kernel
theorem dX8_init_124 : decode cX8_init 124 = .ok (.aload_n 0, 1) := by decide +kernel
theorem dX8_init_125 : decode cX8_init 125 = .ok (.bipush 6, 2) := by decide +kernel
theorem dX8_init_127 : decode cX8_init 127 = .ok (.newarray .int, 2) := by decide +kernel
theorem dX8_init_129 : decode cX8_init 129 = .ok (.putfield 55, 3) := by decide +kernel
theorem dX8_init_132 : decode cX8_init 132 = .ok (.aload_n 0, 1) := by decide +kernel
theorem dX8_init_133 : decode cX8_init 133 = .ok (.bipush 6, 2) := by decide +kernel
theorem dX8_init_135 : decode cX8_init 135 = .ok (.newarray .int, 2) := by decide +kernel
theorem dX8_init_137 : decode cX8_init 137 = .ok (.putfield 58, 3) := by decide +kernel
theorem dX8_init_140 : decode cX8_init 140 = .ok (.aload_n 0, 1) := by decide +kernel
theorem dX8_init_141 : decode cX8_init 141 = .ok (.bipush 6, 2) := by decide +kernel
theorem dX8_init_143 : decode cX8_init 143 = .ok (.newarray .int, 2) := by decide +kernel
theorem dX8_init_145 : decode cX8_init 145 = .ok (.putfield 61, 3) := by decide +kernel
theorem dX8_init_148 : decode cX8_init 148 = .ok (.aload_n 0, 1) := by decide +kernel
theorem dX8_init_149 : decode cX8_init 149 = .ok (.bipush 32, 2) := by decide +kernel
theorem dX8_init_151 : decode cX8_init 151 = .ok (.newarray .int, 2) := by decide +kernel
theorem dX8_init_153 : decode cX8_init 153 = .ok (.putfield 64, 3) := by decide +kernel
theorem dX8_init_156 : decode cX8_init 156 = .ok (.aload_n 0, 1) := by decide +kernel
theorem dX8_init_157 : decode cX8_init 157 = .ok (.bipush 32, 2) := by decide +kernel
theorem dX8_init_159 : decode cX8_init 159 = .ok (.newarray .int, 2) := by decide +kernel
theorem dX8_init_161 : decode cX8_init 161 = .ok (.putfield 67, 3) := by decide +kernel
theorem dX8_init_164 : decode cX8_init 164 = .ok (.aload_n 0, 1) := by decide +kernel
theorem dX8_init_165 : decode cX8_init 165 = .ok (.bipush 32, 2) := by decide +kernel
theorem dX8_init_167 : decode cX8_init 167 = .ok (.newarray .int, 2) := by decide +kernel
theorem dX8_init_169 : decode cX8_init 169 = .ok (.putfield 70, 3) := by decide +kernel
theorem dX8_init_172 : decode cX8_init 172 = .ok (.aload_n 0, 1) := by decide +kernel
theorem dX8_init_173 : decode cX8_init 173 = .ok (.sipush 200, 3) := by decide +kernel
theorem dX8_init_176 : decode cX8_init 176 = .ok (.newarray .int, 2) := by decide +kernel
theorem dX8_init_178 : decode cX8_init 178 = .ok (.putfield 73, 3) := by decide +kernel
theorem dX8_init_181 : decode cX8_init 181 = .ok (.aload_n 0, 1) := by decide +kernel
theorem dX8_init_182 : decode cX8_init 182 = .ok (.iconst 2, 1) := by decide +kernel
theorem dX8_init_183 : decode cX8_init 183 = .ok (.newarray .boolean, 2) := by decide +kernel
theorem dX8_init_185 : decode cX8_init 185 = .ok (.putfield 76, 3) := by decide +kernel
theorem dX8_init_188 : decode cX8_init 188 = .ok (.aload_n 0, 1) := by decide +kernel
theorem dX8_init_189 : decode cX8_init 189 = .ok (.iconst 2, 1) := by decide +kernel
theorem dX8_init_190 : decode cX8_init 190 = .ok (.putfield 80, 3) := by decide +kernel
theorem dX8_init_193 : decode cX8_init 193 = .ok (.aload_n 0, 1) := by decide +kernel
theorem dX8_init_194 : decode cX8_init 194 = .ok (.iconst 3, 1) := by decide +kernel
theorem dX8_init_195 : decode cX8_init 195 = .ok (.putfield 84, 3) := by decide +kernel
theorem dX8_init_198 : decode cX8_init 198 = .ok (.aload_n 0, 1) := by decide +kernel
theorem dX8_init_199 : decode cX8_init 199 = .ok (.bipush 20, 2) := by decide +kernel
theorem dX8_init_201 : decode cX8_init 201 = .ok (.putfield 87, 3) := by decide +kernel
theorem dX8_init_204 : decode cX8_init 204 = .ok (.aload_n 0, 1) := by decide +kernel
theorem dX8_init_205 : decode cX8_init 205 = .ok (.iconst 1, 1) := by decide +kernel
theorem dX8_init_206 : decode cX8_init 206 = .ok (.putfield 90, 3) := by decide +kernel
theorem dX8_init_209 : decode cX8_init 209 = .ok (.aload_n 0, 1) := by decide +kernel
theorem dX8_init_210 : decode cX8_init 210 = .ok (.bipush 6, 2) := by decide +kernel
theorem dX8_init_212 : decode cX8_init 212 = .ok (.putfield 93, 3) := by decide +kernel
theorem dX8_init_215 : decode cX8_init 215 = .ok (.aload_n 0, 1) := by decide +kernel
theorem dX8_init_216 : decode cX8_init 216 = .ok (.iconst 1, 1) := by decide +kernel
theorem dX8_init_217 : decode cX8_init 217 = .ok (.putfield 96, 3) := by decide +kernel
theorem dX8_init_220 : decode cX8_init 220 = .ok (.return_, 1) := by decide +kernel
theorem dX8_in_0 : decode cX8_in 0 = .ok (.lload_n 0, 1) := by decide +kernel
theorem dX8_in_1 : decode cX8_in 1 = .ok (.lload_n 2, 1) := by decide +kernel
theorem dX8_in_2 : decode cX8_in 2 = .ok (.lcmp, 1) := by decide +kernel
theorem dX8_in_3 : decode cX8_in 3 = .ok (.ifCond .lt 14, 3) := by decide +kernel
theorem dX8_in_6 : decode cX8_in 6 = .ok (.lload_n 0, 1) := by decide +kernel
theorem dX8_in_7 : decode cX8_in 7 = .ok (.lload 4, 2) := by decide +kernel
theorem dX8_in_9 : decode cX8_in 9 = .ok (.lcmp, 1) := by decide +kernel
theorem dX8_in_10 : decode cX8_in 10 = .ok (.ifCond .gt 7, 3) := by decide +kernel
theorem dX8_in_13 : decode cX8_in 13 = .ok (.iconst 1, 1) := by decide +kernel
theorem dX8_in_14 : decode cX8_in 14 = .ok (.goto 4, 3) := by decide +kernel
theorem dX8_in_17 : decode cX8_in 17 = .ok (.iconst 0, 1) := by decide +kernel
theorem dX8_in_18 : decode cX8_in 18 = .ok (.ireturn, 1) := by decide +kernel
theorem dX8_ones_0 : decode cX8_ones 0 = .ok (.iconst 0, 1) := by decide +kernel
theorem dX8_ones_1 : decode cX8_ones 1 = .ok (.istore_n 1, 1) := by decide +kernel
theorem dX8_ones_2 : decode cX8_ones 2 = .ok (.iload_n 0, 1) := by decide +kernel
theorem dX8_ones_3 : decode cX8_ones 3 = .ok (.istore_n 2, 1) := by decide +kernel
theorem dX8_ones_4 : decode cX8_ones 4 = .ok (.iload_n 2, 1) := by decide +kernel
theorem dX8_ones_5 : decode cX8_ones 5 = .ok (.ifCond .eq 15, 3) := by decide +kernel
theorem dX8_ones_8 : decode cX8_ones 8 = .ok (.iinc 1 1, 3) := by decide +kernel
theorem dX8_ones_11 : decode cX8_ones 11 = .ok (.iload_n 2, 1) := by decide +kernel
theorem dX8_ones_12 : decode cX8_ones 12 = .ok (.iload_n 2, 1) := by decide +kernel
theorem dX8_ones_13 : decode cX8_ones 13 = .ok (.iconst 1, 1) := by decide +kernel
theorem dX8_ones_14 : decode cX8_ones 14 = .ok (.isub, 1) := by decide +kernel
theorem dX8_ones_15 : decode cX8_ones 15 = .ok (.iand, 1) := by decide +kernel
theorem dX8_ones_16 : decode cX8_ones 16 = .ok (.istore_n 2, 1) := by decide +kernel
theorem dX8_ones_17 : decode cX8_ones 17 = .ok (.goto (-13), 3) := by decide +kernel
theorem dX8_ones_20 : decode cX8_ones 20 = .ok (.iload_n 1, 1) := by decide +kernel
theorem dX8_ones_21 : decode cX8_ones 21 = .ok (.ireturn, 1) := by decide +kernel
theorem dX8_most_0 : decode cX8_most 0 = .ok (.iload_n 0, 1) := by decide +kernel
theorem dX8_most_1 : decode cX8_most 1 = .ok (.iload_n 1, 1) := by decide +kernel
theorem dX8_most_2 : decode cX8_most 2 = .ok (.if_icmp .le 7, 3) := by decide +kernel
theorem dX8_most_5 : decode cX8_most 5 = .ok (.iload_n 0, 1) := by decide +kernel
theorem dX8_most_6 : decode cX8_most 6 = .ok (.goto 4, 3) := by decide +kernel
theorem dX8_most_9 : decode cX8_most 9 = .ok (.iload_n 1, 1) := by decide +kernel
theorem dX8_most_10 : decode cX8_most 10 = .ok (.ireturn, 1) := by decide +kernel
set_option maxRecDepth 20000 in
theorem ggX8_isNumber_X8_in : GoodIn wsX8_isNumber wsX8_in := goodIn_r _ [5] (by decide +kernel) (by decide +kernel)
set_option maxRecDepth 20000 in
theorem gX8_isNumber_X8_in : GoodIn wsX8_isNumber (va_wsS RX8 101 yX8_in wsX8_in) := goodIn_app (goodIn_of _ (by decide +kernel)) ggX8_isNumber_X8_in
theorem dX8_isNumber_0 : decode cX8_isNumber 0 = .ok (.iload_n 0, 1) := by decide +kernel
theorem dX8_isNumber_1 : decode cX8_isNumber 1 = .ok (.i2l, 1) := by decide +kernel
theorem dX8_isNumber_2 : decode cX8_isNumber 2 = .ok (.lconst 0, 1) := by decide +kernel
theorem dX8_isNumber_3 : decode cX8_isNumber 3 = .ok (.ldc2_w 99, 3) := by decide +kernel
theorem dX8_isNumber_6 : decode cX8_isNumber 6 = .ok (.invokestatic 101, 3) := by decide +kernel
theorem dX8_isNumber_9 : decode cX8_isNumber 9 = .ok (.ireturn, 1) := by decide +kernel
set_option maxRecDepth 20000 in
theorem ggX8_isThere_X8_isNumber : GoodIn wsX8_isThere wsX8_isNumber := goodIn_r _ [5, 6, 7, 8, 4, 9] (by decide +kernel) (by decide +kernel)
set_option maxRecDepth 20000 in
theorem gX8_isThere_X8_isNumber : GoodIn wsX8_isThere (va_wsS RX8 105 yX8_isNumber wsX8_isNumber) := goodIn_app (goodIn_of _ (by decide +kernel)) ggX8_isThere_X8_isNumber
theorem dX8_isThere_0 : decode cX8_isThere 0 = .ok (.iload_n 1, 1) := by decide +kernel
theorem dX8_isThere_1 : decode cX8_isThere 1 = .ok (.invokestatic 105, 3) := by decide +kernel
theorem dX8_isThere_4 : decode cX8_isThere 4 = .ok (.ifCond .eq 19, 3) := by decide +kernel
theorem dX8_isThere_7 : decode cX8_isThere 7 = .ok (.aload_n 0, 1) := by decide +kernel
theorem dX8_isThere_8 : decode cX8_isThere 8 = .ok (.getfield 109, 3) := by decide +kernel
theorem dX8_isThere_11 : decode cX8_isThere 11 = .ok (.iload_n 1, 1) := by decide +kernel
theorem dX8_isThere_12 : decode cX8_isThere 12 = .ok (.ishr, 1) := by decide +kernel
theorem dX8_isThere_13 : decode cX8_isThere 13 = .ok (.iconst 1, 1) := by decide +kernel
theorem dX8_isThere_14 : decode cX8_isThere 14 = .ok (.iand, 1) := by decide +kernel
theorem dX8_isThere_15 : decode cX8_isThere 15 = .ok (.iconst 1, 1) := by decide +kernel
theorem dX8_isThere_16 : decode cX8_isThere 16 = .ok (.if_icmp .ne 7, 3) := by decide +kernel
theorem dX8_isThere_19 : decode cX8_isThere 19 = .ok (.iconst 1, 1) := by decide +kernel
theorem dX8_isThere_20 : decode cX8_isThere 20 = .ok (.goto 4, 3) := by decide +kernel
theorem dX8_isThere_23 : decode cX8_isThere 23 = .ok (.iconst 0, 1) := by decide +kernel
theorem dX8_isThere_24 : decode cX8_isThere 24 = .ok (.ireturn, 1) := by decide +kernel
set_option maxRecDepth 20000 in
theorem ggX8_isNine_X8_in : GoodIn wsX8_isNine wsX8_in := goodIn_r _ [5] (by decide +kernel) (by decide +kernel)
set_option maxRecDepth 20000 in
theorem gX8_isNine_X8_in : GoodIn wsX8_isNine (va_wsS RX8 101 yX8_in wsX8_in) := goodIn_app (goodIn_of _ (by decide +kernel)) ggX8_isNine_X8_in
theorem dX8_isNine_0 : decode cX8_isNine 0 = .ok (.iload_n 0, 1) := by decide +kernel
theorem dX8_isNine_1 : decode cX8_isNine 1 = .ok (.i2l, 1) := by decide +kernel
theorem dX8_isNine_2 : decode cX8_isNine 2 = .ok (.lconst 0, 1) := by decide +kernel
theorem dX8_isNine_3 : decode cX8_isNine 3 = .ok (.ldc2_w 112, 3) := by decide +kernel
theorem dX8_isNine_6 : decode cX8_isNine 6 = .ok (.invokestatic 101, 3) := by decide +kernel
theorem dX8_isNine_9 : decode cX8_isNine 9 = .ok (.ireturn, 1) := by decide +kernel
set_option maxRecDepth 20000 in
theorem ggX8_isHeight_X8_in : GoodIn wsX8_isHeight wsX8_in := goodIn_r _ [5] (by decide +kernel) (by decide +kernel)
set_option maxRecDepth 20000 in
theorem gX8_isHeight_X8_in : GoodIn wsX8_isHeight (va_wsS RX8 101 yX8_in wsX8_in) := goodIn_app (goodIn_of _ (by decide +kernel)) ggX8_isHeight_X8_in
theorem dX8_isHeight_0 : decode cX8_isHeight 0 = .ok (.iload_n 0, 1) := by decide +kernel
theorem dX8_isHeight_1 : decode cX8_isHeight 1 = .ok (.i2l, 1) := by decide +kernel
theorem dX8_isHeight_2 : decode cX8_isHeight 2 = .ok (.lconst 1, 1) := by decide +kernel
theorem dX8_isHeight_3 : decode cX8_isHeight 3 = .ok (.ldc2_w 114, 3) := by decide +kernel
theorem dX8_isHeight_6 : decode cX8_isHeight 6 = .ok (.invokestatic 101, 3) := by decide +kernel
theorem dX8_isHeight_9 : decode cX8_isHeight 9 = .ok (.ireturn, 1) := by decide +kernel
set_option maxRecDepth 20000 in
theorem ggX8_person_X8_isNumber : GoodIn wsX8_person wsX8_isNumber := goodIn_r _ [13, 14, 15, 16, 12, 17] (by decide +kernel) (by decide +kernel)
set_option maxRecDepth 20000 in
theorem gX8_person_X8_isNumber : GoodIn wsX8_person (va_wsS RX8 105 yX8_isNumber wsX8_isNumber) := goodIn_app (goodIn_of _ (by decide +kernel)) ggX8_person_X8_isNumber
set_option maxRecDepth 20000 in
theorem ggX8_person_X8_isNine : GoodIn wsX8_person wsX8_isNine := goodIn_r _ [20, 21, 15, 16, 12, 17] (by decide +kernel) (by decide +kernel)
set_option maxRecDepth 20000 in
theorem gX8_person_X8_isNine : GoodIn wsX8_person (va_wsS RX8 116 yX8_isNine wsX8_isNine) := goodIn_app (goodIn_of _ (by decide +kernel)) ggX8_person_X8_isNine
set_option maxRecDepth 20000 in
theorem ggX8_person_X8_ones : GoodIn wsX8_person wsX8_ones := goodIn_r _ [24] (by decide +kernel) (by decide +kernel)
set_option maxRecDepth 20000 in
theorem gX8_person_X8_ones : GoodIn wsX8_person (va_wsS RX8 119 yX8_ones wsX8_ones) := goodIn_app (goodIn_of _ (by decide +kernel)) ggX8_person_X8_ones
theorem dX8_person_0 : decode cX8_person 0 = .ok (.iload_n 1, 1) := by decide +kernel
theorem dX8_person_1 : decode cX8_person 1 = .ok (.invokestatic 105, 3) := by decide +kernel
theorem dX8_person_4 : decode cX8_person 4 = .ok (.ifCond .ne 5, 3) := by decide +kernel
theorem dX8_person_7 : decode cX8_person 7 = .ok (.iconst (-1), 1) := by decide +kernel
theorem dX8_person_8 : decode cX8_person 8 = .ok (.ireturn, 1) := by decide +kernel
theorem dX8_person_9 : decode cX8_person 9 = .ok (.iload_n 2, 1) := by decide +kernel
theorem dX8_person_10 : decode cX8_person 10 = .ok (.invokestatic 116, 3) := by decide +kernel
theorem dX8_person_13 : decode cX8_person 13 = .ok (.ifCond .eq 18, 3) := by decide +kernel
theorem dX8_person_16 : decode cX8_person 16 = .ok (.iload_n 3, 1) := by decide +kernel
theorem dX8_person_17 : decode cX8_person 17 = .ok (.invokestatic 116, 3) := by decide +kernel
theorem dX8_person_20 : decode cX8_person 20 = .ok (.ifCond .eq 11, 3) := by decide +kernel
theorem dX8_person_23 : decode cX8_person 23 = .ok (.iload 4, 2) := by decide +kernel
theorem dX8_person_25 : decode cX8_person 25 = .ok (.invokestatic 116, 3) := by decide +kernel
theorem dX8_person_28 : decode cX8_person 28 = .ok (.ifCond .ne 6, 3) := by decide +kernel
theorem dX8_person_31 : decode cX8_person 31 = .ok (.bipush (-2), 2) := by decide +kernel
theorem dX8_person_33 : decode cX8_person 33 = .ok (.ireturn, 1) := by decide +kernel
theorem dX8_person_34 : decode cX8_person 34 = .ok (.aload_n 0, 1) := by decide +kernel
theorem dX8_person_35 : decode cX8_person 35 = .ok (.getfield 7, 3) := by decide +kernel
theorem dX8_person_38 : decode cX8_person 38 = .ok (.iload_n 1, 1) := by decide +kernel
theorem dX8_person_39 : decode cX8_person 39 = .ok (.iload_n 2, 1) := by decide +kernel
theorem dX8_person_40 : decode cX8_person 40 = .ok (.iastore, 1) := by decide +kernel
theorem dX8_person_41 : decode cX8_person 41 = .ok (.aload_n 0, 1) := by decide +kernel
theorem dX8_person_42 : decode cX8_person 42 = .ok (.getfield 13, 3) := by decide +kernel
theorem dX8_person_45 : decode cX8_person 45 = .ok (.iload_n 1, 1) := by decide +kernel
theorem dX8_person_46 : decode cX8_person 46 = .ok (.iload_n 3, 1) := by decide +kernel
theorem dX8_person_47 : decode cX8_person 47 = .ok (.iastore, 1) := by decide +kernel
theorem dX8_person_48 : decode cX8_person 48 = .ok (.aload_n 0, 1) := by decide +kernel
theorem dX8_person_49 : decode cX8_person 49 = .ok (.getfield 16, 3) := by decide +kernel
theorem dX8_person_52 : decode cX8_person 52 = .ok (.iload_n 1, 1) := by decide +kernel
theorem dX8_person_53 : decode cX8_person 53 = .ok (.iload 4, 2) := by decide +kernel
theorem dX8_person_55 : decode cX8_person 55 = .ok (.iastore, 1) := by decide +kernel
theorem dX8_person_56 : decode cX8_person 56 = .ok (.aload_n 0, 1) := by decide +kernel
theorem dX8_person_57 : decode cX8_person 57 = .ok (.getfield 19, 3) := by decide +kernel
theorem dX8_person_60 : decode cX8_person 60 = .ok (.iload_n 1, 1) := by decide +kernel
theorem dX8_person_61 : decode cX8_person 61 = .ok (.iload 5, 2) := by decide +kernel
theorem dX8_person_63 : decode cX8_person 63 = .ok (.ifCond .eq 7, 3) := by decide +kernel
theorem dX8_person_66 : decode cX8_person 66 = .ok (.iconst 1, 1) := by decide +kernel
theorem dX8_person_67 : decode cX8_person 67 = .ok (.goto 4, 3) := by decide +kernel
theorem dX8_person_70 : decode cX8_person 70 = .ok (.iconst 0, 1) := by decide +kernel
theorem dX8_person_71 : decode cX8_person 71 = .ok (.iastore, 1) := by decide +kernel
theorem dX8_person_72 : decode cX8_person 72 = .ok (.aload_n 0, 1) := by decide +kernel
theorem dX8_person_73 : decode cX8_person 73 = .ok (.getfield 22, 3) := by decide +kernel
theorem dX8_person_76 : decode cX8_person 76 = .ok (.iload_n 1, 1) := by decide +kernel
theorem dX8_person_77 : decode cX8_person 77 = .ok (.aload_n 0, 1) := by decide +kernel
theorem dX8_person_78 : decode cX8_person 78 = .ok (.getfield 84, 3) := by decide +kernel
theorem dX8_person_81 : decode cX8_person 81 = .ok (.iastore, 1) := by decide +kernel
theorem dX8_person_82 : decode cX8_person 82 = .ok (.aload_n 0, 1) := by decide +kernel
theorem dX8_person_83 : decode cX8_person 83 = .ok (.getfield 25, 3) := by decide +kernel
theorem dX8_person_86 : decode cX8_person 86 = .ok (.iload_n 1, 1) := by decide +kernel
theorem dX8_person_87 : decode cX8_person 87 = .ok (.iconst 0, 1) := by decide +kernel
theorem dX8_person_88 : decode cX8_person 88 = .ok (.iastore, 1) := by decide +kernel
theorem dX8_person_89 : decode cX8_person 89 = .ok (.aload_n 0, 1) := by decide +kernel
theorem dX8_person_90 : decode cX8_person 90 = .ok (.getfield 28, 3) := by decide +kernel
theorem dX8_person_93 : decode cX8_person 93 = .ok (.iload_n 1, 1) := by decide +kernel
theorem dX8_person_94 : decode cX8_person 94 = .ok (.iconst 0, 1) := by decide +kernel
theorem dX8_person_95 : decode cX8_person 95 = .ok (.iastore, 1) := by decide +kernel
theorem dX8_person_96 : decode cX8_person 96 = .ok (.aload_n 0, 1) := by decide +kernel
theorem dX8_person_97 : decode cX8_person 97 = .ok (.dup, 1) := by decide +kernel
theorem dX8_person_98 : decode cX8_person 98 = .ok (.getfield 109, 3) := by decide +kernel
theorem dX8_person_101 : decode cX8_person 101 = .ok (.iconst 1, 1) := by decide +kernel
theorem dX8_person_102 : decode cX8_person 102 = .ok (.iload_n 1, 1) := by decide +kernel
theorem dX8_person_103 : decode cX8_person 103 = .ok (.ishl, 1) := by decide +kernel
theorem dX8_person_104 : decode cX8_person 104 = .ok (.ior, 1) := by decide +kernel
theorem dX8_person_105 : decode cX8_person 105 = .ok (.putfield 109, 3) := by decide +kernel
theorem dX8_person_108 : decode cX8_person 108 = .ok (.aload_n 0, 1) := by decide +kernel
theorem dX8_person_109 : decode cX8_person 109 = .ok (.getfield 109, 3) := by decide +kernel
theorem dX8_person_112 : decode cX8_person 112 = .ok (.invokestatic 119, 3) := by decide +kernel
theorem dX8_person_115 : decode cX8_person 115 = .ok (.ireturn, 1) := by decide +kernel
set_option maxRecDepth 20000 in
theorem ggX8_leave_X8_isThere : GoodIn wsX8_leave wsX8_isThere := goodIn_r _ [6, 1, 7, 8, 5, 9, 10, 11, 12, 13, 17, 18, 19, 20, 21, 22, 23, 24, 25, 26, 27, 28, 29, 30, 31, 32, 33, 34, 35, 36, 37, 38, 39, 40, 41, 42, 43, 44, 45, 46, 47, 48, 49, 50, 51, 52, 53, 54, 55, 56, 57, 58, 59, 60, 61, 62] (by decide +kernel) (by decide +kernel)
set_option maxRecDepth 20000 in
theorem gX8_leave_X8_isThere : GoodIn wsX8_leave (wsV RX8 123 RX8 yX8_isThere wsX8_isThere) := goodIn_app (goodIn_of _ (by decide +kernel)) ggX8_leave_X8_isThere
set_option maxRecDepth 20000 in
theorem ggX8_leave_X8_ones : GoodIn wsX8_leave wsX8_ones := goodIn_r _ [16] (by decide +kernel) (by decide +kernel)
set_option maxRecDepth 20000 in
theorem gX8_leave_X8_ones : GoodIn wsX8_leave (va_wsS RX8 119 yX8_ones wsX8_ones) := goodIn_app (goodIn_of _ (by decide +kernel)) ggX8_leave_X8_ones
theorem dX8_leave_0 : decode cX8_leave 0 = .ok (.aload_n 0, 1) := by decide +kernel
theorem dX8_leave_1 : decode cX8_leave 1 = .ok (.iload_n 1, 1) := by decide +kernel
theorem dX8_leave_2 : decode cX8_leave 2 = .ok (.invokevirtual 123, 3) := by decide +kernel
theorem dX8_leave_5 : decode cX8_leave 5 = .ok (.ifCond .ne 5, 3) := by decide +kernel
theorem dX8_leave_8 : decode cX8_leave 8 = .ok (.iconst (-1), 1) := by decide +kernel
theorem dX8_leave_9 : decode cX8_leave 9 = .ok (.ireturn, 1) := by decide +kernel
theorem dX8_leave_10 : decode cX8_leave 10 = .ok (.aload_n 0, 1) := by decide +kernel
theorem dX8_leave_11 : decode cX8_leave 11 = .ok (.dup, 1) := by decide +kernel
theorem dX8_leave_12 : decode cX8_leave 12 = .ok (.getfield 109, 3) := by decide +kernel
theorem dX8_leave_15 : decode cX8_leave 15 = .ok (.iconst 1, 1) := by decide +kernel
theorem dX8_leave_16 : decode cX8_leave 16 = .ok (.iload_n 1, 1) := by decide +kernel
theorem dX8_leave_17 : decode cX8_leave 17 = .ok (.ishl, 1) := by decide +kernel
theorem dX8_leave_18 : decode cX8_leave 18 = .ok (.iconst (-1), 1) := by decide +kernel
theorem dX8_leave_19 : decode cX8_leave 19 = .ok (.ixor, 1) := by decide +kernel
theorem dX8_leave_20 : decode cX8_leave 20 = .ok (.iand, 1) := by decide +kernel
theorem dX8_leave_21 : decode cX8_leave 21 = .ok (.putfield 109, 3) := by decide +kernel
theorem dX8_leave_24 : decode cX8_leave 24 = .ok (.aload_n 0, 1) := by decide +kernel
theorem dX8_leave_25 : decode cX8_leave 25 = .ok (.getfield 109, 3) := by decide +kernel
theorem dX8_leave_28 : decode cX8_leave 28 = .ok (.invokestatic 119, 3) := by decide +kernel
theorem dX8_leave_31 : decode cX8_leave 31 = .ok (.ireturn, 1) := by decide +kernel
set_option maxRecDepth 20000 in
theorem ggX8_maySet_X8_in : GoodIn wsX8_maySet wsX8_in := goodIn_r _ [8] (by decide +kernel) (by decide +kernel)
set_option maxRecDepth 20000 in
theorem gX8_maySet_X8_in : GoodIn wsX8_maySet (va_wsS RX8 101 yX8_in wsX8_in) := goodIn_app (goodIn_of _ (by decide +kernel)) ggX8_maySet_X8_in
set_option maxRecDepth 20000 in
theorem ggX8_maySet_X8_isNine : GoodIn wsX8_maySet wsX8_isNine := goodIn_r _ [11, 1, 5, 6, 7, 8] (by decide +kernel) (by decide +kernel)
set_option maxRecDepth 20000 in
theorem gX8_maySet_X8_isNine : GoodIn wsX8_maySet (va_wsS RX8 116 yX8_isNine wsX8_isNine) := goodIn_app (goodIn_of _ (by decide +kernel)) ggX8_maySet_X8_isNine
theorem dX8_maySet_0 : decode cX8_maySet 0 = .ok (.iload_n 0, 1) := by decide +kernel
theorem dX8_maySet_1 : decode cX8_maySet 1 = .ok (.tableswitch 82 0 5 #[39, 49, 54, 49, 64, 74], 39) := by decide +kernel
theorem dX8_maySet_40 : decode cX8_maySet 40 = .ok (.iload_n 1, 1) := by decide +kernel
theorem dX8_maySet_41 : decode cX8_maySet 41 = .ok (.i2l, 1) := by decide +kernel
theorem dX8_maySet_42 : decode cX8_maySet 42 = .ok (.lconst 1, 1) := by decide +kernel
theorem dX8_maySet_43 : decode cX8_maySet 43 = .ok (.ldc2_w 112, 3) := by decide +kernel
theorem dX8_maySet_46 : decode cX8_maySet 46 = .ok (.invokestatic 101, 3) := by decide +kernel
theorem dX8_maySet_49 : decode cX8_maySet 49 = .ok (.ireturn, 1) := by decide +kernel
theorem dX8_maySet_50 : decode cX8_maySet 50 = .ok (.iload_n 1, 1) := by decide +kernel
theorem dX8_maySet_51 : decode cX8_maySet 51 = .ok (.invokestatic 116, 3) := by decide +kernel
theorem dX8_maySet_54 : decode cX8_maySet 54 = .ok (.ireturn, 1) := by decide +kernel
theorem dX8_maySet_55 : decode cX8_maySet 55 = .ok (.iload_n 1, 1) := by decide +kernel
theorem dX8_maySet_56 : decode cX8_maySet 56 = .ok (.i2l, 1) := by decide +kernel
theorem dX8_maySet_57 : decode cX8_maySet 57 = .ok (.lconst 0, 1) := by decide +kernel
theorem dX8_maySet_58 : decode cX8_maySet 58 = .ok (.ldc2_w 126, 3) := by decide +kernel
theorem dX8_maySet_61 : decode cX8_maySet 61 = .ok (.invokestatic 101, 3) := by decide +kernel
theorem dX8_maySet_64 : decode cX8_maySet 64 = .ok (.ireturn, 1) := by decide +kernel
theorem dX8_maySet_65 : decode cX8_maySet 65 = .ok (.iload_n 1, 1) := by decide +kernel
theorem dX8_maySet_66 : decode cX8_maySet 66 = .ok (.i2l, 1) := by decide +kernel
theorem dX8_maySet_67 : decode cX8_maySet 67 = .ok (.lconst 1, 1) := by decide +kernel
theorem dX8_maySet_68 : decode cX8_maySet 68 = .ok (.ldc2_w 128, 3) := by decide +kernel
theorem dX8_maySet_71 : decode cX8_maySet 71 = .ok (.invokestatic 101, 3) := by decide +kernel
theorem dX8_maySet_74 : decode cX8_maySet 74 = .ok (.ireturn, 1) := by decide +kernel
theorem dX8_maySet_75 : decode cX8_maySet 75 = .ok (.iload_n 1, 1) := by decide +kernel
theorem dX8_maySet_76 : decode cX8_maySet 76 = .ok (.i2l, 1) := by decide +kernel
theorem dX8_maySet_77 : decode cX8_maySet 77 = .ok (.lconst 0, 1) := by decide +kernel
theorem dX8_maySet_78 : decode cX8_maySet 78 = .ok (.lconst 1, 1) := by decide +kernel
theorem dX8_maySet_79 : decode cX8_maySet 79 = .ok (.invokestatic 101, 3) := by decide +kernel
theorem dX8_maySet_82 : decode cX8_maySet 82 = .ok (.ireturn, 1) := by decide +kernel
theorem dX8_maySet_83 : decode cX8_maySet 83 = .ok (.iload_n 0, 1) := by decide +kernel
theorem dX8_maySet_84 : decode cX8_maySet 84 = .ok (.bipush 6, 2) := by decide +kernel
theorem dX8_maySet_86 : decode cX8_maySet 86 = .ok (.if_icmp .ne 19, 3) := by decide +kernel
theorem dX8_maySet_89 : decode cX8_maySet 89 = .ok (.iload_n 1, 1) := by decide +kernel
theorem dX8_maySet_90 : decode cX8_maySet 90 = .ok (.i2l, 1) := by decide +kernel
theorem dX8_maySet_91 : decode cX8_maySet 91 = .ok (.lconst 0, 1) := by decide +kernel
theorem dX8_maySet_92 : decode cX8_maySet 92 = .ok (.ldc2_w 130, 3) := by decide +kernel
theorem dX8_maySet_95 : decode cX8_maySet 95 = .ok (.invokestatic 101, 3) := by decide +kernel
theorem dX8_maySet_98 : decode cX8_maySet 98 = .ok (.ifCond .eq 7, 3) := by decide +kernel
theorem dX8_maySet_101 : decode cX8_maySet 101 = .ok (.iconst 1, 1) := by decide +kernel
theorem dX8_maySet_102 : decode cX8_maySet 102 = .ok (.goto 4, 3) := by decide +kernel
theorem dX8_maySet_105 : decode cX8_maySet 105 = .ok (.iconst 0, 1) := by decide +kernel
theorem dX8_maySet_106 : decode cX8_maySet 106 = .ok (.ireturn, 1) := by decide +kernel
theorem dX8_toldSet_0 : decode cX8_toldSet 0 = .ok (.iload_n 1, 1) := by decide +kernel
theorem dX8_toldSet_1 : decode cX8_toldSet 1 = .ok (.ifCond .ne 10, 3) := by decide +kernel
theorem dX8_toldSet_4 : decode cX8_toldSet 4 = .ok (.aload_n 0, 1) := by decide +kernel
theorem dX8_toldSet_5 : decode cX8_toldSet 5 = .ok (.getfield 80, 3) := by decide +kernel
theorem dX8_toldSet_8 : decode cX8_toldSet 8 = .ok (.goto 67, 3) := by decide +kernel
theorem dX8_toldSet_11 : decode cX8_toldSet 11 = .ok (.iload_n 1, 1) := by decide +kernel
theorem dX8_toldSet_12 : decode cX8_toldSet 12 = .ok (.iconst 1, 1) := by decide +kernel
theorem dX8_toldSet_13 : decode cX8_toldSet 13 = .ok (.if_icmp .ne 10, 3) := by decide +kernel
theorem dX8_toldSet_16 : decode cX8_toldSet 16 = .ok (.aload_n 0, 1) := by decide +kernel
theorem dX8_toldSet_17 : decode cX8_toldSet 17 = .ok (.getfield 84, 3) := by decide +kernel
theorem dX8_toldSet_20 : decode cX8_toldSet 20 = .ok (.goto 55, 3) := by decide +kernel
theorem dX8_toldSet_23 : decode cX8_toldSet 23 = .ok (.iload_n 1, 1) := by decide +kernel
theorem dX8_toldSet_24 : decode cX8_toldSet 24 = .ok (.iconst 2, 1) := by decide +kernel
theorem dX8_toldSet_25 : decode cX8_toldSet 25 = .ok (.if_icmp .ne 10, 3) := by decide +kernel
theorem dX8_toldSet_28 : decode cX8_toldSet 28 = .ok (.aload_n 0, 1) := by decide +kernel
theorem dX8_toldSet_29 : decode cX8_toldSet 29 = .ok (.getfield 87, 3) := by decide +kernel
theorem dX8_toldSet_32 : decode cX8_toldSet 32 = .ok (.goto 43, 3) := by decide +kernel
theorem dX8_toldSet_35 : decode cX8_toldSet 35 = .ok (.iload_n 1, 1) := by decide +kernel
theorem dX8_toldSet_36 : decode cX8_toldSet 36 = .ok (.iconst 3, 1) := by decide +kernel
theorem dX8_toldSet_37 : decode cX8_toldSet 37 = .ok (.if_icmp .ne 10, 3) := by decide +kernel
theorem dX8_toldSet_40 : decode cX8_toldSet 40 = .ok (.aload_n 0, 1) := by decide +kernel
theorem dX8_toldSet_41 : decode cX8_toldSet 41 = .ok (.getfield 90, 3) := by decide +kernel
theorem dX8_toldSet_44 : decode cX8_toldSet 44 = .ok (.goto 31, 3) := by decide +kernel
theorem dX8_toldSet_47 : decode cX8_toldSet 47 = .ok (.iload_n 1, 1) := by decide +kernel
theorem dX8_toldSet_48 : decode cX8_toldSet 48 = .ok (.iconst 4, 1) := by decide +kernel
theorem dX8_toldSet_49 : decode cX8_toldSet 49 = .ok (.if_icmp .ne 10, 3) := by decide +kernel
theorem dX8_toldSet_52 : decode cX8_toldSet 52 = .ok (.aload_n 0, 1) := by decide +kernel
theorem dX8_toldSet_53 : decode cX8_toldSet 53 = .ok (.getfield 93, 3) := by decide +kernel
theorem dX8_toldSet_56 : decode cX8_toldSet 56 = .ok (.goto 19, 3) := by decide +kernel
theorem dX8_toldSet_59 : decode cX8_toldSet 59 = .ok (.iload_n 1, 1) := by decide +kernel
theorem dX8_toldSet_60 : decode cX8_toldSet 60 = .ok (.iconst 5, 1) := by decide +kernel
theorem dX8_toldSet_61 : decode cX8_toldSet 61 = .ok (.if_icmp .ne 10, 3) := by decide +kernel
theorem dX8_toldSet_64 : decode cX8_toldSet 64 = .ok (.aload_n 0, 1) := by decide +kernel
theorem dX8_toldSet_65 : decode cX8_toldSet 65 = .ok (.getfield 132, 3) := by decide +kernel
theorem dX8_toldSet_68 : decode cX8_toldSet 68 = .ok (.goto 7, 3) := by decide +kernel
theorem dX8_toldSet_71 : decode cX8_toldSet 71 = .ok (.aload_n 0, 1) := by decide +kernel
theorem dX8_toldSet_72 : decode cX8_toldSet 72 = .ok (.getfield 96, 3) := by decide +kernel
theorem dX8_toldSet_75 : decode cX8_toldSet 75 = .ok (.ireturn, 1) := by decide +kernel
set_option maxRecDepth 20000 in
theorem ggX8_set_X8_maySet : GoodIn wsX8_set wsX8_maySet := goodIn_r _ [11, 12, 13, 14, 15, 16, 17, 10, 18, 19, 20, 21] (by decide +kernel) (by decide +kernel)
set_option maxRecDepth 20000 in
theorem gX8_set_X8_maySet : GoodIn wsX8_set (va_wsS RX8 135 yX8_maySet wsX8_maySet) := goodIn_app (goodIn_of _ (by decide +kernel)) ggX8_set_X8_maySet
set_option maxRecDepth 20000 in
theorem ggX8_set_X8_toldSet : GoodIn wsX8_set wsX8_toldSet := goodIn_r _ [25, 1, 2, 3, 4, 5, 6, 7, 26, 27, 28, 29, 30, 31, 32, 33, 34, 35, 36, 37, 38, 39, 40, 41, 42, 43, 44, 45, 46, 47, 48, 49, 50, 51, 52, 53, 54, 55, 56, 57, 58, 59, 60, 61, 62, 63, 64, 65, 66, 67, 68, 69, 70, 71] (by decide +kernel) (by decide +kernel)
set_option maxRecDepth 20000 in
theorem gX8_set_X8_toldSet : GoodIn wsX8_set (wsV RX8 139 RX8 yX8_toldSet wsX8_toldSet) := goodIn_app (goodIn_of _ (by decide +kernel)) ggX8_set_X8_toldSet
theorem dX8_set_0 : decode cX8_set 0 = .ok (.iload_n 1, 1) := by decide +kernel
theorem dX8_set_1 : decode cX8_set 1 = .ok (.iload_n 2, 1) := by decide +kernel
theorem dX8_set_2 : decode cX8_set 2 = .ok (.invokestatic 135, 3) := by decide +kernel
theorem dX8_set_5 : decode cX8_set 5 = .ok (.ifCond .ne 6, 3) := by decide +kernel
theorem dX8_set_8 : decode cX8_set 8 = .ok (.bipush (-2), 2) := by decide +kernel
theorem dX8_set_10 : decode cX8_set 10 = .ok (.ireturn, 1) := by decide +kernel
theorem dX8_set_11 : decode cX8_set 11 = .ok (.aload_n 0, 1) := by decide +kernel
theorem dX8_set_12 : decode cX8_set 12 = .ok (.iload_n 1, 1) := by decide +kernel
theorem dX8_set_13 : decode cX8_set 13 = .ok (.invokevirtual 139, 3) := by decide +kernel
theorem dX8_set_16 : decode cX8_set 16 = .ok (.istore_n 3, 1) := by decide +kernel
theorem dX8_set_17 : decode cX8_set 17 = .ok (.aload_n 0, 1) := by decide +kernel
theorem dX8_set_18 : decode cX8_set 18 = .ok (.iload_n 1, 1) := by decide +kernel
theorem dX8_set_19 : decode cX8_set 19 = .ok (.ifCond .ne 7, 3) := by decide +kernel
theorem dX8_set_22 : decode cX8_set 22 = .ok (.iload_n 2, 1) := by decide +kernel
theorem dX8_set_23 : decode cX8_set 23 = .ok (.goto 7, 3) := by decide +kernel
theorem dX8_set_26 : decode cX8_set 26 = .ok (.aload_n 0, 1) := by decide +kernel
theorem dX8_set_27 : decode cX8_set 27 = .ok (.getfield 80, 3) := by decide +kernel
theorem dX8_set_30 : decode cX8_set 30 = .ok (.putfield 80, 3) := by decide +kernel
theorem dX8_set_33 : decode cX8_set 33 = .ok (.aload_n 0, 1) := by decide +kernel
theorem dX8_set_34 : decode cX8_set 34 = .ok (.iload_n 1, 1) := by decide +kernel
theorem dX8_set_35 : decode cX8_set 35 = .ok (.iconst 1, 1) := by decide +kernel
theorem dX8_set_36 : decode cX8_set 36 = .ok (.if_icmp .ne 7, 3) := by decide +kernel
theorem dX8_set_39 : decode cX8_set 39 = .ok (.iload_n 2, 1) := by decide +kernel
theorem dX8_set_40 : decode cX8_set 40 = .ok (.goto 7, 3) := by decide +kernel
theorem dX8_set_43 : decode cX8_set 43 = .ok (.aload_n 0, 1) := by decide +kernel
theorem dX8_set_44 : decode cX8_set 44 = .ok (.getfield 84, 3) := by decide +kernel
theorem dX8_set_47 : decode cX8_set 47 = .ok (.putfield 84, 3) := by decide +kernel
theorem dX8_set_50 : decode cX8_set 50 = .ok (.aload_n 0, 1) := by decide +kernel
theorem dX8_set_51 : decode cX8_set 51 = .ok (.iload_n 1, 1) := by decide +kernel
theorem dX8_set_52 : decode cX8_set 52 = .ok (.iconst 2, 1) := by decide +kernel
theorem dX8_set_53 : decode cX8_set 53 = .ok (.if_icmp .ne 7, 3) := by decide +kernel
theorem dX8_set_56 : decode cX8_set 56 = .ok (.iload_n 2, 1) := by decide +kernel
theorem dX8_set_57 : decode cX8_set 57 = .ok (.goto 7, 3) := by decide +kernel
theorem dX8_set_60 : decode cX8_set 60 = .ok (.aload_n 0, 1) := by decide +kernel
theorem dX8_set_61 : decode cX8_set 61 = .ok (.getfield 87, 3) := by decide +kernel
theorem dX8_set_64 : decode cX8_set 64 = .ok (.putfield 87, 3) := by decide +kernel
theorem dX8_set_67 : decode cX8_set 67 = .ok (.aload_n 0, 1) := by decide +kernel
theorem dX8_set_68 : decode cX8_set 68 = .ok (.iload_n 1, 1) := by decide +kernel
theorem dX8_set_69 : decode cX8_set 69 = .ok (.iconst 3, 1) := by decide +kernel
theorem dX8_set_70 : decode cX8_set 70 = .ok (.if_icmp .ne 7, 3) := by decide +kernel
theorem dX8_set_73 : decode cX8_set 73 = .ok (.iload_n 2, 1) := by decide +kernel
theorem dX8_set_74 : decode cX8_set 74 = .ok (.goto 7, 3) := by decide +kernel
theorem dX8_set_77 : decode cX8_set 77 = .ok (.aload_n 0, 1) := by decide +kernel
theorem dX8_set_78 : decode cX8_set 78 = .ok (.getfield 90, 3) := by decide +kernel
theorem dX8_set_81 : decode cX8_set 81 = .ok (.putfield 90, 3) := by decide +kernel
theorem dX8_set_84 : decode cX8_set 84 = .ok (.aload_n 0, 1) := by decide +kernel
theorem dX8_set_85 : decode cX8_set 85 = .ok (.iload_n 1, 1) := by decide +kernel
theorem dX8_set_86 : decode cX8_set 86 = .ok (.iconst 4, 1) := by decide +kernel
theorem dX8_set_87 : decode cX8_set 87 = .ok (.if_icmp .ne 7, 3) := by decide +kernel
theorem dX8_set_90 : decode cX8_set 90 = .ok (.iload_n 2, 1) := by decide +kernel
theorem dX8_set_91 : decode cX8_set 91 = .ok (.goto 7, 3) := by decide +kernel
theorem dX8_set_94 : decode cX8_set 94 = .ok (.aload_n 0, 1) := by decide +kernel
theorem dX8_set_95 : decode cX8_set 95 = .ok (.getfield 93, 3) := by decide +kernel
theorem dX8_set_98 : decode cX8_set 98 = .ok (.putfield 93, 3) := by decide +kernel
theorem dX8_set_101 : decode cX8_set 101 = .ok (.aload_n 0, 1) := by decide +kernel
theorem dX8_set_102 : decode cX8_set 102 = .ok (.iload_n 1, 1) := by decide +kernel
theorem dX8_set_103 : decode cX8_set 103 = .ok (.iconst 5, 1) := by decide +kernel
theorem dX8_set_104 : decode cX8_set 104 = .ok (.if_icmp .ne 7, 3) := by decide +kernel
theorem dX8_set_107 : decode cX8_set 107 = .ok (.iload_n 2, 1) := by decide +kernel
theorem dX8_set_108 : decode cX8_set 108 = .ok (.goto 7, 3) := by decide +kernel
theorem dX8_set_111 : decode cX8_set 111 = .ok (.aload_n 0, 1) := by decide +kernel
theorem dX8_set_112 : decode cX8_set 112 = .ok (.getfield 132, 3) := by decide +kernel
theorem dX8_set_115 : decode cX8_set 115 = .ok (.putfield 132, 3) := by decide +kernel
theorem dX8_set_118 : decode cX8_set 118 = .ok (.aload_n 0, 1) := by decide +kernel
theorem dX8_set_119 : decode cX8_set 119 = .ok (.iload_n 1, 1) := by decide +kernel
theorem dX8_set_120 : decode cX8_set 120 = .ok (.bipush 6, 2) := by decide +kernel
theorem dX8_set_122 : decode cX8_set 122 = .ok (.if_icmp .ne 7, 3) := by decide +kernel
theorem dX8_set_125 : decode cX8_set 125 = .ok (.iload_n 2, 1) := by decide +kernel
theorem dX8_set_126 : decode cX8_set 126 = .ok (.goto 7, 3) := by decide +kernel
theorem dX8_set_129 : decode cX8_set 129 = .ok (.aload_n 0, 1) := by decide +kernel
theorem dX8_set_130 : decode cX8_set 130 = .ok (.getfield 96, 3) := by decide +kernel
theorem dX8_set_133 : decode cX8_set 133 = .ok (.putfield 96, 3) := by decide +kernel
theorem dX8_set_136 : decode cX8_set 136 = .ok (.iload_n 3, 1) := by decide +kernel
theorem dX8_set_137 : decode cX8_set 137 = .ok (.ireturn, 1) := by decide +kernel
set_option maxRecDepth 20000 in
theorem ggX8_say_X8_in : GoodIn wsX8_say wsX8_in := goodIn_r _ [8] (by decide +kernel) (by decide +kernel)
set_option maxRecDepth 20000 in
theorem gX8_say_X8_in : GoodIn wsX8_say (va_wsS RX8 101 yX8_in wsX8_in) := goodIn_app (goodIn_of _ (by decide +kernel)) ggX8_say_X8_in
theorem dX8_say_0 : decode cX8_say 0 = .ok (.iload_n 1, 1) := by decide +kernel
theorem dX8_say_1 : decode cX8_say 1 = .ok (.i2l, 1) := by decide +kernel
theorem dX8_say_2 : decode cX8_say 2 = .ok (.ldc2_w 142, 3) := by decide +kernel
theorem dX8_say_5 : decode cX8_say 5 = .ok (.ldc2_w 144, 3) := by decide +kernel
theorem dX8_say_8 : decode cX8_say 8 = .ok (.invokestatic 101, 3) := by decide +kernel
theorem dX8_say_11 : decode cX8_say 11 = .ok (.ifCond .ne 6, 3) := by decide +kernel
theorem dX8_say_14 : decode cX8_say 14 = .ok (.bipush (-2), 2) := by decide +kernel
theorem dX8_say_16 : decode cX8_say 16 = .ok (.ireturn, 1) := by decide +kernel
theorem dX8_say_17 : decode cX8_say 17 = .ok (.aload_n 0, 1) := by decide +kernel
theorem dX8_say_18 : decode cX8_say 18 = .ok (.getfield 146, 3) := by decide +kernel
theorem dX8_say_21 : decode cX8_say 21 = .ok (.bipush 60, 2) := by decide +kernel
theorem dX8_say_23 : decode cX8_say 23 = .ok (.if_icmp .ne 6, 3) := by decide +kernel
theorem dX8_say_26 : decode cX8_say 26 = .ok (.bipush (-4), 2) := by decide +kernel
theorem dX8_say_28 : decode cX8_say 28 = .ok (.ireturn, 1) := by decide +kernel
theorem dX8_say_29 : decode cX8_say 29 = .ok (.aload_n 0, 1) := by decide +kernel
theorem dX8_say_30 : decode cX8_say 30 = .ok (.getfield 40, 3) := by decide +kernel
theorem dX8_say_33 : decode cX8_say 33 = .ok (.aload_n 0, 1) := by decide +kernel
theorem dX8_say_34 : decode cX8_say 34 = .ok (.getfield 146, 3) := by decide +kernel
theorem dX8_say_37 : decode cX8_say 37 = .ok (.iload_n 1, 1) := by decide +kernel
theorem dX8_say_38 : decode cX8_say 38 = .ok (.iastore, 1) := by decide +kernel
theorem dX8_say_39 : decode cX8_say 39 = .ok (.aload_n 0, 1) := by decide +kernel
theorem dX8_say_40 : decode cX8_say 40 = .ok (.dup, 1) := by decide +kernel
theorem dX8_say_41 : decode cX8_say 41 = .ok (.getfield 146, 3) := by decide +kernel
theorem dX8_say_44 : decode cX8_say 44 = .ok (.iconst 1, 1) := by decide +kernel
theorem dX8_say_45 : decode cX8_say 45 = .ok (.iadd, 1) := by decide +kernel
theorem dX8_say_46 : decode cX8_say 46 = .ok (.putfield 146, 3) := by decide +kernel
theorem dX8_say_49 : decode cX8_say 49 = .ok (.aload_n 0, 1) := by decide +kernel
theorem dX8_say_50 : decode cX8_say 50 = .ok (.getfield 146, 3) := by decide +kernel
theorem dX8_say_53 : decode cX8_say 53 = .ok (.ireturn, 1) := by decide +kernel
theorem dX8_wipe_0 : decode cX8_wipe 0 = .ok (.aload_n 0, 1) := by decide +kernel
theorem dX8_wipe_1 : decode cX8_wipe 1 = .ok (.getfield 146, 3) := by decide +kernel
theorem dX8_wipe_4 : decode cX8_wipe 4 = .ok (.istore_n 1, 1) := by decide +kernel
theorem dX8_wipe_5 : decode cX8_wipe 5 = .ok (.aload_n 0, 1) := by decide +kernel
theorem dX8_wipe_6 : decode cX8_wipe 6 = .ok (.iconst 0, 1) := by decide +kernel
theorem dX8_wipe_7 : decode cX8_wipe 7 = .ok (.putfield 146, 3) := by decide +kernel
theorem dX8_wipe_10 : decode cX8_wipe 10 = .ok (.iload_n 1, 1) := by decide +kernel
theorem dX8_wipe_11 : decode cX8_wipe 11 = .ok (.ireturn, 1) := by decide +kernel
set_option maxRecDepth 20000 in
theorem ggX8_readsDare_X8_in : GoodIn wsX8_readsDare wsX8_in := goodIn_r _ [14] (by decide +kernel) (by decide +kernel)
set_option maxRecDepth 20000 in
theorem gX8_readsDare_X8_in : GoodIn wsX8_readsDare (va_wsS RX8 101 yX8_in wsX8_in) := goodIn_app (goodIn_of _ (by decide +kernel)) ggX8_readsDare_X8_in
set_option maxRecDepth 20000 in
theorem ggX8_readsDare_X8_isHeight : GoodIn wsX8_readsDare wsX8_isHeight := goodIn_r _ [17, 18, 11, 12, 13, 14] (by decide +kernel) (by decide +kernel)
set_option maxRecDepth 20000 in
theorem gX8_readsDare_X8_isHeight : GoodIn wsX8_readsDare (va_wsS RX8 162 yX8_isHeight wsX8_isHeight) := goodIn_app (goodIn_of _ (by decide +kernel)) ggX8_readsDare_X8_isHeight
theorem dX8_readsDare_0 : decode cX8_readsDare 0 = .ok (.iload_n 1, 1) := by decide +kernel
theorem dX8_readsDare_1 : decode cX8_readsDare 1 = .ok (.iconst 2, 1) := by decide +kernel
theorem dX8_readsDare_2 : decode cX8_readsDare 2 = .ok (.if_icmp .ge 57, 3) := by decide +kernel
theorem dX8_readsDare_5 : decode cX8_readsDare 5 = .ok (.aload_n 0, 1) := by decide +kernel
theorem dX8_readsDare_6 : decode cX8_readsDare 6 = .ok (.getfield 46, 3) := by decide +kernel
theorem dX8_readsDare_9 : decode cX8_readsDare 9 = .ok (.aload_n 0, 1) := by decide +kernel
theorem dX8_readsDare_10 : decode cX8_readsDare 10 = .ok (.getfield 149, 3) := by decide +kernel
theorem dX8_readsDare_13 : decode cX8_readsDare 13 = .ok (.iload_n 1, 1) := by decide +kernel
theorem dX8_readsDare_14 : decode cX8_readsDare 14 = .ok (.ifCond .ne 10, 3) := by decide +kernel
theorem dX8_readsDare_17 : decode cX8_readsDare 17 = .ok (.iload_n 2, 1) := by decide +kernel
theorem dX8_readsDare_18 : decode cX8_readsDare 18 = .ok (.bipush 65, 2) := by decide +kernel
theorem dX8_readsDare_20 : decode cX8_readsDare 20 = .ok (.isub, 1) := by decide +kernel
theorem dX8_readsDare_21 : decode cX8_readsDare 21 = .ok (.goto 12, 3) := by decide +kernel
theorem dX8_readsDare_24 : decode cX8_readsDare 24 = .ok (.aload_n 0, 1) := by decide +kernel
theorem dX8_readsDare_25 : decode cX8_readsDare 25 = .ok (.getfield 46, 3) := by decide +kernel
theorem dX8_readsDare_28 : decode cX8_readsDare 28 = .ok (.aload_n 0, 1) := by decide +kernel
theorem dX8_readsDare_29 : decode cX8_readsDare 29 = .ok (.getfield 149, 3) := by decide +kernel
theorem dX8_readsDare_32 : decode cX8_readsDare 32 = .ok (.iaload, 1) := by decide +kernel
theorem dX8_readsDare_33 : decode cX8_readsDare 33 = .ok (.iastore, 1) := by decide +kernel
theorem dX8_readsDare_34 : decode cX8_readsDare 34 = .ok (.aload_n 0, 1) := by decide +kernel
theorem dX8_readsDare_35 : decode cX8_readsDare 35 = .ok (.getfield 49, 3) := by decide +kernel
theorem dX8_readsDare_38 : decode cX8_readsDare 38 = .ok (.aload_n 0, 1) := by decide +kernel
theorem dX8_readsDare_39 : decode cX8_readsDare 39 = .ok (.getfield 149, 3) := by decide +kernel
theorem dX8_readsDare_42 : decode cX8_readsDare 42 = .ok (.iload_n 2, 1) := by decide +kernel
theorem dX8_readsDare_43 : decode cX8_readsDare 43 = .ok (.bipush 65, 2) := by decide +kernel
theorem dX8_readsDare_45 : decode cX8_readsDare 45 = .ok (.isub, 1) := by decide +kernel
theorem dX8_readsDare_46 : decode cX8_readsDare 46 = .ok (.iastore, 1) := by decide +kernel
theorem dX8_readsDare_47 : decode cX8_readsDare 47 = .ok (.iload_n 2, 1) := by decide +kernel
theorem dX8_readsDare_48 : decode cX8_readsDare 48 = .ok (.i2l, 1) := by decide +kernel
theorem dX8_readsDare_49 : decode cX8_readsDare 49 = .ok (.ldc2_w 152, 3) := by decide +kernel
theorem dX8_readsDare_52 : decode cX8_readsDare 52 = .ok (.ldc2_w 154, 3) := by decide +kernel
theorem dX8_readsDare_55 : decode cX8_readsDare 55 = .ok (.invokestatic 101, 3) := by decide +kernel
theorem dX8_readsDare_58 : decode cX8_readsDare 58 = .ok (.ireturn, 1) := by decide +kernel
theorem dX8_readsDare_59 : decode cX8_readsDare 59 = .ok (.iload_n 1, 1) := by decide +kernel
theorem dX8_readsDare_60 : decode cX8_readsDare 60 = .ok (.iconst 2, 1) := by decide +kernel
theorem dX8_readsDare_61 : decode cX8_readsDare 61 = .ok (.if_icmp .ne 31, 3) := by decide +kernel
theorem dX8_readsDare_64 : decode cX8_readsDare 64 = .ok (.aload_n 0, 1) := by decide +kernel
theorem dX8_readsDare_65 : decode cX8_readsDare 65 = .ok (.getfield 52, 3) := by decide +kernel
theorem dX8_readsDare_68 : decode cX8_readsDare 68 = .ok (.aload_n 0, 1) := by decide +kernel
theorem dX8_readsDare_69 : decode cX8_readsDare 69 = .ok (.getfield 149, 3) := by decide +kernel
theorem dX8_readsDare_72 : decode cX8_readsDare 72 = .ok (.bipush 10, 2) := by decide +kernel
theorem dX8_readsDare_74 : decode cX8_readsDare 74 = .ok (.iload_n 2, 1) := by decide +kernel
theorem dX8_readsDare_75 : decode cX8_readsDare 75 = .ok (.bipush 48, 2) := by decide +kernel
theorem dX8_readsDare_77 : decode cX8_readsDare 77 = .ok (.isub, 1) := by decide +kernel
theorem dX8_readsDare_78 : decode cX8_readsDare 78 = .ok (.imul, 1) := by decide +kernel
theorem dX8_readsDare_79 : decode cX8_readsDare 79 = .ok (.iastore, 1) := by decide +kernel
theorem dX8_readsDare_80 : decode cX8_readsDare 80 = .ok (.iload_n 2, 1) := by decide +kernel
theorem dX8_readsDare_81 : decode cX8_readsDare 81 = .ok (.i2l, 1) := by decide +kernel
theorem dX8_readsDare_82 : decode cX8_readsDare 82 = .ok (.ldc2_w 156, 3) := by decide +kernel
theorem dX8_readsDare_85 : decode cX8_readsDare 85 = .ok (.ldc2_w 158, 3) := by decide +kernel
theorem dX8_readsDare_88 : decode cX8_readsDare 88 = .ok (.invokestatic 101, 3) := by decide +kernel
theorem dX8_readsDare_91 : decode cX8_readsDare 91 = .ok (.ireturn, 1) := by decide +kernel
theorem dX8_readsDare_92 : decode cX8_readsDare 92 = .ok (.iload_n 1, 1) := by decide +kernel
theorem dX8_readsDare_93 : decode cX8_readsDare 93 = .ok (.iconst 3, 1) := by decide +kernel
theorem dX8_readsDare_94 : decode cX8_readsDare 94 = .ok (.if_icmp .ne 54, 3) := by decide +kernel
theorem dX8_readsDare_97 : decode cX8_readsDare 97 = .ok (.aload_n 0, 1) := by decide +kernel
theorem dX8_readsDare_98 : decode cX8_readsDare 98 = .ok (.getfield 52, 3) := by decide +kernel
theorem dX8_readsDare_101 : decode cX8_readsDare 101 = .ok (.aload_n 0, 1) := by decide +kernel
theorem dX8_readsDare_102 : decode cX8_readsDare 102 = .ok (.getfield 149, 3) := by decide +kernel
theorem dX8_readsDare_105 : decode cX8_readsDare 105 = .ok (.dup2, 1) := by decide +kernel
theorem dX8_readsDare_106 : decode cX8_readsDare 106 = .ok (.iaload, 1) := by decide +kernel
theorem dX8_readsDare_107 : decode cX8_readsDare 107 = .ok (.iload_n 2, 1) := by decide +kernel
theorem dX8_readsDare_108 : decode cX8_readsDare 108 = .ok (.bipush 48, 2) := by decide +kernel
theorem dX8_readsDare_110 : decode cX8_readsDare 110 = .ok (.isub, 1) := by decide +kernel
theorem dX8_readsDare_111 : decode cX8_readsDare 111 = .ok (.iadd, 1) := by decide +kernel
theorem dX8_readsDare_112 : decode cX8_readsDare 112 = .ok (.iastore, 1) := by decide +kernel
theorem dX8_readsDare_113 : decode cX8_readsDare 113 = .ok (.iload_n 2, 1) := by decide +kernel
theorem dX8_readsDare_114 : decode cX8_readsDare 114 = .ok (.i2l, 1) := by decide +kernel
theorem dX8_readsDare_115 : decode cX8_readsDare 115 = .ok (.ldc2_w 156, 3) := by decide +kernel
theorem dX8_readsDare_118 : decode cX8_readsDare 118 = .ok (.ldc2_w 160, 3) := by decide +kernel
theorem dX8_readsDare_121 : decode cX8_readsDare 121 = .ok (.invokestatic 101, 3) := by decide +kernel
theorem dX8_readsDare_124 : decode cX8_readsDare 124 = .ok (.ifCond .eq 22, 3) := by decide +kernel
theorem dX8_readsDare_127 : decode cX8_readsDare 127 = .ok (.aload_n 0, 1) := by decide +kernel
theorem dX8_readsDare_128 : decode cX8_readsDare 128 = .ok (.getfield 52, 3) := by decide +kernel
theorem dX8_readsDare_131 : decode cX8_readsDare 131 = .ok (.aload_n 0, 1) := by decide +kernel
theorem dX8_readsDare_132 : decode cX8_readsDare 132 = .ok (.getfield 149, 3) := by decide +kernel
theorem dX8_readsDare_135 : decode cX8_readsDare 135 = .ok (.iaload, 1) := by decide +kernel
theorem dX8_readsDare_136 : decode cX8_readsDare 136 = .ok (.invokestatic 162, 3) := by decide +kernel
theorem dX8_readsDare_139 : decode cX8_readsDare 139 = .ok (.ifCond .eq 7, 3) := by decide +kernel
theorem dX8_readsDare_142 : decode cX8_readsDare 142 = .ok (.iconst 1, 1) := by decide +kernel
theorem dX8_readsDare_143 : decode cX8_readsDare 143 = .ok (.goto 4, 3) := by decide +kernel
theorem dX8_readsDare_146 : decode cX8_readsDare 146 = .ok (.iconst 0, 1) := by decide +kernel
theorem dX8_readsDare_147 : decode cX8_readsDare 147 = .ok (.ireturn, 1) := by decide +kernel
theorem dX8_readsDare_148 : decode cX8_readsDare 148 = .ok (.aload_n 0, 1) := by decide +kernel
theorem dX8_readsDare_149 : decode cX8_readsDare 149 = .ok (.getfield 43, 3) := by decide +kernel
theorem dX8_readsDare_152 : decode cX8_readsDare 152 = .ok (.aload_n 0, 1) := by decide +kernel
theorem dX8_readsDare_153 : decode cX8_readsDare 153 = .ok (.getfield 149, 3) := by decide +kernel
theorem dX8_readsDare_156 : decode cX8_readsDare 156 = .ok (.iload_n 2, 1) := by decide +kernel
theorem dX8_readsDare_157 : decode cX8_readsDare 157 = .ok (.iastore, 1) := by decide +kernel
theorem dX8_readsDare_158 : decode cX8_readsDare 158 = .ok (.iload_n 2, 1) := by decide +kernel
theorem dX8_readsDare_159 : decode cX8_readsDare 159 = .ok (.bipush 43, 2) := by decide +kernel
theorem dX8_readsDare_161 : decode cX8_readsDare 161 = .ok (.if_icmp .eq 15, 3) := by decide +kernel
theorem dX8_readsDare_164 : decode cX8_readsDare 164 = .ok (.iload_n 2, 1) := by decide +kernel
theorem dX8_readsDare_165 : decode cX8_readsDare 165 = .ok (.bipush 45, 2) := by decide +kernel
theorem dX8_readsDare_167 : decode cX8_readsDare 167 = .ok (.if_icmp .eq 9, 3) := by decide +kernel
theorem dX8_readsDare_170 : decode cX8_readsDare 170 = .ok (.iload_n 2, 1) := by decide +kernel
theorem dX8_readsDare_171 : decode cX8_readsDare 171 = .ok (.bipush 42, 2) := by decide +kernel
theorem dX8_readsDare_173 : decode cX8_readsDare 173 = .ok (.if_icmp .ne 7, 3) := by decide +kernel
theorem dX8_readsDare_176 : decode cX8_readsDare 176 = .ok (.iconst 1, 1) := by decide +kernel
theorem dX8_readsDare_177 : decode cX8_readsDare 177 = .ok (.goto 4, 3) := by decide +kernel
theorem dX8_readsDare_180 : decode cX8_readsDare 180 = .ok (.iconst 0, 1) := by decide +kernel
theorem dX8_readsDare_181 : decode cX8_readsDare 181 = .ok (.ireturn, 1) := by decide +kernel
set_option maxRecDepth 20000 in
theorem ggX8_fault_X8_readsDare : GoodIn wsX8_fault wsX8_readsDare := goodIn_r _ [9, 10, 1, 11, 12, 13, 14, 15, 16, 17, 4, 18, 19, 8, 20, 21, 22, 23, 24, 25, 26, 27, 28, 29, 30, 31, 32, 33, 34, 35, 36, 37, 38, 39, 40, 41, 42, 43, 44, 45, 46, 47, 48, 49, 50, 51, 52, 53, 54, 55, 56, 57, 58, 59, 60, 61, 62, 63, 64, 65, 66, 67, 68, 69, 70] (by decide +kernel) (by decide +kernel)
set_option maxRecDepth 20000 in
theorem gX8_fault_X8_readsDare : GoodIn wsX8_fault (wsV RX8 165 RX8 yX8_readsDare wsX8_readsDare) := goodIn_app (goodIn_of _ (by decide +kernel)) ggX8_fault_X8_readsDare
theorem dX8_fault_0 : decode cX8_fault 0 = .ok (.aload_n 0, 1) := by decide +kernel
theorem dX8_fault_1 : decode cX8_fault 1 = .ok (.iconst 0, 1) := by decide +kernel
theorem dX8_fault_2 : decode cX8_fault 2 = .ok (.putfield 149, 3) := by decide +kernel
theorem dX8_fault_5 : decode cX8_fault 5 = .ok (.iconst 0, 1) := by decide +kernel
theorem dX8_fault_6 : decode cX8_fault 6 = .ok (.istore_n 1, 1) := by decide +kernel
theorem dX8_fault_7 : decode cX8_fault 7 = .ok (.iconst 0, 1) := by decide +kernel
theorem dX8_fault_8 : decode cX8_fault 8 = .ok (.istore_n 2, 1) := by decide +kernel
theorem dX8_fault_9 : decode cX8_fault 9 = .ok (.iload_n 2, 1) := by decide +kernel
theorem dX8_fault_10 : decode cX8_fault 10 = .ok (.aload_n 0, 1) := by decide +kernel
theorem dX8_fault_11 : decode cX8_fault 11 = .ok (.getfield 146, 3) := by decide +kernel
theorem dX8_fault_14 : decode cX8_fault 14 = .ok (.if_icmp .ge 94, 3) := by decide +kernel
theorem dX8_fault_17 : decode cX8_fault 17 = .ok (.iload_n 1, 1) := by decide +kernel
theorem dX8_fault_18 : decode cX8_fault 18 = .ok (.ifCond .ne 37, 3) := by decide +kernel
theorem dX8_fault_21 : decode cX8_fault 21 = .ok (.aload_n 0, 1) := by decide +kernel
theorem dX8_fault_22 : decode cX8_fault 22 = .ok (.getfield 40, 3) := by decide +kernel
theorem dX8_fault_25 : decode cX8_fault 25 = .ok (.iload_n 2, 1) := by decide +kernel
theorem dX8_fault_26 : decode cX8_fault 26 = .ok (.iaload, 1) := by decide +kernel
theorem dX8_fault_27 : decode cX8_fault 27 = .ok (.bipush 46, 2) := by decide +kernel
theorem dX8_fault_29 : decode cX8_fault 29 = .ok (.if_icmp .ne 26, 3) := by decide +kernel
theorem dX8_fault_32 : decode cX8_fault 32 = .ok (.aload_n 0, 1) := by decide +kernel
theorem dX8_fault_33 : decode cX8_fault 33 = .ok (.getfield 43, 3) := by decide +kernel
theorem dX8_fault_36 : decode cX8_fault 36 = .ok (.aload_n 0, 1) := by decide +kernel
theorem dX8_fault_37 : decode cX8_fault 37 = .ok (.getfield 149, 3) := by decide +kernel
theorem dX8_fault_40 : decode cX8_fault 40 = .ok (.iconst 0, 1) := by decide +kernel
theorem dX8_fault_41 : decode cX8_fault 41 = .ok (.iastore, 1) := by decide +kernel
theorem dX8_fault_42 : decode cX8_fault 42 = .ok (.aload_n 0, 1) := by decide +kernel
theorem dX8_fault_43 : decode cX8_fault 43 = .ok (.dup, 1) := by decide +kernel
theorem dX8_fault_44 : decode cX8_fault 44 = .ok (.getfield 149, 3) := by decide +kernel
theorem dX8_fault_47 : decode cX8_fault 47 = .ok (.iconst 1, 1) := by decide +kernel
theorem dX8_fault_48 : decode cX8_fault 48 = .ok (.iadd, 1) := by decide +kernel
theorem dX8_fault_49 : decode cX8_fault 49 = .ok (.putfield 149, 3) := by decide +kernel
theorem dX8_fault_52 : decode cX8_fault 52 = .ok (.goto 50, 3) := by decide +kernel
theorem dX8_fault_55 : decode cX8_fault 55 = .ok (.aload_n 0, 1) := by decide +kernel
theorem dX8_fault_56 : decode cX8_fault 56 = .ok (.iload_n 1, 1) := by decide +kernel
theorem dX8_fault_57 : decode cX8_fault 57 = .ok (.aload_n 0, 1) := by decide +kernel
theorem dX8_fault_58 : decode cX8_fault 58 = .ok (.getfield 40, 3) := by decide +kernel
theorem dX8_fault_61 : decode cX8_fault 61 = .ok (.iload_n 2, 1) := by decide +kernel
theorem dX8_fault_62 : decode cX8_fault 62 = .ok (.iaload, 1) := by decide +kernel
theorem dX8_fault_63 : decode cX8_fault 63 = .ok (.invokevirtual 165, 3) := by decide +kernel
theorem dX8_fault_66 : decode cX8_fault 66 = .ok (.ifCond .ne 5, 3) := by decide +kernel
theorem dX8_fault_69 : decode cX8_fault 69 = .ok (.iload_n 2, 1) := by decide +kernel
theorem dX8_fault_70 : decode cX8_fault 70 = .ok (.ireturn, 1) := by decide +kernel
theorem dX8_fault_71 : decode cX8_fault 71 = .ok (.iload_n 1, 1) := by decide +kernel
theorem dX8_fault_72 : decode cX8_fault 72 = .ok (.iconst 4, 1) := by decide +kernel
theorem dX8_fault_73 : decode cX8_fault 73 = .ok (.if_icmp .ne 7, 3) := by decide +kernel
theorem dX8_fault_76 : decode cX8_fault 76 = .ok (.iconst 0, 1) := by decide +kernel
theorem dX8_fault_77 : decode cX8_fault 77 = .ok (.goto 6, 3) := by decide +kernel
theorem dX8_fault_80 : decode cX8_fault 80 = .ok (.iload_n 1, 1) := by decide +kernel
theorem dX8_fault_81 : decode cX8_fault 81 = .ok (.iconst 1, 1) := by decide +kernel
theorem dX8_fault_82 : decode cX8_fault 82 = .ok (.iadd, 1) := by decide +kernel
theorem dX8_fault_83 : decode cX8_fault 83 = .ok (.istore_n 1, 1) := by decide +kernel
theorem dX8_fault_84 : decode cX8_fault 84 = .ok (.aload_n 0, 1) := by decide +kernel
theorem dX8_fault_85 : decode cX8_fault 85 = .ok (.dup, 1) := by decide +kernel
theorem dX8_fault_86 : decode cX8_fault 86 = .ok (.getfield 149, 3) := by decide +kernel
theorem dX8_fault_89 : decode cX8_fault 89 = .ok (.iload_n 1, 1) := by decide +kernel
theorem dX8_fault_90 : decode cX8_fault 90 = .ok (.ifCond .ne 7, 3) := by decide +kernel
theorem dX8_fault_93 : decode cX8_fault 93 = .ok (.iconst 1, 1) := by decide +kernel
theorem dX8_fault_94 : decode cX8_fault 94 = .ok (.goto 4, 3) := by decide +kernel
theorem dX8_fault_97 : decode cX8_fault 97 = .ok (.iconst 0, 1) := by decide +kernel
theorem dX8_fault_98 : decode cX8_fault 98 = .ok (.iadd, 1) := by decide +kernel
theorem dX8_fault_99 : decode cX8_fault 99 = .ok (.putfield 149, 3) := by decide +kernel
theorem dX8_fault_102 : decode cX8_fault 102 = .ok (.iinc 2 1, 3) := by decide +kernel
theorem dX8_fault_105 : decode cX8_fault 105 = .ok (.goto (-96), 3) := by decide +kernel
theorem dX8_fault_108 : decode cX8_fault 108 = .ok (.iload_n 1, 1) := by decide +kernel
theorem dX8_fault_109 : decode cX8_fault 109 = .ok (.ifCond .le 10, 3) := by decide +kernel
theorem dX8_fault_112 : decode cX8_fault 112 = .ok (.aload_n 0, 1) := by decide +kernel
theorem dX8_fault_113 : decode cX8_fault 113 = .ok (.getfield 146, 3) := by decide +kernel
theorem dX8_fault_116 : decode cX8_fault 116 = .ok (.goto 5, 3) := by decide +kernel
theorem dX8_fault_119 : decode cX8_fault 119 = .ok (.bipush (-6), 2) := by decide +kernel
theorem dX8_fault_121 : decode cX8_fault 121 = .ok (.ireturn, 1) := by decide +kernel
theorem dX8_oddsOf_0 : decode cX8_oddsOf 0 = .ok (.iload_n 2, 1) := by decide +kernel
theorem dX8_oddsOf_1 : decode cX8_oddsOf 1 = .ok (.iconst 5, 1) := by decide +kernel
theorem dX8_oddsOf_2 : decode cX8_oddsOf 2 = .ok (.aload_n 0, 1) := by decide +kernel
theorem dX8_oddsOf_3 : decode cX8_oddsOf 3 = .ok (.getfield 132, 3) := by decide +kernel
theorem dX8_oddsOf_6 : decode cX8_oddsOf 6 = .ok (.imul, 1) := by decide +kernel
theorem dX8_oddsOf_7 : decode cX8_oddsOf 7 = .ok (.iadd, 1) := by decide +kernel
theorem dX8_oddsOf_8 : decode cX8_oddsOf 8 = .ok (.aload_n 0, 1) := by decide +kernel
theorem dX8_oddsOf_9 : decode cX8_oddsOf 9 = .ok (.getfield 7, 3) := by decide +kernel
theorem dX8_oddsOf_12 : decode cX8_oddsOf 12 = .ok (.iload_n 1, 1) := by decide +kernel
theorem dX8_oddsOf_13 : decode cX8_oddsOf 13 = .ok (.iaload, 1) := by decide +kernel
theorem dX8_oddsOf_14 : decode cX8_oddsOf 14 = .ok (.isub, 1) := by decide +kernel
theorem dX8_oddsOf_15 : decode cX8_oddsOf 15 = .ok (.iconst 2, 1) := by decide +kernel
theorem dX8_oddsOf_16 : decode cX8_oddsOf 16 = .ok (.idiv, 1) := by decide +kernel
theorem dX8_oddsOf_17 : decode cX8_oddsOf 17 = .ok (.istore_n 3, 1) := by decide +kernel
theorem dX8_oddsOf_18 : decode cX8_oddsOf 18 = .ok (.iload_n 3, 1) := by decide +kernel
theorem dX8_oddsOf_19 : decode cX8_oddsOf 19 = .ok (.ifCond .ge 7, 3) := by decide +kernel
theorem dX8_oddsOf_22 : decode cX8_oddsOf 22 = .ok (.iconst 0, 1) := by decide +kernel
theorem dX8_oddsOf_23 : decode cX8_oddsOf 23 = .ok (.goto 15, 3) := by decide +kernel
theorem dX8_oddsOf_26 : decode cX8_oddsOf 26 = .ok (.iload_n 3, 1) := by decide +kernel
theorem dX8_oddsOf_27 : decode cX8_oddsOf 27 = .ok (.bipush 10, 2) := by decide +kernel
theorem dX8_oddsOf_29 : decode cX8_oddsOf 29 = .ok (.if_icmp .le 8, 3) := by decide +kernel
theorem dX8_oddsOf_32 : decode cX8_oddsOf 32 = .ok (.bipush 10, 2) := by decide +kernel
theorem dX8_oddsOf_34 : decode cX8_oddsOf 34 = .ok (.goto 4, 3) := by decide +kernel
theorem dX8_oddsOf_37 : decode cX8_oddsOf 37 = .ok (.iload_n 3, 1) := by decide +kernel
theorem dX8_oddsOf_38 : decode cX8_oddsOf 38 = .ok (.ireturn, 1) := by decide +kernel
theorem dX8_draw_0 : decode cX8_draw 0 = .ok (.aload_n 0, 1) := by decide +kernel
theorem dX8_draw_1 : decode cX8_draw 1 = .ok (.ldc2_w 168, 3) := by decide +kernel
theorem dX8_draw_4 : decode cX8_draw 4 = .ok (.aload_n 0, 1) := by decide +kernel
theorem dX8_draw_5 : decode cX8_draw 5 = .ok (.getfield 96, 3) := by decide +kernel
theorem dX8_draw_8 : decode cX8_draw 8 = .ok (.i2l, 1) := by decide +kernel
theorem dX8_draw_9 : decode cX8_draw 9 = .ok (.lmul, 1) := by decide +kernel
theorem dX8_draw_10 : decode cX8_draw 10 = .ok (.ldc2_w 170, 3) := by decide +kernel
theorem dX8_draw_13 : decode cX8_draw 13 = .ok (.ladd, 1) := by decide +kernel
theorem dX8_draw_14 : decode cX8_draw 14 = .ok (.ldc2_w 172, 3) := by decide +kernel
theorem dX8_draw_17 : decode cX8_draw 17 = .ok (.lrem, 1) := by decide +kernel
theorem dX8_draw_18 : decode cX8_draw 18 = .ok (.l2i, 1) := by decide +kernel
theorem dX8_draw_19 : decode cX8_draw 19 = .ok (.putfield 96, 3) := by decide +kernel
theorem dX8_draw_22 : decode cX8_draw 22 = .ok (.aload_n 0, 1) := by decide +kernel
theorem dX8_draw_23 : decode cX8_draw 23 = .ok (.getfield 96, 3) := by decide +kernel
theorem dX8_draw_26 : decode cX8_draw 26 = .ok (.bipush 10, 2) := by decide +kernel
theorem dX8_draw_28 : decode cX8_draw 28 = .ok (.irem, 1) := by decide +kernel
theorem dX8_draw_29 : decode cX8_draw 29 = .ok (.ireturn, 1) := by decide +kernel
set_option maxRecDepth 20000 in
theorem ggX8_doIt_X8_most : GoodIn wsX8_doIt wsX8_most := goodIn_r _ [8] (by decide +kernel) (by decide +kernel)
set_option maxRecDepth 20000 in
theorem gX8_doIt_X8_most : GoodIn wsX8_doIt (va_wsS RX8 174 yX8_most wsX8_most) := goodIn_app (goodIn_of _ (by decide +kernel)) ggX8_doIt_X8_most
set_option maxRecDepth 20000 in
theorem ggX8_doIt_X8_draw : GoodIn wsX8_doIt wsX8_draw := goodIn_r _ [12, 13, 14, 15, 16, 23, 24, 25, 26, 27, 28, 29, 30, 31, 32, 33, 34, 35, 36, 37, 38, 39, 40, 41, 42, 43, 44, 45, 46, 47, 48, 49, 50, 51, 52, 53, 54, 55, 56, 57, 58, 59, 60, 61, 62, 63, 64, 65, 66, 67, 68] (by decide +kernel) (by decide +kernel)
set_option maxRecDepth 20000 in
theorem gX8_doIt_X8_draw : GoodIn wsX8_doIt (wsV RX8 178 RX8 yX8_draw wsX8_draw) := goodIn_app (goodIn_of _ (by decide +kernel)) ggX8_doIt_X8_draw
set_option maxRecDepth 20000 in
theorem ggX8_doIt_X8_oddsOf : GoodIn wsX8_doIt wsX8_oddsOf := goodIn_r _ [20, 21, 22, 23, 24, 25, 26, 27, 28, 29, 30, 31, 32, 33, 34, 35, 36, 37, 38, 39, 40, 41, 42, 43, 44, 45, 46, 47, 48, 49, 50, 51, 52, 53, 54, 55, 56, 57, 58, 59, 60, 61, 62, 63, 64, 65, 66, 67, 68] (by decide +kernel) (by decide +kernel)
set_option maxRecDepth 20000 in
theorem gX8_doIt_X8_oddsOf : GoodIn wsX8_doIt (wsV RX8 182 RX8 yX8_oddsOf wsX8_oddsOf) := goodIn_app (goodIn_of _ (by decide +kernel)) ggX8_doIt_X8_oddsOf
theorem dX8_doIt_0 : decode cX8_doIt 0 = .ok (.aload_n 0, 1) := by decide +kernel
theorem dX8_doIt_1 : decode cX8_doIt 1 = .ok (.getfield 22, 3) := by decide +kernel
theorem dX8_doIt_4 : decode cX8_doIt 4 = .ok (.iload_n 1, 1) := by decide +kernel
theorem dX8_doIt_5 : decode cX8_doIt 5 = .ok (.aload_n 0, 1) := by decide +kernel
theorem dX8_doIt_6 : decode cX8_doIt 6 = .ok (.getfield 22, 3) := by decide +kernel
theorem dX8_doIt_9 : decode cX8_doIt 9 = .ok (.iload_n 1, 1) := by decide +kernel
theorem dX8_doIt_10 : decode cX8_doIt 10 = .ok (.iaload, 1) := by decide +kernel
theorem dX8_doIt_11 : decode cX8_doIt 11 = .ok (.iload_n 2, 1) := by decide +kernel
theorem dX8_doIt_12 : decode cX8_doIt 12 = .ok (.invokestatic 174, 3) := by decide +kernel
theorem dX8_doIt_15 : decode cX8_doIt 15 = .ok (.iastore, 1) := by decide +kernel
theorem dX8_doIt_16 : decode cX8_doIt 16 = .ok (.aload_n 0, 1) := by decide +kernel
theorem dX8_doIt_17 : decode cX8_doIt 17 = .ok (.getfield 25, 3) := by decide +kernel
theorem dX8_doIt_20 : decode cX8_doIt 20 = .ok (.iload_n 1, 1) := by decide +kernel
theorem dX8_doIt_21 : decode cX8_doIt 21 = .ok (.dup2, 1) := by decide +kernel
theorem dX8_doIt_22 : decode cX8_doIt 22 = .ok (.iaload, 1) := by decide +kernel
theorem dX8_doIt_23 : decode cX8_doIt 23 = .ok (.iload_n 2, 1) := by decide +kernel
theorem dX8_doIt_24 : decode cX8_doIt 24 = .ok (.iadd, 1) := by decide +kernel
theorem dX8_doIt_25 : decode cX8_doIt 25 = .ok (.iastore, 1) := by decide +kernel
theorem dX8_doIt_26 : decode cX8_doIt 26 = .ok (.aload_n 0, 1) := by decide +kernel
theorem dX8_doIt_27 : decode cX8_doIt 27 = .ok (.invokevirtual 178, 3) := by decide +kernel
theorem dX8_doIt_30 : decode cX8_doIt 30 = .ok (.aload_n 0, 1) := by decide +kernel
theorem dX8_doIt_31 : decode cX8_doIt 31 = .ok (.iload_n 1, 1) := by decide +kernel
theorem dX8_doIt_32 : decode cX8_doIt 32 = .ok (.iload_n 2, 1) := by decide +kernel
theorem dX8_doIt_33 : decode cX8_doIt 33 = .ok (.invokevirtual 182, 3) := by decide +kernel
theorem dX8_doIt_36 : decode cX8_doIt 36 = .ok (.if_icmp .ge 7, 3) := by decide +kernel
theorem dX8_doIt_39 : decode cX8_doIt 39 = .ok (.iconst 1, 1) := by decide +kernel
theorem dX8_doIt_40 : decode cX8_doIt 40 = .ok (.goto 4, 3) := by decide +kernel
theorem dX8_doIt_43 : decode cX8_doIt 43 = .ok (.iconst 0, 1) := by decide +kernel
theorem dX8_doIt_44 : decode cX8_doIt 44 = .ok (.istore_n 3, 1) := by decide +kernel
theorem dX8_doIt_45 : decode cX8_doIt 45 = .ok (.aload_n 0, 1) := by decide +kernel
theorem dX8_doIt_46 : decode cX8_doIt 46 = .ok (.getfield 28, 3) := by decide +kernel
theorem dX8_doIt_49 : decode cX8_doIt 49 = .ok (.iload_n 1, 1) := by decide +kernel
theorem dX8_doIt_50 : decode cX8_doIt 50 = .ok (.iload_n 3, 1) := by decide +kernel
theorem dX8_doIt_51 : decode cX8_doIt 51 = .ok (.ifCond .eq 10, 3) := by decide +kernel
theorem dX8_doIt_54 : decode cX8_doIt 54 = .ok (.aload_n 0, 1) := by decide +kernel
theorem dX8_doIt_55 : decode cX8_doIt 55 = .ok (.getfield 93, 3) := by decide +kernel
theorem dX8_doIt_58 : decode cX8_doIt 58 = .ok (.goto 9, 3) := by decide +kernel
theorem dX8_doIt_61 : decode cX8_doIt 61 = .ok (.aload_n 0, 1) := by decide +kernel
theorem dX8_doIt_62 : decode cX8_doIt 62 = .ok (.getfield 28, 3) := by decide +kernel
theorem dX8_doIt_65 : decode cX8_doIt 65 = .ok (.iload_n 1, 1) := by decide +kernel
theorem dX8_doIt_66 : decode cX8_doIt 66 = .ok (.iaload, 1) := by decide +kernel
theorem dX8_doIt_67 : decode cX8_doIt 67 = .ok (.iastore, 1) := by decide +kernel
theorem dX8_doIt_68 : decode cX8_doIt 68 = .ok (.iload_n 3, 1) := by decide +kernel
theorem dX8_doIt_69 : decode cX8_doIt 69 = .ok (.ifCond .ne 7, 3) := by decide +kernel
theorem dX8_doIt_72 : decode cX8_doIt 72 = .ok (.iconst 1, 1) := by decide +kernel
theorem dX8_doIt_73 : decode cX8_doIt 73 = .ok (.goto 4, 3) := by decide +kernel
theorem dX8_doIt_76 : decode cX8_doIt 76 = .ok (.iconst 0, 1) := by decide +kernel
theorem dX8_doIt_77 : decode cX8_doIt 77 = .ok (.ireturn, 1) := by decide +kernel
set_option maxRecDepth 20000 in
theorem ggX8_passNight_X8_most : GoodIn wsX8_passNight wsX8_most := goodIn_r _ [7] (by decide +kernel) (by decide +kernel)
set_option maxRecDepth 20000 in
theorem gX8_passNight_X8_most : GoodIn wsX8_passNight (va_wsS RX8 174 yX8_most wsX8_most) := goodIn_app (goodIn_of _ (by decide +kernel)) ggX8_passNight_X8_most
theorem dX8_passNight_0 : decode cX8_passNight 0 = .ok (.iconst 0, 1) := by decide +kernel
theorem dX8_passNight_1 : decode cX8_passNight 1 = .ok (.istore_n 1, 1) := by decide +kernel
theorem dX8_passNight_2 : decode cX8_passNight 2 = .ok (.iload_n 1, 1) := by decide +kernel
theorem dX8_passNight_3 : decode cX8_passNight 3 = .ok (.bipush 6, 2) := by decide +kernel
theorem dX8_passNight_5 : decode cX8_passNight 5 = .ok (.if_icmp .ge 85, 3) := by decide +kernel
theorem dX8_passNight_8 : decode cX8_passNight 8 = .ok (.aload_n 0, 1) := by decide +kernel
theorem dX8_passNight_9 : decode cX8_passNight 9 = .ok (.getfield 25, 3) := by decide +kernel
theorem dX8_passNight_12 : decode cX8_passNight 12 = .ok (.iload_n 1, 1) := by decide +kernel
theorem dX8_passNight_13 : decode cX8_passNight 13 = .ok (.iaload, 1) := by decide +kernel
theorem dX8_passNight_14 : decode cX8_passNight 14 = .ok (.ifCond .ge 13, 3) := by decide +kernel
theorem dX8_passNight_17 : decode cX8_passNight 17 = .ok (.aload_n 0, 1) := by decide +kernel
theorem dX8_passNight_18 : decode cX8_passNight 18 = .ok (.getfield 25, 3) := by decide +kernel
theorem dX8_passNight_21 : decode cX8_passNight 21 = .ok (.iload_n 1, 1) := by decide +kernel
theorem dX8_passNight_22 : decode cX8_passNight 22 = .ok (.iaload, 1) := by decide +kernel
theorem dX8_passNight_23 : decode cX8_passNight 23 = .ok (.ineg, 1) := by decide +kernel
theorem dX8_passNight_24 : decode cX8_passNight 24 = .ok (.goto 9, 3) := by decide +kernel
theorem dX8_passNight_27 : decode cX8_passNight 27 = .ok (.aload_n 0, 1) := by decide +kernel
theorem dX8_passNight_28 : decode cX8_passNight 28 = .ok (.getfield 25, 3) := by decide +kernel
theorem dX8_passNight_31 : decode cX8_passNight 31 = .ok (.iload_n 1, 1) := by decide +kernel
theorem dX8_passNight_32 : decode cX8_passNight 32 = .ok (.iaload, 1) := by decide +kernel
theorem dX8_passNight_33 : decode cX8_passNight 33 = .ok (.istore_n 2, 1) := by decide +kernel
theorem dX8_passNight_34 : decode cX8_passNight 34 = .ok (.iconst 0, 1) := by decide +kernel
theorem dX8_passNight_35 : decode cX8_passNight 35 = .ok (.iload_n 2, 1) := by decide +kernel
theorem dX8_passNight_36 : decode cX8_passNight 36 = .ok (.aload_n 0, 1) := by decide +kernel
theorem dX8_passNight_37 : decode cX8_passNight 37 = .ok (.getfield 90, 3) := by decide +kernel
theorem dX8_passNight_40 : decode cX8_passNight 40 = .ok (.isub, 1) := by decide +kernel
theorem dX8_passNight_41 : decode cX8_passNight 41 = .ok (.invokestatic 174, 3) := by decide +kernel
theorem dX8_passNight_44 : decode cX8_passNight 44 = .ok (.istore_n 2, 1) := by decide +kernel
theorem dX8_passNight_45 : decode cX8_passNight 45 = .ok (.aload_n 0, 1) := by decide +kernel
theorem dX8_passNight_46 : decode cX8_passNight 46 = .ok (.getfield 25, 3) := by decide +kernel
theorem dX8_passNight_49 : decode cX8_passNight 49 = .ok (.iload_n 1, 1) := by decide +kernel
theorem dX8_passNight_50 : decode cX8_passNight 50 = .ok (.aload_n 0, 1) := by decide +kernel
theorem dX8_passNight_51 : decode cX8_passNight 51 = .ok (.getfield 25, 3) := by decide +kernel
theorem dX8_passNight_54 : decode cX8_passNight 54 = .ok (.iload_n 1, 1) := by decide +kernel
theorem dX8_passNight_55 : decode cX8_passNight 55 = .ok (.iaload, 1) := by decide +kernel
theorem dX8_passNight_56 : decode cX8_passNight 56 = .ok (.ifCond .ge 8, 3) := by decide +kernel
theorem dX8_passNight_59 : decode cX8_passNight 59 = .ok (.iload_n 2, 1) := by decide +kernel
theorem dX8_passNight_60 : decode cX8_passNight 60 = .ok (.ineg, 1) := by decide +kernel
theorem dX8_passNight_61 : decode cX8_passNight 61 = .ok (.goto 4, 3) := by decide +kernel
theorem dX8_passNight_64 : decode cX8_passNight 64 = .ok (.iload_n 2, 1) := by decide +kernel
theorem dX8_passNight_65 : decode cX8_passNight 65 = .ok (.iastore, 1) := by decide +kernel
theorem dX8_passNight_66 : decode cX8_passNight 66 = .ok (.aload_n 0, 1) := by decide +kernel
theorem dX8_passNight_67 : decode cX8_passNight 67 = .ok (.getfield 28, 3) := by decide +kernel
theorem dX8_passNight_70 : decode cX8_passNight 70 = .ok (.iload_n 1, 1) := by decide +kernel
theorem dX8_passNight_71 : decode cX8_passNight 71 = .ok (.iconst 0, 1) := by decide +kernel
theorem dX8_passNight_72 : decode cX8_passNight 72 = .ok (.aload_n 0, 1) := by decide +kernel
theorem dX8_passNight_73 : decode cX8_passNight 73 = .ok (.getfield 28, 3) := by decide +kernel
theorem dX8_passNight_76 : decode cX8_passNight 76 = .ok (.iload_n 1, 1) := by decide +kernel
theorem dX8_passNight_77 : decode cX8_passNight 77 = .ok (.iaload, 1) := by decide +kernel
theorem dX8_passNight_78 : decode cX8_passNight 78 = .ok (.iconst 1, 1) := by decide +kernel
theorem dX8_passNight_79 : decode cX8_passNight 79 = .ok (.isub, 1) := by decide +kernel
theorem dX8_passNight_80 : decode cX8_passNight 80 = .ok (.invokestatic 174, 3) := by decide +kernel
theorem dX8_passNight_83 : decode cX8_passNight 83 = .ok (.iastore, 1) := by decide +kernel
theorem dX8_passNight_84 : decode cX8_passNight 84 = .ok (.iinc 1 1, 3) := by decide +kernel
theorem dX8_passNight_87 : decode cX8_passNight 87 = .ok (.goto (-85), 3) := by decide +kernel
theorem dX8_passNight_90 : decode cX8_passNight 90 = .ok (.return_, 1) := by decide +kernel
set_option maxRecDepth 20000 in
theorem ggX8_whyNot_X8_isThere : GoodIn wsX8_whyNot wsX8_isThere := goodIn_r _ [8, 9, 10, 11, 7, 12, 13, 14, 15, 16, 17, 18, 19, 20, 21, 22, 23, 24, 25, 26, 27, 28, 29, 30, 31, 32, 33, 34, 35, 36, 37, 38, 39, 40, 41, 42, 43, 44, 45, 46, 47, 48, 49, 50, 51, 52, 53, 54, 55, 56, 57, 58, 59, 60, 61, 62] (by decide +kernel) (by decide +kernel)
set_option maxRecDepth 20000 in
theorem gX8_whyNot_X8_isThere : GoodIn wsX8_whyNot (wsV RX8 123 RX8 yX8_isThere wsX8_isThere) := goodIn_app (goodIn_of _ (by decide +kernel)) ggX8_whyNot_X8_isThere
theorem dX8_whyNot_0 : decode cX8_whyNot 0 = .ok (.aload_n 0, 1) := by decide +kernel
theorem dX8_whyNot_1 : decode cX8_whyNot 1 = .ok (.iload_n 1, 1) := by decide +kernel
theorem dX8_whyNot_2 : decode cX8_whyNot 2 = .ok (.invokevirtual 123, 3) := by decide +kernel
theorem dX8_whyNot_5 : decode cX8_whyNot 5 = .ok (.ifCond .eq 16, 3) := by decide +kernel
theorem dX8_whyNot_8 : decode cX8_whyNot 8 = .ok (.aload_n 0, 1) := by decide +kernel
theorem dX8_whyNot_9 : decode cX8_whyNot 9 = .ok (.iload_n 2, 1) := by decide +kernel
theorem dX8_whyNot_10 : decode cX8_whyNot 10 = .ok (.invokevirtual 123, 3) := by decide +kernel
theorem dX8_whyNot_13 : decode cX8_whyNot 13 = .ok (.ifCond .eq 8, 3) := by decide +kernel
theorem dX8_whyNot_16 : decode cX8_whyNot 16 = .ok (.iload_n 1, 1) := by decide +kernel
theorem dX8_whyNot_17 : decode cX8_whyNot 17 = .ok (.iload_n 2, 1) := by decide +kernel
theorem dX8_whyNot_18 : decode cX8_whyNot 18 = .ok (.if_icmp .ne 5, 3) := by decide +kernel
theorem dX8_whyNot_21 : decode cX8_whyNot 21 = .ok (.iconst 1, 1) := by decide +kernel
theorem dX8_whyNot_22 : decode cX8_whyNot 22 = .ok (.ireturn, 1) := by decide +kernel
theorem dX8_whyNot_23 : decode cX8_whyNot 23 = .ok (.aload_n 0, 1) := by decide +kernel
theorem dX8_whyNot_24 : decode cX8_whyNot 24 = .ok (.getfield 28, 3) := by decide +kernel
theorem dX8_whyNot_27 : decode cX8_whyNot 27 = .ok (.iload_n 1, 1) := by decide +kernel
theorem dX8_whyNot_28 : decode cX8_whyNot 28 = .ok (.iaload, 1) := by decide +kernel
theorem dX8_whyNot_29 : decode cX8_whyNot 29 = .ok (.ifCond .gt 12, 3) := by decide +kernel
theorem dX8_whyNot_32 : decode cX8_whyNot 32 = .ok (.aload_n 0, 1) := by decide +kernel
theorem dX8_whyNot_33 : decode cX8_whyNot 33 = .ok (.getfield 28, 3) := by decide +kernel
theorem dX8_whyNot_36 : decode cX8_whyNot 36 = .ok (.iload_n 2, 1) := by decide +kernel
theorem dX8_whyNot_37 : decode cX8_whyNot 37 = .ok (.iaload, 1) := by decide +kernel
theorem dX8_whyNot_38 : decode cX8_whyNot 38 = .ok (.ifCond .le 5, 3) := by decide +kernel
theorem dX8_whyNot_41 : decode cX8_whyNot 41 = .ok (.iconst 2, 1) := by decide +kernel
theorem dX8_whyNot_42 : decode cX8_whyNot 42 = .ok (.ireturn, 1) := by decide +kernel
theorem dX8_whyNot_43 : decode cX8_whyNot 43 = .ok (.iload_n 3, 1) := by decide +kernel
theorem dX8_whyNot_44 : decode cX8_whyNot 44 = .ok (.aload_n 0, 1) := by decide +kernel
theorem dX8_whyNot_45 : decode cX8_whyNot 45 = .ok (.getfield 22, 3) := by decide +kernel
theorem dX8_whyNot_48 : decode cX8_whyNot 48 = .ok (.iload_n 1, 1) := by decide +kernel
theorem dX8_whyNot_49 : decode cX8_whyNot 49 = .ok (.iaload, 1) := by decide +kernel
theorem dX8_whyNot_50 : decode cX8_whyNot 50 = .ok (.aload_n 0, 1) := by decide +kernel
theorem dX8_whyNot_51 : decode cX8_whyNot 51 = .ok (.getfield 80, 3) := by decide +kernel
theorem dX8_whyNot_54 : decode cX8_whyNot 54 = .ok (.iadd, 1) := by decide +kernel
theorem dX8_whyNot_55 : decode cX8_whyNot 55 = .ok (.if_icmp .le 7, 3) := by decide +kernel
theorem dX8_whyNot_58 : decode cX8_whyNot 58 = .ok (.iconst 3, 1) := by decide +kernel
theorem dX8_whyNot_59 : decode cX8_whyNot 59 = .ok (.goto 18, 3) := by decide +kernel
theorem dX8_whyNot_62 : decode cX8_whyNot 62 = .ok (.iload_n 3, 1) := by decide +kernel
theorem dX8_whyNot_63 : decode cX8_whyNot 63 = .ok (.aload_n 0, 1) := by decide +kernel
theorem dX8_whyNot_64 : decode cX8_whyNot 64 = .ok (.getfield 22, 3) := by decide +kernel
theorem dX8_whyNot_67 : decode cX8_whyNot 67 = .ok (.iload_n 2, 1) := by decide +kernel
theorem dX8_whyNot_68 : decode cX8_whyNot 68 = .ok (.iaload, 1) := by decide +kernel
theorem dX8_whyNot_69 : decode cX8_whyNot 69 = .ok (.if_icmp .gt 7, 3) := by decide +kernel
theorem dX8_whyNot_72 : decode cX8_whyNot 72 = .ok (.iconst 4, 1) := by decide +kernel
theorem dX8_whyNot_73 : decode cX8_whyNot 73 = .ok (.goto 4, 3) := by decide +kernel
theorem dX8_whyNot_76 : decode cX8_whyNot 76 = .ok (.iconst 0, 1) := by decide +kernel
theorem dX8_whyNot_77 : decode cX8_whyNot 77 = .ok (.ireturn, 1) := by decide +kernel
set_option maxRecDepth 20000 in
theorem ggX8_happen_X8_doIt : GoodIn wsX8_happen wsX8_doIt := goodIn_r _ [13, 14, 6, 15, 16, 17, 18, 12, 19, 20, 21, 22, 23, 24, 25, 26, 27, 28, 29, 30, 31, 32, 33, 34, 35, 36, 37, 38, 39, 40, 41, 42, 43, 44, 45, 46, 47, 48, 49, 50, 51, 52, 53, 54, 55, 56, 57, 58, 59, 60, 61, 62, 63, 64, 65, 66, 67, 68, 69, 70, 71, 72, 73, 74, 75, 76, 77, 78, 79] (by decide +kernel) (by decide +kernel)
set_option maxRecDepth 20000 in
theorem gX8_happen_X8_doIt : GoodIn wsX8_happen (wsV RX8 185 RX8 yX8_doIt wsX8_doIt) := goodIn_app (goodIn_of _ (by decide +kernel)) ggX8_happen_X8_doIt
theorem dX8_happen_0 : decode cX8_happen 0 = .ok (.aload_n 0, 1) := by decide +kernel
theorem dX8_happen_1 : decode cX8_happen 1 = .ok (.getfield 46, 3) := by decide +kernel
theorem dX8_happen_4 : decode cX8_happen 4 = .ok (.iload_n 1, 1) := by decide +kernel
theorem dX8_happen_5 : decode cX8_happen 5 = .ok (.iaload, 1) := by decide +kernel
theorem dX8_happen_6 : decode cX8_happen 6 = .ok (.istore_n 2, 1) := by decide +kernel
theorem dX8_happen_7 : decode cX8_happen 7 = .ok (.aload_n 0, 1) := by decide +kernel
theorem dX8_happen_8 : decode cX8_happen 8 = .ok (.getfield 49, 3) := by decide +kernel
theorem dX8_happen_11 : decode cX8_happen 11 = .ok (.iload_n 1, 1) := by decide +kernel
theorem dX8_happen_12 : decode cX8_happen 12 = .ok (.iaload, 1) := by decide +kernel
theorem dX8_happen_13 : decode cX8_happen 13 = .ok (.istore_n 3, 1) := by decide +kernel
theorem dX8_happen_14 : decode cX8_happen 14 = .ok (.aload_n 0, 1) := by decide +kernel
theorem dX8_happen_15 : decode cX8_happen 15 = .ok (.getfield 43, 3) := by decide +kernel
theorem dX8_happen_18 : decode cX8_happen 18 = .ok (.iload_n 1, 1) := by decide +kernel
theorem dX8_happen_19 : decode cX8_happen 19 = .ok (.iaload, 1) := by decide +kernel
theorem dX8_happen_20 : decode cX8_happen 20 = .ok (.bipush 43, 2) := by decide +kernel
theorem dX8_happen_22 : decode cX8_happen 22 = .ok (.if_icmp .ne 28, 3) := by decide +kernel
theorem dX8_happen_25 : decode cX8_happen 25 = .ok (.aload_n 0, 1) := by decide +kernel
theorem dX8_happen_26 : decode cX8_happen 26 = .ok (.iload_n 3, 1) := by decide +kernel
theorem dX8_happen_27 : decode cX8_happen 27 = .ok (.aload_n 0, 1) := by decide +kernel
theorem dX8_happen_28 : decode cX8_happen 28 = .ok (.getfield 52, 3) := by decide +kernel
theorem dX8_happen_31 : decode cX8_happen 31 = .ok (.iload_n 1, 1) := by decide +kernel
theorem dX8_happen_32 : decode cX8_happen 32 = .ok (.iaload, 1) := by decide +kernel
theorem dX8_happen_33 : decode cX8_happen 33 = .ok (.invokevirtual 185, 3) := by decide +kernel
theorem dX8_happen_36 : decode cX8_happen 36 = .ok (.pop, 1) := by decide +kernel
theorem dX8_happen_37 : decode cX8_happen 37 = .ok (.aload_n 0, 1) := by decide +kernel
theorem dX8_happen_38 : decode cX8_happen 38 = .ok (.dup, 1) := by decide +kernel
theorem dX8_happen_39 : decode cX8_happen 39 = .ok (.getfield 188, 3) := by decide +kernel
theorem dX8_happen_42 : decode cX8_happen 42 = .ok (.iconst 1, 1) := by decide +kernel
theorem dX8_happen_43 : decode cX8_happen 43 = .ok (.iadd, 1) := by decide +kernel
theorem dX8_happen_44 : decode cX8_happen 44 = .ok (.putfield 188, 3) := by decide +kernel
theorem dX8_happen_47 : decode cX8_happen 47 = .ok (.goto 80, 3) := by decide +kernel
theorem dX8_happen_50 : decode cX8_happen 50 = .ok (.aload_n 0, 1) := by decide +kernel
theorem dX8_happen_51 : decode cX8_happen 51 = .ok (.getfield 43, 3) := by decide +kernel
theorem dX8_happen_54 : decode cX8_happen 54 = .ok (.iload_n 1, 1) := by decide +kernel
theorem dX8_happen_55 : decode cX8_happen 55 = .ok (.iaload, 1) := by decide +kernel
theorem dX8_happen_56 : decode cX8_happen 56 = .ok (.bipush 45, 2) := by decide +kernel
theorem dX8_happen_58 : decode cX8_happen 58 = .ok (.if_icmp .ne 33, 3) := by decide +kernel
theorem dX8_happen_61 : decode cX8_happen 61 = .ok (.aload_n 0, 1) := by decide +kernel
theorem dX8_happen_62 : decode cX8_happen 62 = .ok (.getfield 25, 3) := by decide +kernel
theorem dX8_happen_65 : decode cX8_happen 65 = .ok (.iload_n 3, 1) := by decide +kernel
theorem dX8_happen_66 : decode cX8_happen 66 = .ok (.dup2, 1) := by decide +kernel
theorem dX8_happen_67 : decode cX8_happen 67 = .ok (.iaload, 1) := by decide +kernel
theorem dX8_happen_68 : decode cX8_happen 68 = .ok (.aload_n 0, 1) := by decide +kernel
theorem dX8_happen_69 : decode cX8_happen 69 = .ok (.getfield 52, 3) := by decide +kernel
theorem dX8_happen_72 : decode cX8_happen 72 = .ok (.iload_n 1, 1) := by decide +kernel
theorem dX8_happen_73 : decode cX8_happen 73 = .ok (.iaload, 1) := by decide +kernel
theorem dX8_happen_74 : decode cX8_happen 74 = .ok (.iconst 2, 1) := by decide +kernel
theorem dX8_happen_75 : decode cX8_happen 75 = .ok (.idiv, 1) := by decide +kernel
theorem dX8_happen_76 : decode cX8_happen 76 = .ok (.isub, 1) := by decide +kernel
theorem dX8_happen_77 : decode cX8_happen 77 = .ok (.iastore, 1) := by decide +kernel
theorem dX8_happen_78 : decode cX8_happen 78 = .ok (.aload_n 0, 1) := by decide +kernel
theorem dX8_happen_79 : decode cX8_happen 79 = .ok (.dup, 1) := by decide +kernel
theorem dX8_happen_80 : decode cX8_happen 80 = .ok (.getfield 191, 3) := by decide +kernel
theorem dX8_happen_83 : decode cX8_happen 83 = .ok (.iconst 1, 1) := by decide +kernel
theorem dX8_happen_84 : decode cX8_happen 84 = .ok (.iadd, 1) := by decide +kernel
theorem dX8_happen_85 : decode cX8_happen 85 = .ok (.putfield 191, 3) := by decide +kernel
theorem dX8_happen_88 : decode cX8_happen 88 = .ok (.goto 39, 3) := by decide +kernel
theorem dX8_happen_91 : decode cX8_happen 91 = .ok (.aload_n 0, 1) := by decide +kernel
theorem dX8_happen_92 : decode cX8_happen 92 = .ok (.iload_n 2, 1) := by decide +kernel
theorem dX8_happen_93 : decode cX8_happen 93 = .ok (.aload_n 0, 1) := by decide +kernel
theorem dX8_happen_94 : decode cX8_happen 94 = .ok (.getfield 52, 3) := by decide +kernel
theorem dX8_happen_97 : decode cX8_happen 97 = .ok (.iload_n 1, 1) := by decide +kernel
theorem dX8_happen_98 : decode cX8_happen 98 = .ok (.iaload, 1) := by decide +kernel
theorem dX8_happen_99 : decode cX8_happen 99 = .ok (.invokevirtual 185, 3) := by decide +kernel
theorem dX8_happen_102 : decode cX8_happen 102 = .ok (.ifCond .eq 15, 3) := by decide +kernel
theorem dX8_happen_105 : decode cX8_happen 105 = .ok (.aload_n 0, 1) := by decide +kernel
theorem dX8_happen_106 : decode cX8_happen 106 = .ok (.iload_n 3, 1) := by decide +kernel
theorem dX8_happen_107 : decode cX8_happen 107 = .ok (.aload_n 0, 1) := by decide +kernel
theorem dX8_happen_108 : decode cX8_happen 108 = .ok (.getfield 52, 3) := by decide +kernel
theorem dX8_happen_111 : decode cX8_happen 111 = .ok (.iload_n 1, 1) := by decide +kernel
theorem dX8_happen_112 : decode cX8_happen 112 = .ok (.iaload, 1) := by decide +kernel
theorem dX8_happen_113 : decode cX8_happen 113 = .ok (.invokevirtual 185, 3) := by decide +kernel
theorem dX8_happen_116 : decode cX8_happen 116 = .ok (.pop, 1) := by decide +kernel
theorem dX8_happen_117 : decode cX8_happen 117 = .ok (.aload_n 0, 1) := by decide +kernel
theorem dX8_happen_118 : decode cX8_happen 118 = .ok (.dup, 1) := by decide +kernel
theorem dX8_happen_119 : decode cX8_happen 119 = .ok (.getfield 194, 3) := by decide +kernel
theorem dX8_happen_122 : decode cX8_happen 122 = .ok (.iconst 1, 1) := by decide +kernel
theorem dX8_happen_123 : decode cX8_happen 123 = .ok (.iadd, 1) := by decide +kernel
theorem dX8_happen_124 : decode cX8_happen 124 = .ok (.putfield 194, 3) := by decide +kernel
theorem dX8_happen_127 : decode cX8_happen 127 = .ok (.return_, 1) := by decide +kernel
theorem dX8_keepNow_0 : decode cX8_keepNow 0 = .ok (.iconst 0, 1) := by decide +kernel
theorem dX8_keepNow_1 : decode cX8_keepNow 1 = .ok (.istore_n 1, 1) := by decide +kernel
theorem dX8_keepNow_2 : decode cX8_keepNow 2 = .ok (.iload_n 1, 1) := by decide +kernel
theorem dX8_keepNow_3 : decode cX8_keepNow 3 = .ok (.bipush 6, 2) := by decide +kernel
theorem dX8_keepNow_5 : decode cX8_keepNow 5 = .ok (.if_icmp .ge 45, 3) := by decide +kernel
theorem dX8_keepNow_8 : decode cX8_keepNow 8 = .ok (.aload_n 0, 1) := by decide +kernel
theorem dX8_keepNow_9 : decode cX8_keepNow 9 = .ok (.getfield 55, 3) := by decide +kernel
theorem dX8_keepNow_12 : decode cX8_keepNow 12 = .ok (.iload_n 1, 1) := by decide +kernel
theorem dX8_keepNow_13 : decode cX8_keepNow 13 = .ok (.aload_n 0, 1) := by decide +kernel
theorem dX8_keepNow_14 : decode cX8_keepNow 14 = .ok (.getfield 22, 3) := by decide +kernel
theorem dX8_keepNow_17 : decode cX8_keepNow 17 = .ok (.iload_n 1, 1) := by decide +kernel
theorem dX8_keepNow_18 : decode cX8_keepNow 18 = .ok (.iaload, 1) := by decide +kernel
theorem dX8_keepNow_19 : decode cX8_keepNow 19 = .ok (.iastore, 1) := by decide +kernel
theorem dX8_keepNow_20 : decode cX8_keepNow 20 = .ok (.aload_n 0, 1) := by decide +kernel
theorem dX8_keepNow_21 : decode cX8_keepNow 21 = .ok (.getfield 58, 3) := by decide +kernel
theorem dX8_keepNow_24 : decode cX8_keepNow 24 = .ok (.iload_n 1, 1) := by decide +kernel
theorem dX8_keepNow_25 : decode cX8_keepNow 25 = .ok (.aload_n 0, 1) := by decide +kernel
theorem dX8_keepNow_26 : decode cX8_keepNow 26 = .ok (.getfield 25, 3) := by decide +kernel
theorem dX8_keepNow_29 : decode cX8_keepNow 29 = .ok (.iload_n 1, 1) := by decide +kernel
theorem dX8_keepNow_30 : decode cX8_keepNow 30 = .ok (.iaload, 1) := by decide +kernel
theorem dX8_keepNow_31 : decode cX8_keepNow 31 = .ok (.iastore, 1) := by decide +kernel
theorem dX8_keepNow_32 : decode cX8_keepNow 32 = .ok (.aload_n 0, 1) := by decide +kernel
theorem dX8_keepNow_33 : decode cX8_keepNow 33 = .ok (.getfield 61, 3) := by decide +kernel
theorem dX8_keepNow_36 : decode cX8_keepNow 36 = .ok (.iload_n 1, 1) := by decide +kernel
theorem dX8_keepNow_37 : decode cX8_keepNow 37 = .ok (.aload_n 0, 1) := by decide +kernel
theorem dX8_keepNow_38 : decode cX8_keepNow 38 = .ok (.getfield 28, 3) := by decide +kernel
theorem dX8_keepNow_41 : decode cX8_keepNow 41 = .ok (.iload_n 1, 1) := by decide +kernel
theorem dX8_keepNow_42 : decode cX8_keepNow 42 = .ok (.iaload, 1) := by decide +kernel
theorem dX8_keepNow_43 : decode cX8_keepNow 43 = .ok (.iastore, 1) := by decide +kernel
theorem dX8_keepNow_44 : decode cX8_keepNow 44 = .ok (.iinc 1 1, 3) := by decide +kernel
theorem dX8_keepNow_47 : decode cX8_keepNow 47 = .ok (.goto (-45), 3) := by decide +kernel
theorem dX8_keepNow_50 : decode cX8_keepNow 50 = .ok (.aload_n 0, 1) := by decide +kernel
theorem dX8_keepNow_51 : decode cX8_keepNow 51 = .ok (.aload_n 0, 1) := by decide +kernel
theorem dX8_keepNow_52 : decode cX8_keepNow 52 = .ok (.getfield 96, 3) := by decide +kernel
theorem dX8_keepNow_55 : decode cX8_keepNow 55 = .ok (.putfield 197, 3) := by decide +kernel
theorem dX8_keepNow_58 : decode cX8_keepNow 58 = .ok (.return_, 1) := by decide +kernel
theorem dX8_putBack_0 : decode cX8_putBack 0 = .ok (.iconst 0, 1) := by decide +kernel
theorem dX8_putBack_1 : decode cX8_putBack 1 = .ok (.istore_n 1, 1) := by decide +kernel
theorem dX8_putBack_2 : decode cX8_putBack 2 = .ok (.iload_n 1, 1) := by decide +kernel
theorem dX8_putBack_3 : decode cX8_putBack 3 = .ok (.bipush 6, 2) := by decide +kernel
theorem dX8_putBack_5 : decode cX8_putBack 5 = .ok (.if_icmp .ge 45, 3) := by decide +kernel
theorem dX8_putBack_8 : decode cX8_putBack 8 = .ok (.aload_n 0, 1) := by decide +kernel
theorem dX8_putBack_9 : decode cX8_putBack 9 = .ok (.getfield 22, 3) := by decide +kernel
theorem dX8_putBack_12 : decode cX8_putBack 12 = .ok (.iload_n 1, 1) := by decide +kernel
theorem dX8_putBack_13 : decode cX8_putBack 13 = .ok (.aload_n 0, 1) := by decide +kernel
theorem dX8_putBack_14 : decode cX8_putBack 14 = .ok (.getfield 55, 3) := by decide +kernel
theorem dX8_putBack_17 : decode cX8_putBack 17 = .ok (.iload_n 1, 1) := by decide +kernel
theorem dX8_putBack_18 : decode cX8_putBack 18 = .ok (.iaload, 1) := by decide +kernel
theorem dX8_putBack_19 : decode cX8_putBack 19 = .ok (.iastore, 1) := by decide +kernel
theorem dX8_putBack_20 : decode cX8_putBack 20 = .ok (.aload_n 0, 1) := by decide +kernel
theorem dX8_putBack_21 : decode cX8_putBack 21 = .ok (.getfield 25, 3) := by decide +kernel
theorem dX8_putBack_24 : decode cX8_putBack 24 = .ok (.iload_n 1, 1) := by decide +kernel
theorem dX8_putBack_25 : decode cX8_putBack 25 = .ok (.aload_n 0, 1) := by decide +kernel
theorem dX8_putBack_26 : decode cX8_putBack 26 = .ok (.getfield 58, 3) := by decide +kernel
theorem dX8_putBack_29 : decode cX8_putBack 29 = .ok (.iload_n 1, 1) := by decide +kernel
theorem dX8_putBack_30 : decode cX8_putBack 30 = .ok (.iaload, 1) := by decide +kernel
theorem dX8_putBack_31 : decode cX8_putBack 31 = .ok (.iastore, 1) := by decide +kernel
theorem dX8_putBack_32 : decode cX8_putBack 32 = .ok (.aload_n 0, 1) := by decide +kernel
theorem dX8_putBack_33 : decode cX8_putBack 33 = .ok (.getfield 28, 3) := by decide +kernel
theorem dX8_putBack_36 : decode cX8_putBack 36 = .ok (.iload_n 1, 1) := by decide +kernel
theorem dX8_putBack_37 : decode cX8_putBack 37 = .ok (.aload_n 0, 1) := by decide +kernel
theorem dX8_putBack_38 : decode cX8_putBack 38 = .ok (.getfield 61, 3) := by decide +kernel
theorem dX8_putBack_41 : decode cX8_putBack 41 = .ok (.iload_n 1, 1) := by decide +kernel
theorem dX8_putBack_42 : decode cX8_putBack 42 = .ok (.iaload, 1) := by decide +kernel
theorem dX8_putBack_43 : decode cX8_putBack 43 = .ok (.iastore, 1) := by decide +kernel
theorem dX8_putBack_44 : decode cX8_putBack 44 = .ok (.iinc 1 1, 3) := by decide +kernel
theorem dX8_putBack_47 : decode cX8_putBack 47 = .ok (.goto (-45), 3) := by decide +kernel
theorem dX8_putBack_50 : decode cX8_putBack 50 = .ok (.aload_n 0, 1) := by decide +kernel
theorem dX8_putBack_51 : decode cX8_putBack 51 = .ok (.aload_n 0, 1) := by decide +kernel
theorem dX8_putBack_52 : decode cX8_putBack 52 = .ok (.getfield 197, 3) := by decide +kernel
theorem dX8_putBack_55 : decode cX8_putBack 55 = .ok (.putfield 96, 3) := by decide +kernel
theorem dX8_putBack_58 : decode cX8_putBack 58 = .ok (.return_, 1) := by decide +kernel
set_option maxRecDepth 20000 in
theorem ggX8_goSummer_X8_passNight : GoodIn wsX8_goSummer wsX8_passNight := goodIn_r _ [15, 16, 17, 18, 19, 20, 14, 21, 63, 64, 65, 66, 67, 68, 69, 70, 71, 72, 73, 74, 75, 76, 77, 78, 79, 80, 81, 82, 83, 84, 85, 86, 87, 88, 89, 90, 91, 92, 93, 94, 95, 96, 97, 98, 99, 100, 101, 102, 103, 104, 105, 106, 107, 108] (by decide +kernel) (by decide +kernel)
set_option maxRecDepth 20000 in
theorem gX8_goSummer_X8_passNight : GoodIn wsX8_goSummer (wsV RX8 206 RX8 yX8_passNight wsX8_passNight) := goodIn_app (goodIn_of _ (by decide +kernel)) ggX8_goSummer_X8_passNight
set_option maxRecDepth 20000 in
theorem ggX8_goSummer_X8_whyNot : GoodIn wsX8_goSummer wsX8_whyNot := goodIn_r _ [25, 18, 26, 27, 28, 29, 30, 14, 31, 32, 33, 34, 35, 36, 37, 38, 39, 63, 64, 65, 66, 67, 68, 69, 70, 71, 72, 73, 74, 75, 76, 77, 78, 79, 80, 81, 82, 83, 84, 85, 86, 87, 88, 89, 90, 91, 92, 93, 94, 95, 96, 97, 98, 99, 100, 101, 102, 103, 104, 105, 106, 107, 108] (by decide +kernel) (by decide +kernel)
set_option maxRecDepth 20000 in
theorem gX8_goSummer_X8_whyNot : GoodIn wsX8_goSummer (wsV RX8 209 RX8 yX8_whyNot wsX8_whyNot) := goodIn_app (goodIn_of _ (by decide +kernel)) ggX8_goSummer_X8_whyNot
set_option maxRecDepth 20000 in
theorem ggX8_goSummer_X8_happen : GoodIn wsX8_goSummer wsX8_happen := goodIn_r _ [43, 8, 9, 7, 10, 3, 16, 4, 5, 44, 45, 46, 14, 47, 26, 18, 48, 19, 20, 21, 49, 50, 51, 52, 53, 54, 55, 56, 57, 58, 59, 60, 61, 62, 63, 64, 65, 66, 67, 68, 69, 70, 71, 72, 73, 74, 75, 76, 77, 78, 79, 80, 81, 82, 83, 84, 85, 86, 87, 88, 89, 90, 91, 92, 93, 94, 95, 96, 97, 98, 99, 100, 101, 102, 103, 104, 105, 106, 107, 108] (by decide +kernel) (by decide +kernel)
set_option maxRecDepth 20000 in
theorem gX8_goSummer_X8_happen : GoodIn wsX8_goSummer (wsV RX8 213 RX8 yX8_happen wsX8_happen) := goodIn_app (goodIn_of _ (by decide +kernel)) ggX8_goSummer_X8_happen
theorem dX8_goSummer_0 : decode cX8_goSummer 0 = .ok (.aload_n 0, 1) := by decide +kernel
theorem dX8_goSummer_1 : decode cX8_goSummer 1 = .ok (.bipush (-6), 2) := by decide +kernel
theorem dX8_goSummer_3 : decode cX8_goSummer 3 = .ok (.putfield 200, 3) := by decide +kernel
theorem dX8_goSummer_6 : decode cX8_goSummer 6 = .ok (.aload_n 0, 1) := by decide +kernel
theorem dX8_goSummer_7 : decode cX8_goSummer 7 = .ok (.bipush (-6), 2) := by decide +kernel
theorem dX8_goSummer_9 : decode cX8_goSummer 9 = .ok (.putfield 203, 3) := by decide +kernel
theorem dX8_goSummer_12 : decode cX8_goSummer 12 = .ok (.aload_n 0, 1) := by decide +kernel
theorem dX8_goSummer_13 : decode cX8_goSummer 13 = .ok (.iconst 0, 1) := by decide +kernel
theorem dX8_goSummer_14 : decode cX8_goSummer 14 = .ok (.putfield 188, 3) := by decide +kernel
theorem dX8_goSummer_17 : decode cX8_goSummer 17 = .ok (.aload_n 0, 1) := by decide +kernel
theorem dX8_goSummer_18 : decode cX8_goSummer 18 = .ok (.iconst 0, 1) := by decide +kernel
theorem dX8_goSummer_19 : decode cX8_goSummer 19 = .ok (.putfield 191, 3) := by decide +kernel
theorem dX8_goSummer_22 : decode cX8_goSummer 22 = .ok (.aload_n 0, 1) := by decide +kernel
theorem dX8_goSummer_23 : decode cX8_goSummer 23 = .ok (.iconst 0, 1) := by decide +kernel
theorem dX8_goSummer_24 : decode cX8_goSummer 24 = .ok (.putfield 194, 3) := by decide +kernel
theorem dX8_goSummer_27 : decode cX8_goSummer 27 = .ok (.iconst 0, 1) := by decide +kernel
theorem dX8_goSummer_28 : decode cX8_goSummer 28 = .ok (.istore_n 1, 1) := by decide +kernel
theorem dX8_goSummer_29 : decode cX8_goSummer 29 = .ok (.iload_n 1, 1) := by decide +kernel
theorem dX8_goSummer_30 : decode cX8_goSummer 30 = .ok (.aload_n 0, 1) := by decide +kernel
theorem dX8_goSummer_31 : decode cX8_goSummer 31 = .ok (.getfield 149, 3) := by decide +kernel
theorem dX8_goSummer_34 : decode cX8_goSummer 34 = .ok (.if_icmp .ge 77, 3) := by decide +kernel
theorem dX8_goSummer_37 : decode cX8_goSummer 37 = .ok (.aload_n 0, 1) := by decide +kernel
theorem dX8_goSummer_38 : decode cX8_goSummer 38 = .ok (.getfield 200, 3) := by decide +kernel
theorem dX8_goSummer_41 : decode cX8_goSummer 41 = .ok (.ifCond .ge 70, 3) := by decide +kernel
theorem dX8_goSummer_44 : decode cX8_goSummer 44 = .ok (.aload_n 0, 1) := by decide +kernel
theorem dX8_goSummer_45 : decode cX8_goSummer 45 = .ok (.getfield 43, 3) := by decide +kernel
theorem dX8_goSummer_48 : decode cX8_goSummer 48 = .ok (.iload_n 1, 1) := by decide +kernel
theorem dX8_goSummer_49 : decode cX8_goSummer 49 = .ok (.iaload, 1) := by decide +kernel
theorem dX8_goSummer_50 : decode cX8_goSummer 50 = .ok (.ifCond .ne 10, 3) := by decide +kernel
theorem dX8_goSummer_53 : decode cX8_goSummer 53 = .ok (.aload_n 0, 1) := by decide +kernel
theorem dX8_goSummer_54 : decode cX8_goSummer 54 = .ok (.invokevirtual 206, 3) := by decide +kernel
theorem dX8_goSummer_57 : decode cX8_goSummer 57 = .ok (.goto 48, 3) := by decide +kernel
theorem dX8_goSummer_60 : decode cX8_goSummer 60 = .ok (.aload_n 0, 1) := by decide +kernel
theorem dX8_goSummer_61 : decode cX8_goSummer 61 = .ok (.aload_n 0, 1) := by decide +kernel
theorem dX8_goSummer_62 : decode cX8_goSummer 62 = .ok (.getfield 46, 3) := by decide +kernel
theorem dX8_goSummer_65 : decode cX8_goSummer 65 = .ok (.iload_n 1, 1) := by decide +kernel
theorem dX8_goSummer_66 : decode cX8_goSummer 66 = .ok (.iaload, 1) := by decide +kernel
theorem dX8_goSummer_67 : decode cX8_goSummer 67 = .ok (.aload_n 0, 1) := by decide +kernel
theorem dX8_goSummer_68 : decode cX8_goSummer 68 = .ok (.getfield 49, 3) := by decide +kernel
theorem dX8_goSummer_71 : decode cX8_goSummer 71 = .ok (.iload_n 1, 1) := by decide +kernel
theorem dX8_goSummer_72 : decode cX8_goSummer 72 = .ok (.iaload, 1) := by decide +kernel
theorem dX8_goSummer_73 : decode cX8_goSummer 73 = .ok (.aload_n 0, 1) := by decide +kernel
theorem dX8_goSummer_74 : decode cX8_goSummer 74 = .ok (.getfield 52, 3) := by decide +kernel
theorem dX8_goSummer_77 : decode cX8_goSummer 77 = .ok (.iload_n 1, 1) := by decide +kernel
theorem dX8_goSummer_78 : decode cX8_goSummer 78 = .ok (.iaload, 1) := by decide +kernel
theorem dX8_goSummer_79 : decode cX8_goSummer 79 = .ok (.invokevirtual 209, 3) := by decide +kernel
theorem dX8_goSummer_82 : decode cX8_goSummer 82 = .ok (.istore_n 2, 1) := by decide +kernel
theorem dX8_goSummer_83 : decode cX8_goSummer 83 = .ok (.iload_n 2, 1) := by decide +kernel
theorem dX8_goSummer_84 : decode cX8_goSummer 84 = .ok (.ifCond .le 16, 3) := by decide +kernel
theorem dX8_goSummer_87 : decode cX8_goSummer 87 = .ok (.aload_n 0, 1) := by decide +kernel
theorem dX8_goSummer_88 : decode cX8_goSummer 88 = .ok (.iload_n 1, 1) := by decide +kernel
theorem dX8_goSummer_89 : decode cX8_goSummer 89 = .ok (.putfield 200, 3) := by decide +kernel
theorem dX8_goSummer_92 : decode cX8_goSummer 92 = .ok (.aload_n 0, 1) := by decide +kernel
theorem dX8_goSummer_93 : decode cX8_goSummer 93 = .ok (.iload_n 2, 1) := by decide +kernel
theorem dX8_goSummer_94 : decode cX8_goSummer 94 = .ok (.putfield 203, 3) := by decide +kernel
theorem dX8_goSummer_97 : decode cX8_goSummer 97 = .ok (.goto 8, 3) := by decide +kernel
theorem dX8_goSummer_100 : decode cX8_goSummer 100 = .ok (.aload_n 0, 1) := by decide +kernel
theorem dX8_goSummer_101 : decode cX8_goSummer 101 = .ok (.iload_n 1, 1) := by decide +kernel
theorem dX8_goSummer_102 : decode cX8_goSummer 102 = .ok (.invokevirtual 213, 3) := by decide +kernel
theorem dX8_goSummer_105 : decode cX8_goSummer 105 = .ok (.iinc 1 1, 3) := by decide +kernel
theorem dX8_goSummer_108 : decode cX8_goSummer 108 = .ok (.goto (-79), 3) := by decide +kernel
theorem dX8_goSummer_111 : decode cX8_goSummer 111 = .ok (.return_, 1) := by decide +kernel
set_option maxRecDepth 20000 in
theorem ggX8_judge_X8_in : GoodIn wsX8_judge wsX8_in := goodIn_r _ [10] (by decide +kernel) (by decide +kernel)
set_option maxRecDepth 20000 in
theorem gX8_judge_X8_in : GoodIn wsX8_judge (va_wsS RX8 101 yX8_in wsX8_in) := goodIn_app (goodIn_of _ (by decide +kernel)) ggX8_judge_X8_in
set_option maxRecDepth 20000 in
theorem ggX8_judge_X8_fault : GoodIn wsX8_judge wsX8_fault := goodIn_r _ [14, 15, 16, 17, 18, 19, 20, 21, 9, 22, 23, 24, 25, 26, 27, 28, 29, 30, 7, 8, 10, 31, 32, 33, 34, 99, 100, 101, 102, 103, 104, 105, 106, 107, 108, 109, 110, 111, 112, 113, 114, 115, 116, 117, 118, 119, 120, 121, 122, 123, 124, 125, 126, 127, 128, 129, 130, 131, 132, 133, 134, 135, 136, 137, 138, 139, 140, 141, 142, 143, 144] (by decide +kernel) (by decide +kernel)
set_option maxRecDepth 20000 in
theorem gX8_judge_X8_fault : GoodIn wsX8_judge (wsV RX8 219 RX8 yX8_fault wsX8_fault) := goodIn_app (goodIn_of _ (by decide +kernel)) ggX8_judge_X8_fault
set_option maxRecDepth 20000 in
theorem ggX8_judge_X8_keepNow : GoodIn wsX8_judge wsX8_keepNow := goodIn_r _ [38, 39, 40, 41, 42, 43, 44, 45, 46, 99, 100, 101, 102, 103, 104, 105, 106, 107, 108, 109, 110, 111, 112, 113, 114, 115, 116, 117, 118, 119, 120, 121, 122, 123, 124, 125, 126, 127, 128, 129, 130, 131, 132, 133, 134, 135, 136, 137, 138, 139, 140, 141, 142, 143, 144] (by decide +kernel) (by decide +kernel)
set_option maxRecDepth 20000 in
theorem gX8_judge_X8_keepNow : GoodIn wsX8_judge (wsV RX8 222 RX8 yX8_keepNow wsX8_keepNow) := goodIn_app (goodIn_of _ (by decide +kernel)) ggX8_judge_X8_keepNow
set_option maxRecDepth 20000 in
theorem ggX8_judge_X8_goSummer : GoodIn wsX8_judge wsX8_goSummer := goodIn_r _ [50, 2, 3, 4, 5, 6, 15, 18, 23, 24, 27, 51, 52, 53, 9, 54, 42, 55, 44, 56, 57, 58, 59, 60, 61, 62, 40, 63, 64, 65, 66, 67, 68, 69, 70, 71, 72, 7, 8, 10, 73, 74, 75, 76, 77, 78, 79, 80, 81, 82, 83, 84, 85, 86, 45, 87, 88, 89, 90, 91, 92, 93, 94, 99, 100, 101, 102, 103, 104, 105, 106, 107, 108, 109, 110, 111, 112, 113, 114, 115, 116, 117, 118, 119, 120, 121, 122, 123, 124, 125, 126, 127, 128, 129, 130, 131, 132, 133, 134, 135, 136, 137, 138, 139, 140, 141, 142, 143, 144] (by decide +kernel) (by decide +kernel)
set_option maxRecDepth 20000 in
theorem gX8_judge_X8_goSummer : GoodIn wsX8_judge (wsV RX8 225 RX8 yX8_goSummer wsX8_goSummer) := goodIn_app (goodIn_of _ (by decide +kernel)) ggX8_judge_X8_goSummer
set_option maxRecDepth 20000 in
theorem ggX8_judge_X8_putBack : GoodIn wsX8_judge wsX8_putBack := goodIn_r _ [98, 40, 39, 42, 41, 44, 43, 46, 45, 99, 100, 101, 102, 103, 104, 105, 106, 107, 108, 109, 110, 111, 112, 113, 114, 115, 116, 117, 118, 119, 120, 121, 122, 123, 124, 125, 126, 127, 128, 129, 130, 131, 132, 133, 134, 135, 136, 137, 138, 139, 140, 141, 142, 143, 144] (by decide +kernel) (by decide +kernel)
set_option maxRecDepth 20000 in
theorem gX8_judge_X8_putBack : GoodIn wsX8_judge (wsV RX8 228 RX8 yX8_putBack wsX8_putBack) := goodIn_app (goodIn_of _ (by decide +kernel)) ggX8_judge_X8_putBack
theorem dX8_judge_0 : decode cX8_judge 0 = .ok (.iload_n 1, 1) := by decide +kernel
theorem dX8_judge_1 : decode cX8_judge 1 = .ok (.i2l, 1) := by decide +kernel
theorem dX8_judge_2 : decode cX8_judge 2 = .ok (.lconst 0, 1) := by decide +kernel
theorem dX8_judge_3 : decode cX8_judge 3 = .ok (.ldc2_w 217, 3) := by decide +kernel
theorem dX8_judge_6 : decode cX8_judge 6 = .ok (.invokestatic 101, 3) := by decide +kernel
theorem dX8_judge_9 : decode cX8_judge 9 = .ok (.ifCond .ne 6, 3) := by decide +kernel
theorem dX8_judge_12 : decode cX8_judge 12 = .ok (.bipush (-2), 2) := by decide +kernel
theorem dX8_judge_14 : decode cX8_judge 14 = .ok (.ireturn, 1) := by decide +kernel
theorem dX8_judge_15 : decode cX8_judge 15 = .ok (.aload_n 0, 1) := by decide +kernel
theorem dX8_judge_16 : decode cX8_judge 16 = .ok (.invokevirtual 219, 3) := by decide +kernel
theorem dX8_judge_19 : decode cX8_judge 19 = .ok (.ifCond .lt 6, 3) := by decide +kernel
theorem dX8_judge_22 : decode cX8_judge 22 = .ok (.bipush (-5), 2) := by decide +kernel
theorem dX8_judge_24 : decode cX8_judge 24 = .ok (.ireturn, 1) := by decide +kernel
theorem dX8_judge_25 : decode cX8_judge 25 = .ok (.aload_n 0, 1) := by decide +kernel
theorem dX8_judge_26 : decode cX8_judge 26 = .ok (.invokevirtual 222, 3) := by decide +kernel
theorem dX8_judge_29 : decode cX8_judge 29 = .ok (.aload_n 0, 1) := by decide +kernel
theorem dX8_judge_30 : decode cX8_judge 30 = .ok (.invokevirtual 225, 3) := by decide +kernel
theorem dX8_judge_33 : decode cX8_judge 33 = .ok (.aload_n 0, 1) := by decide +kernel
theorem dX8_judge_34 : decode cX8_judge 34 = .ok (.invokevirtual 228, 3) := by decide +kernel
theorem dX8_judge_37 : decode cX8_judge 37 = .ok (.iload_n 1, 1) := by decide +kernel
theorem dX8_judge_38 : decode cX8_judge 38 = .ok (.iconst 1, 1) := by decide +kernel
theorem dX8_judge_39 : decode cX8_judge 39 = .ok (.if_icmp .le 13, 3) := by decide +kernel
theorem dX8_judge_42 : decode cX8_judge 42 = .ok (.aload_n 0, 1) := by decide +kernel
theorem dX8_judge_43 : decode cX8_judge 43 = .ok (.getfield 200, 3) := by decide +kernel
theorem dX8_judge_46 : decode cX8_judge 46 = .ok (.ifCond .lt 6, 3) := by decide +kernel
theorem dX8_judge_49 : decode cX8_judge 49 = .ok (.bipush (-3), 2) := by decide +kernel
theorem dX8_judge_51 : decode cX8_judge 51 = .ok (.ireturn, 1) := by decide +kernel
theorem dX8_judge_52 : decode cX8_judge 52 = .ok (.iload_n 1, 1) := by decide +kernel
theorem dX8_judge_53 : decode cX8_judge 53 = .ok (.ifCond .ne 10, 3) := by decide +kernel
theorem dX8_judge_56 : decode cX8_judge 56 = .ok (.aload_n 0, 1) := by decide +kernel
theorem dX8_judge_57 : decode cX8_judge 57 = .ok (.getfield 200, 3) := by decide +kernel
theorem dX8_judge_60 : decode cX8_judge 60 = .ok (.goto 43, 3) := by decide +kernel
theorem dX8_judge_63 : decode cX8_judge 63 = .ok (.iload_n 1, 1) := by decide +kernel
theorem dX8_judge_64 : decode cX8_judge 64 = .ok (.iconst 1, 1) := by decide +kernel
theorem dX8_judge_65 : decode cX8_judge 65 = .ok (.if_icmp .ne 10, 3) := by decide +kernel
theorem dX8_judge_68 : decode cX8_judge 68 = .ok (.aload_n 0, 1) := by decide +kernel
theorem dX8_judge_69 : decode cX8_judge 69 = .ok (.getfield 203, 3) := by decide +kernel
theorem dX8_judge_72 : decode cX8_judge 72 = .ok (.goto 31, 3) := by decide +kernel
theorem dX8_judge_75 : decode cX8_judge 75 = .ok (.iload_n 1, 1) := by decide +kernel
theorem dX8_judge_76 : decode cX8_judge 76 = .ok (.iconst 2, 1) := by decide +kernel
theorem dX8_judge_77 : decode cX8_judge 77 = .ok (.if_icmp .ne 10, 3) := by decide +kernel
theorem dX8_judge_80 : decode cX8_judge 80 = .ok (.aload_n 0, 1) := by decide +kernel
theorem dX8_judge_81 : decode cX8_judge 81 = .ok (.getfield 188, 3) := by decide +kernel
theorem dX8_judge_84 : decode cX8_judge 84 = .ok (.goto 19, 3) := by decide +kernel
theorem dX8_judge_87 : decode cX8_judge 87 = .ok (.iload_n 1, 1) := by decide +kernel
theorem dX8_judge_88 : decode cX8_judge 88 = .ok (.iconst 3, 1) := by decide +kernel
theorem dX8_judge_89 : decode cX8_judge 89 = .ok (.if_icmp .ne 10, 3) := by decide +kernel
theorem dX8_judge_92 : decode cX8_judge 92 = .ok (.aload_n 0, 1) := by decide +kernel
theorem dX8_judge_93 : decode cX8_judge 93 = .ok (.getfield 191, 3) := by decide +kernel
theorem dX8_judge_96 : decode cX8_judge 96 = .ok (.goto 7, 3) := by decide +kernel
theorem dX8_judge_99 : decode cX8_judge 99 = .ok (.aload_n 0, 1) := by decide +kernel
theorem dX8_judge_100 : decode cX8_judge 100 = .ok (.getfield 194, 3) := by decide +kernel
theorem dX8_judge_103 : decode cX8_judge 103 = .ok (.ireturn, 1) := by decide +kernel
theorem dX8_stateOf_0 : decode cX8_stateOf 0 = .ok (.iload_n 2, 1) := by decide +kernel
theorem dX8_stateOf_1 : decode cX8_stateOf 1 = .ok (.ifCond .ne 16, 3) := by decide +kernel
theorem dX8_stateOf_4 : decode cX8_stateOf 4 = .ok (.aload_n 0, 1) := by decide +kernel
theorem dX8_stateOf_5 : decode cX8_stateOf 5 = .ok (.getfield 25, 3) := by decide +kernel
theorem dX8_stateOf_8 : decode cX8_stateOf 8 = .ok (.iload_n 1, 1) := by decide +kernel
theorem dX8_stateOf_9 : decode cX8_stateOf 9 = .ok (.iaload, 1) := by decide +kernel
theorem dX8_stateOf_10 : decode cX8_stateOf 10 = .ok (.sipush 1000, 3) := by decide +kernel
theorem dX8_stateOf_13 : decode cX8_stateOf 13 = .ok (.iadd, 1) := by decide +kernel
theorem dX8_stateOf_14 : decode cX8_stateOf 14 = .ok (.goto 23, 3) := by decide +kernel
theorem dX8_stateOf_17 : decode cX8_stateOf 17 = .ok (.iload_n 2, 1) := by decide +kernel
theorem dX8_stateOf_18 : decode cX8_stateOf 18 = .ok (.iconst 1, 1) := by decide +kernel
theorem dX8_stateOf_19 : decode cX8_stateOf 19 = .ok (.if_icmp .ne 12, 3) := by decide +kernel
theorem dX8_stateOf_22 : decode cX8_stateOf 22 = .ok (.aload_n 0, 1) := by decide +kernel
theorem dX8_stateOf_23 : decode cX8_stateOf 23 = .ok (.getfield 22, 3) := by decide +kernel
theorem dX8_stateOf_26 : decode cX8_stateOf 26 = .ok (.iload_n 1, 1) := by decide +kernel
theorem dX8_stateOf_27 : decode cX8_stateOf 27 = .ok (.iaload, 1) := by decide +kernel
theorem dX8_stateOf_28 : decode cX8_stateOf 28 = .ok (.goto 9, 3) := by decide +kernel
theorem dX8_stateOf_31 : decode cX8_stateOf 31 = .ok (.aload_n 0, 1) := by decide +kernel
theorem dX8_stateOf_32 : decode cX8_stateOf 32 = .ok (.getfield 28, 3) := by decide +kernel
theorem dX8_stateOf_35 : decode cX8_stateOf 35 = .ok (.iload_n 1, 1) := by decide +kernel
theorem dX8_stateOf_36 : decode cX8_stateOf 36 = .ok (.iaload, 1) := by decide +kernel
theorem dX8_stateOf_37 : decode cX8_stateOf 37 = .ok (.ireturn, 1) := by decide +kernel
set_option maxRecDepth 20000 in
theorem ggX8_state_X8_isThere : GoodIn wsX8_state wsX8_isThere := goodIn_r _ [6, 7, 8, 9, 5, 10, 11, 12, 13, 14, 22, 23, 24, 25, 26, 27, 28, 29, 30, 31, 32, 33, 34, 35, 36, 37, 38, 39, 40, 41, 42, 43, 44, 45, 46, 47, 48, 49, 50, 51, 52, 53, 54, 55, 56, 57, 58, 59, 60, 61, 62, 63, 64, 65, 66, 67] (by decide +kernel) (by decide +kernel)
set_option maxRecDepth 20000 in
theorem gX8_state_X8_isThere : GoodIn wsX8_state (wsV RX8 123 RX8 yX8_isThere wsX8_isThere) := goodIn_app (goodIn_of _ (by decide +kernel)) ggX8_state_X8_isThere
set_option maxRecDepth 20000 in
theorem ggX8_state_X8_in : GoodIn wsX8_state wsX8_in := goodIn_r _ [14] (by decide +kernel) (by decide +kernel)
set_option maxRecDepth 20000 in
theorem gX8_state_X8_in : GoodIn wsX8_state (va_wsS RX8 101 yX8_in wsX8_in) := goodIn_app (goodIn_of _ (by decide +kernel)) ggX8_state_X8_in
set_option maxRecDepth 20000 in
theorem ggX8_state_X8_stateOf : GoodIn wsX8_state wsX8_stateOf := goodIn_r _ [18, 19, 20, 21, 22, 23, 24, 25, 26, 27, 28, 29, 30, 31, 32, 33, 34, 35, 36, 37, 38, 39, 40, 41, 42, 43, 44, 45, 46, 47, 48, 49, 50, 51, 52, 53, 54, 55, 56, 57, 58, 59, 60, 61, 62, 63, 64, 65, 66, 67] (by decide +kernel) (by decide +kernel)
set_option maxRecDepth 20000 in
theorem gX8_state_X8_stateOf : GoodIn wsX8_state (wsV RX8 233 RX8 yX8_stateOf wsX8_stateOf) := goodIn_app (goodIn_of _ (by decide +kernel)) ggX8_state_X8_stateOf
theorem dX8_state_0 : decode cX8_state 0 = .ok (.aload_n 0, 1) := by decide +kernel
theorem dX8_state_1 : decode cX8_state 1 = .ok (.iload_n 1, 1) := by decide +kernel
theorem dX8_state_2 : decode cX8_state 2 = .ok (.invokevirtual 123, 3) := by decide +kernel
theorem dX8_state_5 : decode cX8_state 5 = .ok (.ifCond .ne 5, 3) := by decide +kernel
theorem dX8_state_8 : decode cX8_state 8 = .ok (.iconst (-1), 1) := by decide +kernel
theorem dX8_state_9 : decode cX8_state 9 = .ok (.ireturn, 1) := by decide +kernel
theorem dX8_state_10 : decode cX8_state 10 = .ok (.iload_n 2, 1) := by decide +kernel
theorem dX8_state_11 : decode cX8_state 11 = .ok (.i2l, 1) := by decide +kernel
theorem dX8_state_12 : decode cX8_state 12 = .ok (.lconst 0, 1) := by decide +kernel
theorem dX8_state_13 : decode cX8_state 13 = .ok (.ldc2_w 231, 3) := by decide +kernel
theorem dX8_state_16 : decode cX8_state 16 = .ok (.invokestatic 101, 3) := by decide +kernel
theorem dX8_state_19 : decode cX8_state 19 = .ok (.ifCond .eq 12, 3) := by decide +kernel
theorem dX8_state_22 : decode cX8_state 22 = .ok (.aload_n 0, 1) := by decide +kernel
theorem dX8_state_23 : decode cX8_state 23 = .ok (.iload_n 1, 1) := by decide +kernel
theorem dX8_state_24 : decode cX8_state 24 = .ok (.iload_n 2, 1) := by decide +kernel
theorem dX8_state_25 : decode cX8_state 25 = .ok (.invokevirtual 233, 3) := by decide +kernel
theorem dX8_state_28 : decode cX8_state 28 = .ok (.goto 5, 3) := by decide +kernel
theorem dX8_state_31 : decode cX8_state 31 = .ok (.bipush (-2), 2) := by decide +kernel
theorem dX8_state_33 : decode cX8_state 33 = .ok (.ireturn, 1) := by decide +kernel
set_option maxRecDepth 20000 in
theorem ggX8_behind_X8_isThere : GoodIn wsX8_behind wsX8_isThere := goodIn_r _ [7, 8, 9, 10, 6, 11, 12, 13, 14, 15, 103, 104, 105, 106, 107, 108, 109, 110, 111, 112, 113, 114, 115, 116, 117, 118, 119, 120, 121, 122, 123, 124, 125, 126, 127, 128, 129, 130, 131, 132, 133, 134, 135, 136, 137, 138, 139, 140, 141, 142, 143, 144, 145, 146, 147, 148] (by decide +kernel) (by decide +kernel)
set_option maxRecDepth 20000 in
theorem gX8_behind_X8_isThere : GoodIn wsX8_behind (wsV RX8 123 RX8 yX8_isThere wsX8_isThere) := goodIn_app (goodIn_of _ (by decide +kernel)) ggX8_behind_X8_isThere
set_option maxRecDepth 20000 in
theorem ggX8_behind_X8_in : GoodIn wsX8_behind wsX8_in := goodIn_r _ [15] (by decide +kernel) (by decide +kernel)
set_option maxRecDepth 20000 in
theorem gX8_behind_X8_in : GoodIn wsX8_behind (va_wsS RX8 101 yX8_in wsX8_in) := goodIn_app (goodIn_of _ (by decide +kernel)) ggX8_behind_X8_in
set_option maxRecDepth 20000 in
theorem ggX8_behind_X8_fault : GoodIn wsX8_behind wsX8_fault := goodIn_r _ [19, 20, 21, 22, 23, 24, 25, 26, 6, 27, 28, 29, 30, 31, 32, 33, 34, 35, 13, 14, 15, 36, 37, 38, 39, 103, 104, 105, 106, 107, 108, 109, 110, 111, 112, 113, 114, 115, 116, 117, 118, 119, 120, 121, 122, 123, 124, 125, 126, 127, 128, 129, 130, 131, 132, 133, 134, 135, 136, 137, 138, 139, 140, 141, 142, 143, 144, 145, 146, 147, 148] (by decide +kernel) (by decide +kernel)
set_option maxRecDepth 20000 in
theorem gX8_behind_X8_fault : GoodIn wsX8_behind (wsV RX8 219 RX8 yX8_fault wsX8_fault) := goodIn_app (goodIn_of _ (by decide +kernel)) ggX8_behind_X8_fault
set_option maxRecDepth 20000 in
theorem ggX8_behind_X8_keepNow : GoodIn wsX8_behind wsX8_keepNow := goodIn_r _ [43, 44, 45, 46, 47, 48, 49, 50, 51, 103, 104, 105, 106, 107, 108, 109, 110, 111, 112, 113, 114, 115, 116, 117, 118, 119, 120, 121, 122, 123, 124, 125, 126, 127, 128, 129, 130, 131, 132, 133, 134, 135, 136, 137, 138, 139, 140, 141, 142, 143, 144, 145, 146, 147, 148] (by decide +kernel) (by decide +kernel)
set_option maxRecDepth 20000 in
theorem gX8_behind_X8_keepNow : GoodIn wsX8_behind (wsV RX8 222 RX8 yX8_keepNow wsX8_keepNow) := goodIn_app (goodIn_of _ (by decide +kernel)) ggX8_behind_X8_keepNow
set_option maxRecDepth 20000 in
theorem ggX8_behind_X8_goSummer : GoodIn wsX8_behind wsX8_goSummer := goodIn_r _ [55, 2, 56, 57, 58, 59, 20, 23, 28, 29, 32, 60, 61, 62, 6, 63, 47, 64, 49, 65, 66, 67, 68, 69, 70, 71, 45, 72, 3, 4, 5, 7, 8, 9, 10, 11, 12, 13, 14, 15, 73, 74, 75, 76, 77, 78, 79, 80, 81, 82, 83, 84, 85, 86, 50, 87, 88, 89, 90, 91, 92, 93, 94, 103, 104, 105, 106, 107, 108, 109, 110, 111, 112, 113, 114, 115, 116, 117, 118, 119, 120, 121, 122, 123, 124, 125, 126, 127, 128, 129, 130, 131, 132, 133, 134, 135, 136, 137, 138, 139, 140, 141, 142, 143, 144, 145, 146, 147, 148] (by decide +kernel) (by decide +kernel)
set_option maxRecDepth 20000 in
theorem gX8_behind_X8_goSummer : GoodIn wsX8_behind (wsV RX8 225 RX8 yX8_goSummer wsX8_goSummer) := goodIn_app (goodIn_of _ (by decide +kernel)) ggX8_behind_X8_goSummer
set_option maxRecDepth 20000 in
theorem ggX8_behind_X8_stateOf : GoodIn wsX8_behind wsX8_stateOf := goodIn_r _ [98, 47, 45, 49, 103, 104, 105, 106, 107, 108, 109, 110, 111, 112, 113, 114, 115, 116, 117, 118, 119, 120, 121, 122, 123, 124, 125, 126, 127, 128, 129, 130, 131, 132, 133, 134, 135, 136, 137, 138, 139, 140, 141, 142, 143, 144, 145, 146, 147, 148] (by decide +kernel) (by decide +kernel)
set_option maxRecDepth 20000 in
theorem gX8_behind_X8_stateOf : GoodIn wsX8_behind (wsV RX8 233 RX8 yX8_stateOf wsX8_stateOf) := goodIn_app (goodIn_of _ (by decide +kernel)) ggX8_behind_X8_stateOf
set_option maxRecDepth 20000 in
theorem ggX8_behind_X8_putBack : GoodIn wsX8_behind wsX8_putBack := goodIn_r _ [102, 45, 44, 47, 46, 49, 48, 51, 50, 103, 104, 105, 106, 107, 108, 109, 110, 111, 112, 113, 114, 115, 116, 117, 118, 119, 120, 121, 122, 123, 124, 125, 126, 127, 128, 129, 130, 131, 132, 133, 134, 135, 136, 137, 138, 139, 140, 141, 142, 143, 144, 145, 146, 147, 148] (by decide +kernel) (by decide +kernel)
set_option maxRecDepth 20000 in
theorem gX8_behind_X8_putBack : GoodIn wsX8_behind (wsV RX8 228 RX8 yX8_putBack wsX8_putBack) := goodIn_app (goodIn_of _ (by decide +kernel)) ggX8_behind_X8_putBack
theorem dX8_behind_0 : decode cX8_behind 0 = .ok (.aload_n 0, 1) := by decide +kernel
theorem dX8_behind_1 : decode cX8_behind 1 = .ok (.iload_n 1, 1) := by decide +kernel
theorem dX8_behind_2 : decode cX8_behind 2 = .ok (.invokevirtual 123, 3) := by decide +kernel
theorem dX8_behind_5 : decode cX8_behind 5 = .ok (.ifCond .ne 5, 3) := by decide +kernel
theorem dX8_behind_8 : decode cX8_behind 8 = .ok (.iconst (-1), 1) := by decide +kernel
theorem dX8_behind_9 : decode cX8_behind 9 = .ok (.ireturn, 1) := by decide +kernel
theorem dX8_behind_10 : decode cX8_behind 10 = .ok (.iload_n 2, 1) := by decide +kernel
theorem dX8_behind_11 : decode cX8_behind 11 = .ok (.i2l, 1) := by decide +kernel
theorem dX8_behind_12 : decode cX8_behind 12 = .ok (.lconst 0, 1) := by decide +kernel
theorem dX8_behind_13 : decode cX8_behind 13 = .ok (.ldc2_w 231, 3) := by decide +kernel
theorem dX8_behind_16 : decode cX8_behind 16 = .ok (.invokestatic 101, 3) := by decide +kernel
theorem dX8_behind_19 : decode cX8_behind 19 = .ok (.ifCond .ne 6, 3) := by decide +kernel
theorem dX8_behind_22 : decode cX8_behind 22 = .ok (.bipush (-2), 2) := by decide +kernel
theorem dX8_behind_24 : decode cX8_behind 24 = .ok (.ireturn, 1) := by decide +kernel
theorem dX8_behind_25 : decode cX8_behind 25 = .ok (.aload_n 0, 1) := by decide +kernel
theorem dX8_behind_26 : decode cX8_behind 26 = .ok (.invokevirtual 219, 3) := by decide +kernel
theorem dX8_behind_29 : decode cX8_behind 29 = .ok (.ifCond .lt 6, 3) := by decide +kernel
theorem dX8_behind_32 : decode cX8_behind 32 = .ok (.bipush (-5), 2) := by decide +kernel
theorem dX8_behind_34 : decode cX8_behind 34 = .ok (.ireturn, 1) := by decide +kernel
theorem dX8_behind_35 : decode cX8_behind 35 = .ok (.aload_n 0, 1) := by decide +kernel
theorem dX8_behind_36 : decode cX8_behind 36 = .ok (.invokevirtual 222, 3) := by decide +kernel
theorem dX8_behind_39 : decode cX8_behind 39 = .ok (.aload_n 0, 1) := by decide +kernel
theorem dX8_behind_40 : decode cX8_behind 40 = .ok (.invokevirtual 225, 3) := by decide +kernel
theorem dX8_behind_43 : decode cX8_behind 43 = .ok (.aload_n 0, 1) := by decide +kernel
theorem dX8_behind_44 : decode cX8_behind 44 = .ok (.iload_n 1, 1) := by decide +kernel
theorem dX8_behind_45 : decode cX8_behind 45 = .ok (.iload_n 2, 1) := by decide +kernel
theorem dX8_behind_46 : decode cX8_behind 46 = .ok (.invokevirtual 233, 3) := by decide +kernel
theorem dX8_behind_49 : decode cX8_behind 49 = .ok (.istore_n 3, 1) := by decide +kernel
theorem dX8_behind_50 : decode cX8_behind 50 = .ok (.aload_n 0, 1) := by decide +kernel
theorem dX8_behind_51 : decode cX8_behind 51 = .ok (.invokevirtual 228, 3) := by decide +kernel
theorem dX8_behind_54 : decode cX8_behind 54 = .ok (.aload_n 0, 1) := by decide +kernel
theorem dX8_behind_55 : decode cX8_behind 55 = .ok (.getfield 200, 3) := by decide +kernel
theorem dX8_behind_58 : decode cX8_behind 58 = .ok (.ifCond .lt 8, 3) := by decide +kernel
theorem dX8_behind_61 : decode cX8_behind 61 = .ok (.bipush (-3), 2) := by decide +kernel
theorem dX8_behind_63 : decode cX8_behind 63 = .ok (.goto 4, 3) := by decide +kernel
theorem dX8_behind_66 : decode cX8_behind 66 = .ok (.iload_n 3, 1) := by decide +kernel
theorem dX8_behind_67 : decode cX8_behind 67 = .ok (.ireturn, 1) := by decide +kernel
set_option maxRecDepth 20000 in
theorem ggX8_done_X8_fault : GoodIn wsX8_done wsX8_fault := goodIn_r _ [8, 3, 2, 9, 10, 11, 12, 13, 7, 14, 15, 16, 17, 18, 19, 20, 21, 22, 23, 24, 25, 26, 27, 28, 29, 98, 99, 100, 101, 102, 103, 104, 105, 106, 107, 108, 109, 110, 111, 112, 113, 114, 115, 116, 117, 118, 119, 120, 121, 122, 123, 124, 125, 126, 127, 128, 129, 130, 131, 132, 133, 134, 135, 136, 137, 138, 139, 140, 141, 142, 143] (by decide +kernel) (by decide +kernel)
set_option maxRecDepth 20000 in
theorem gX8_done_X8_fault : GoodIn wsX8_done (wsV RX8 219 RX8 yX8_fault wsX8_fault) := goodIn_app (goodIn_of _ (by decide +kernel)) ggX8_done_X8_fault
set_option maxRecDepth 20000 in
theorem ggX8_done_X8_keepNow : GoodIn wsX8_done wsX8_keepNow := goodIn_r _ [33, 34, 35, 36, 37, 38, 39, 40, 41, 98, 99, 100, 101, 102, 103, 104, 105, 106, 107, 108, 109, 110, 111, 112, 113, 114, 115, 116, 117, 118, 119, 120, 121, 122, 123, 124, 125, 126, 127, 128, 129, 130, 131, 132, 133, 134, 135, 136, 137, 138, 139, 140, 141, 142, 143] (by decide +kernel) (by decide +kernel)
set_option maxRecDepth 20000 in
theorem gX8_done_X8_keepNow : GoodIn wsX8_done (wsV RX8 222 RX8 yX8_keepNow wsX8_keepNow) := goodIn_app (goodIn_of _ (by decide +kernel)) ggX8_done_X8_keepNow
set_option maxRecDepth 20000 in
theorem ggX8_done_X8_goSummer : GoodIn wsX8_done wsX8_goSummer := goodIn_r _ [45, 1, 46, 47, 48, 49, 3, 10, 15, 16, 19, 50, 51, 52, 7, 53, 37, 54, 39, 55, 56, 57, 58, 59, 60, 61, 35, 62, 63, 64, 65, 66, 67, 68, 69, 70, 71, 23, 24, 25, 72, 73, 74, 75, 76, 77, 78, 79, 80, 81, 82, 83, 84, 85, 40, 86, 87, 88, 89, 90, 91, 92, 93, 98, 99, 100, 101, 102, 103, 104, 105, 106, 107, 108, 109, 110, 111, 112, 113, 114, 115, 116, 117, 118, 119, 120, 121, 122, 123, 124, 125, 126, 127, 128, 129, 130, 131, 132, 133, 134, 135, 136, 137, 138, 139, 140, 141, 142, 143] (by decide +kernel) (by decide +kernel)
set_option maxRecDepth 20000 in
theorem gX8_done_X8_goSummer : GoodIn wsX8_done (wsV RX8 225 RX8 yX8_goSummer wsX8_goSummer) := goodIn_app (goodIn_of _ (by decide +kernel)) ggX8_done_X8_goSummer
set_option maxRecDepth 20000 in
theorem ggX8_done_X8_putBack : GoodIn wsX8_done wsX8_putBack := goodIn_r _ [97, 35, 34, 37, 36, 39, 38, 41, 40, 98, 99, 100, 101, 102, 103, 104, 105, 106, 107, 108, 109, 110, 111, 112, 113, 114, 115, 116, 117, 118, 119, 120, 121, 122, 123, 124, 125, 126, 127, 128, 129, 130, 131, 132, 133, 134, 135, 136, 137, 138, 139, 140, 141, 142, 143] (by decide +kernel) (by decide +kernel)
set_option maxRecDepth 20000 in
theorem gX8_done_X8_putBack : GoodIn wsX8_done (wsV RX8 228 RX8 yX8_putBack wsX8_putBack) := goodIn_app (goodIn_of _ (by decide +kernel)) ggX8_done_X8_putBack
theorem dX8_done_0 : decode cX8_done 0 = .ok (.aload_n 0, 1) := by decide +kernel
theorem dX8_done_1 : decode cX8_done 1 = .ok (.invokevirtual 219, 3) := by decide +kernel
theorem dX8_done_4 : decode cX8_done 4 = .ok (.ifCond .lt 6, 3) := by decide +kernel
theorem dX8_done_7 : decode cX8_done 7 = .ok (.bipush (-5), 2) := by decide +kernel
theorem dX8_done_9 : decode cX8_done 9 = .ok (.ireturn, 1) := by decide +kernel
theorem dX8_done_10 : decode cX8_done 10 = .ok (.aload_n 0, 1) := by decide +kernel
theorem dX8_done_11 : decode cX8_done 11 = .ok (.invokevirtual 222, 3) := by decide +kernel
theorem dX8_done_14 : decode cX8_done 14 = .ok (.aload_n 0, 1) := by decide +kernel
theorem dX8_done_15 : decode cX8_done 15 = .ok (.invokevirtual 225, 3) := by decide +kernel
theorem dX8_done_18 : decode cX8_done 18 = .ok (.aload_n 0, 1) := by decide +kernel
theorem dX8_done_19 : decode cX8_done 19 = .ok (.getfield 200, 3) := by decide +kernel
theorem dX8_done_22 : decode cX8_done 22 = .ok (.ifCond .lt 10, 3) := by decide +kernel
theorem dX8_done_25 : decode cX8_done 25 = .ok (.aload_n 0, 1) := by decide +kernel
theorem dX8_done_26 : decode cX8_done 26 = .ok (.invokevirtual 228, 3) := by decide +kernel
theorem dX8_done_29 : decode cX8_done 29 = .ok (.bipush (-3), 2) := by decide +kernel
theorem dX8_done_31 : decode cX8_done 31 = .ok (.ireturn, 1) := by decide +kernel
theorem dX8_done_32 : decode cX8_done 32 = .ok (.aload_n 0, 1) := by decide +kernel
theorem dX8_done_33 : decode cX8_done 33 = .ok (.iconst 0, 1) := by decide +kernel
theorem dX8_done_34 : decode cX8_done 34 = .ok (.putfield 146, 3) := by decide +kernel
theorem dX8_done_37 : decode cX8_done 37 = .ok (.aload_n 0, 1) := by decide +kernel
theorem dX8_done_38 : decode cX8_done 38 = .ok (.getfield 149, 3) := by decide +kernel
theorem dX8_done_41 : decode cX8_done 41 = .ok (.ireturn, 1) := by decide +kernel
set_option maxRecDepth 20000 in
theorem ggX8_refusal_X8_fault : GoodIn wsX8_refusal wsX8_fault := goodIn_r _ [6, 7, 8, 9, 10, 11, 12, 13, 5, 14, 15, 16, 17, 18, 19, 20, 21, 22, 23, 24, 25, 26, 27, 28, 29, 98, 99, 100, 101, 102, 103, 104, 105, 106, 107, 108, 109, 110, 111, 112, 113, 114, 115, 116, 117, 118, 119, 120, 121, 122, 123, 124, 125, 126, 127, 128, 129, 130, 131, 132, 133, 134, 135, 136, 137, 138, 139, 140, 141, 142, 143] (by decide +kernel) (by decide +kernel)
set_option maxRecDepth 20000 in
theorem gX8_refusal_X8_fault : GoodIn wsX8_refusal (wsV RX8 219 RX8 yX8_fault wsX8_fault) := goodIn_app (goodIn_of _ (by decide +kernel)) ggX8_refusal_X8_fault
set_option maxRecDepth 20000 in
theorem ggX8_refusal_X8_keepNow : GoodIn wsX8_refusal wsX8_keepNow := goodIn_r _ [33, 34, 35, 36, 37, 38, 39, 40, 41, 98, 99, 100, 101, 102, 103, 104, 105, 106, 107, 108, 109, 110, 111, 112, 113, 114, 115, 116, 117, 118, 119, 120, 121, 122, 123, 124, 125, 126, 127, 128, 129, 130, 131, 132, 133, 134, 135, 136, 137, 138, 139, 140, 141, 142, 143] (by decide +kernel) (by decide +kernel)
set_option maxRecDepth 20000 in
theorem gX8_refusal_X8_keepNow : GoodIn wsX8_refusal (wsV RX8 222 RX8 yX8_keepNow wsX8_keepNow) := goodIn_app (goodIn_of _ (by decide +kernel)) ggX8_refusal_X8_keepNow
set_option maxRecDepth 20000 in
theorem ggX8_refusal_X8_goSummer : GoodIn wsX8_refusal wsX8_goSummer := goodIn_r _ [45, 1, 46, 47, 48, 49, 7, 10, 15, 16, 19, 50, 51, 52, 5, 53, 37, 54, 39, 55, 56, 57, 58, 59, 60, 61, 35, 62, 63, 64, 65, 66, 67, 68, 69, 70, 71, 23, 24, 25, 72, 73, 74, 75, 76, 77, 78, 79, 80, 81, 82, 83, 84, 85, 40, 86, 87, 88, 89, 90, 91, 92, 93, 98, 99, 100, 101, 102, 103, 104, 105, 106, 107, 108, 109, 110, 111, 112, 113, 114, 115, 116, 117, 118, 119, 120, 121, 122, 123, 124, 125, 126, 127, 128, 129, 130, 131, 132, 133, 134, 135, 136, 137, 138, 139, 140, 141, 142, 143] (by decide +kernel) (by decide +kernel)
set_option maxRecDepth 20000 in
theorem gX8_refusal_X8_goSummer : GoodIn wsX8_refusal (wsV RX8 225 RX8 yX8_goSummer wsX8_goSummer) := goodIn_app (goodIn_of _ (by decide +kernel)) ggX8_refusal_X8_goSummer
set_option maxRecDepth 20000 in
theorem ggX8_refusal_X8_putBack : GoodIn wsX8_refusal wsX8_putBack := goodIn_r _ [97, 35, 34, 37, 36, 39, 38, 41, 40, 98, 99, 100, 101, 102, 103, 104, 105, 106, 107, 108, 109, 110, 111, 112, 113, 114, 115, 116, 117, 118, 119, 120, 121, 122, 123, 124, 125, 126, 127, 128, 129, 130, 131, 132, 133, 134, 135, 136, 137, 138, 139, 140, 141, 142, 143] (by decide +kernel) (by decide +kernel)
set_option maxRecDepth 20000 in
theorem gX8_refusal_X8_putBack : GoodIn wsX8_refusal (wsV RX8 228 RX8 yX8_putBack wsX8_putBack) := goodIn_app (goodIn_of _ (by decide +kernel)) ggX8_refusal_X8_putBack
theorem dX8_refusal_0 : decode cX8_refusal 0 = .ok (.aload_n 0, 1) := by decide +kernel
theorem dX8_refusal_1 : decode cX8_refusal 1 = .ok (.invokevirtual 219, 3) := by decide +kernel
theorem dX8_refusal_4 : decode cX8_refusal 4 = .ok (.ifCond .lt 6, 3) := by decide +kernel
theorem dX8_refusal_7 : decode cX8_refusal 7 = .ok (.bipush (-5), 2) := by decide +kernel
theorem dX8_refusal_9 : decode cX8_refusal 9 = .ok (.ireturn, 1) := by decide +kernel
theorem dX8_refusal_10 : decode cX8_refusal 10 = .ok (.aload_n 0, 1) := by decide +kernel
theorem dX8_refusal_11 : decode cX8_refusal 11 = .ok (.invokevirtual 222, 3) := by decide +kernel
theorem dX8_refusal_14 : decode cX8_refusal 14 = .ok (.aload_n 0, 1) := by decide +kernel
theorem dX8_refusal_15 : decode cX8_refusal 15 = .ok (.invokevirtual 225, 3) := by decide +kernel
theorem dX8_refusal_18 : decode cX8_refusal 18 = .ok (.aload_n 0, 1) := by decide +kernel
theorem dX8_refusal_19 : decode cX8_refusal 19 = .ok (.invokevirtual 228, 3) := by decide +kernel
theorem dX8_refusal_22 : decode cX8_refusal 22 = .ok (.aload_n 0, 1) := by decide +kernel
theorem dX8_refusal_23 : decode cX8_refusal 23 = .ok (.getfield 200, 3) := by decide +kernel
theorem dX8_refusal_26 : decode cX8_refusal 26 = .ok (.ifCond .lt 8, 3) := by decide +kernel
theorem dX8_refusal_29 : decode cX8_refusal 29 = .ok (.bipush (-3), 2) := by decide +kernel
theorem dX8_refusal_31 : decode cX8_refusal 31 = .ok (.goto 5, 3) := by decide +kernel
theorem dX8_refusal_34 : decode cX8_refusal 34 = .ok (.bipush (-6), 2) := by decide +kernel
theorem dX8_refusal_36 : decode cX8_refusal 36 = .ok (.ireturn, 1) := by decide +kernel
theorem dX8_daresOf_0 : decode cX8_daresOf 0 = .ok (.iconst 0, 1) := by decide +kernel
theorem dX8_daresOf_1 : decode cX8_daresOf 1 = .ok (.istore_n 3, 1) := by decide +kernel
theorem dX8_daresOf_2 : decode cX8_daresOf 2 = .ok (.iconst 0, 1) := by decide +kernel
theorem dX8_daresOf_3 : decode cX8_daresOf 3 = .ok (.istore 4, 2) := by decide +kernel
theorem dX8_daresOf_5 : decode cX8_daresOf 5 = .ok (.iload 4, 2) := by decide +kernel
theorem dX8_daresOf_7 : decode cX8_daresOf 7 = .ok (.aload_n 0, 1) := by decide +kernel
theorem dX8_daresOf_8 : decode cX8_daresOf 8 = .ok (.getfield 149, 3) := by decide +kernel
theorem dX8_daresOf_11 : decode cX8_daresOf 11 = .ok (.if_icmp .ge 49, 3) := by decide +kernel
theorem dX8_daresOf_14 : decode cX8_daresOf 14 = .ok (.iload_n 3, 1) := by decide +kernel
theorem dX8_daresOf_15 : decode cX8_daresOf 15 = .ok (.aload_n 0, 1) := by decide +kernel
theorem dX8_daresOf_16 : decode cX8_daresOf 16 = .ok (.getfield 43, 3) := by decide +kernel
theorem dX8_daresOf_19 : decode cX8_daresOf 19 = .ok (.iload 4, 2) := by decide +kernel
theorem dX8_daresOf_21 : decode cX8_daresOf 21 = .ok (.iaload, 1) := by decide +kernel
theorem dX8_daresOf_22 : decode cX8_daresOf 22 = .ok (.ifCond .le 29, 3) := by decide +kernel
theorem dX8_daresOf_25 : decode cX8_daresOf 25 = .ok (.aload_n 0, 1) := by decide +kernel
theorem dX8_daresOf_26 : decode cX8_daresOf 26 = .ok (.getfield 46, 3) := by decide +kernel
theorem dX8_daresOf_29 : decode cX8_daresOf 29 = .ok (.iload 4, 2) := by decide +kernel
theorem dX8_daresOf_31 : decode cX8_daresOf 31 = .ok (.iaload, 1) := by decide +kernel
theorem dX8_daresOf_32 : decode cX8_daresOf 32 = .ok (.iload_n 1, 1) := by decide +kernel
theorem dX8_daresOf_33 : decode cX8_daresOf 33 = .ok (.if_icmp .ne 18, 3) := by decide +kernel
theorem dX8_daresOf_36 : decode cX8_daresOf 36 = .ok (.aload_n 0, 1) := by decide +kernel
theorem dX8_daresOf_37 : decode cX8_daresOf 37 = .ok (.getfield 49, 3) := by decide +kernel
theorem dX8_daresOf_40 : decode cX8_daresOf 40 = .ok (.iload 4, 2) := by decide +kernel
theorem dX8_daresOf_42 : decode cX8_daresOf 42 = .ok (.iaload, 1) := by decide +kernel
theorem dX8_daresOf_43 : decode cX8_daresOf 43 = .ok (.iload_n 2, 1) := by decide +kernel
theorem dX8_daresOf_44 : decode cX8_daresOf 44 = .ok (.if_icmp .ne 7, 3) := by decide +kernel
theorem dX8_daresOf_47 : decode cX8_daresOf 47 = .ok (.iconst 1, 1) := by decide +kernel
theorem dX8_daresOf_48 : decode cX8_daresOf 48 = .ok (.goto 4, 3) := by decide +kernel
theorem dX8_daresOf_51 : decode cX8_daresOf 51 = .ok (.iconst 0, 1) := by decide +kernel
theorem dX8_daresOf_52 : decode cX8_daresOf 52 = .ok (.iadd, 1) := by decide +kernel
theorem dX8_daresOf_53 : decode cX8_daresOf 53 = .ok (.istore_n 3, 1) := by decide +kernel
theorem dX8_daresOf_54 : decode cX8_daresOf 54 = .ok (.iinc 4 1, 3) := by decide +kernel
theorem dX8_daresOf_57 : decode cX8_daresOf 57 = .ok (.goto (-52), 3) := by decide +kernel
theorem dX8_daresOf_60 : decode cX8_daresOf 60 = .ok (.iload_n 3, 1) := by decide +kernel
theorem dX8_daresOf_61 : decode cX8_daresOf 61 = .ok (.ireturn, 1) := by decide +kernel
set_option maxRecDepth 20000 in
theorem ggX8_ties_X8_in : GoodIn wsX8_ties wsX8_in := goodIn_r _ [4] (by decide +kernel) (by decide +kernel)
set_option maxRecDepth 20000 in
theorem gX8_ties_X8_in : GoodIn wsX8_ties (va_wsS RX8 101 yX8_in wsX8_in) := goodIn_app (goodIn_of _ (by decide +kernel)) ggX8_ties_X8_in
set_option maxRecDepth 20000 in
theorem ggX8_ties_X8_refusal : GoodIn wsX8_ties wsX8_refusal := goodIn_r _ [8, 9, 10, 11, 12, 3, 13, 14, 15, 16, 17, 18, 19, 20, 21, 22, 23, 24, 25, 26, 27, 28, 29, 1, 2, 4, 30, 31, 32, 33, 34, 35, 36, 37, 38, 39, 40, 41, 42, 43, 44, 45, 46, 47, 48, 49, 50, 51, 52, 53, 54, 55, 56, 57, 58, 59, 60, 61, 62, 63, 64, 65, 66, 67, 68, 69, 70, 71, 72, 73, 74, 75, 76, 77, 78, 79, 80, 81, 82, 83, 84, 85, 86, 87, 88, 89, 90, 91, 92, 93, 94, 95, 96, 97, 98, 99, 100, 101, 106, 107, 108, 109, 110, 111, 112, 113, 114, 115, 116, 117, 118, 119, 120, 121, 122, 123, 124, 125, 126, 127, 128, 129, 130, 131, 132, 133, 134, 135, 136, 137, 138, 139, 140, 141, 142, 143, 144, 145, 146, 147, 148, 149, 150, 151] (by decide +kernel) (by decide +kernel)
set_option maxRecDepth 20000 in
theorem gX8_ties_X8_refusal : GoodIn wsX8_ties (wsV RX8 236 RX8 yX8_refusal wsX8_refusal) := goodIn_app (goodIn_of _ (by decide +kernel)) ggX8_ties_X8_refusal
set_option maxRecDepth 20000 in
theorem ggX8_ties_X8_daresOf : GoodIn wsX8_ties wsX8_daresOf := goodIn_r _ [105, 14, 17, 22, 23, 106, 107, 108, 109, 110, 111, 112, 113, 114, 115, 116, 117, 118, 119, 120, 121, 122, 123, 124, 125, 126, 127, 128, 129, 130, 131, 132, 133, 134, 135, 136, 137, 138, 139, 140, 141, 142, 143, 144, 145, 146, 147, 148, 149, 150, 151] (by decide +kernel) (by decide +kernel)
set_option maxRecDepth 20000 in
theorem gX8_ties_X8_daresOf : GoodIn wsX8_ties (wsV RX8 239 RX8 yX8_daresOf wsX8_daresOf) := goodIn_app (goodIn_of _ (by decide +kernel)) ggX8_ties_X8_daresOf
set_option maxRecDepth 20000 in
theorem ggX8_ties_X8_most : GoodIn wsX8_ties wsX8_most := goodIn_r _ [61] (by decide +kernel) (by decide +kernel)
set_option maxRecDepth 20000 in
theorem gX8_ties_X8_most : GoodIn wsX8_ties (va_wsS RX8 174 yX8_most wsX8_most) := goodIn_app (goodIn_of _ (by decide +kernel)) ggX8_ties_X8_most
theorem dX8_ties_0 : decode cX8_ties 0 = .ok (.iload_n 1, 1) := by decide +kernel
theorem dX8_ties_1 : decode cX8_ties 1 = .ok (.i2l, 1) := by decide +kernel
theorem dX8_ties_2 : decode cX8_ties 2 = .ok (.lconst 0, 1) := by decide +kernel
theorem dX8_ties_3 : decode cX8_ties 3 = .ok (.lconst 1, 1) := by decide +kernel
theorem dX8_ties_4 : decode cX8_ties 4 = .ok (.invokestatic 101, 3) := by decide +kernel
theorem dX8_ties_7 : decode cX8_ties 7 = .ok (.ifCond .ne 6, 3) := by decide +kernel
theorem dX8_ties_10 : decode cX8_ties 10 = .ok (.bipush (-2), 2) := by decide +kernel
theorem dX8_ties_12 : decode cX8_ties 12 = .ok (.ireturn, 1) := by decide +kernel
theorem dX8_ties_13 : decode cX8_ties 13 = .ok (.aload_n 0, 1) := by decide +kernel
theorem dX8_ties_14 : decode cX8_ties 14 = .ok (.invokevirtual 236, 3) := by decide +kernel
theorem dX8_ties_17 : decode cX8_ties 17 = .ok (.istore_n 2, 1) := by decide +kernel
theorem dX8_ties_18 : decode cX8_ties 18 = .ok (.iload_n 2, 1) := by decide +kernel
theorem dX8_ties_19 : decode cX8_ties 19 = .ok (.bipush (-6), 2) := by decide +kernel
theorem dX8_ties_21 : decode cX8_ties 21 = .ok (.if_icmp .eq 5, 3) := by decide +kernel
theorem dX8_ties_24 : decode cX8_ties 24 = .ok (.iload_n 2, 1) := by decide +kernel
theorem dX8_ties_25 : decode cX8_ties 25 = .ok (.ireturn, 1) := by decide +kernel
theorem dX8_ties_26 : decode cX8_ties 26 = .ok (.bipush (-6), 2) := by decide +kernel
theorem dX8_ties_28 : decode cX8_ties 28 = .ok (.istore_n 3, 1) := by decide +kernel
theorem dX8_ties_29 : decode cX8_ties 29 = .ok (.iconst 0, 1) := by decide +kernel
theorem dX8_ties_30 : decode cX8_ties 30 = .ok (.istore 4, 2) := by decide +kernel
theorem dX8_ties_32 : decode cX8_ties 32 = .ok (.iconst 0, 1) := by decide +kernel
theorem dX8_ties_33 : decode cX8_ties 33 = .ok (.istore 5, 2) := by decide +kernel
theorem dX8_ties_35 : decode cX8_ties 35 = .ok (.iload 5, 2) := by decide +kernel
theorem dX8_ties_37 : decode cX8_ties 37 = .ok (.bipush 36, 2) := by decide +kernel
theorem dX8_ties_39 : decode cX8_ties 39 = .ok (.if_icmp .ge 60, 3) := by decide +kernel
theorem dX8_ties_42 : decode cX8_ties 42 = .ok (.aload_n 0, 1) := by decide +kernel
theorem dX8_ties_43 : decode cX8_ties 43 = .ok (.iload 5, 2) := by decide +kernel
theorem dX8_ties_45 : decode cX8_ties 45 = .ok (.bipush 6, 2) := by decide +kernel
theorem dX8_ties_47 : decode cX8_ties 47 = .ok (.idiv, 1) := by decide +kernel
theorem dX8_ties_48 : decode cX8_ties 48 = .ok (.iload 5, 2) := by decide +kernel
theorem dX8_ties_50 : decode cX8_ties 50 = .ok (.bipush 6, 2) := by decide +kernel
theorem dX8_ties_52 : decode cX8_ties 52 = .ok (.irem, 1) := by decide +kernel
theorem dX8_ties_53 : decode cX8_ties 53 = .ok (.invokevirtual 239, 3) := by decide +kernel
theorem dX8_ties_56 : decode cX8_ties 56 = .ok (.istore 6, 2) := by decide +kernel
theorem dX8_ties_58 : decode cX8_ties 58 = .ok (.iload 6, 2) := by decide +kernel
theorem dX8_ties_60 : decode cX8_ties 60 = .ok (.iload 4, 2) := by decide +kernel
theorem dX8_ties_62 : decode cX8_ties 62 = .ok (.if_icmp .le 20, 3) := by decide +kernel
theorem dX8_ties_65 : decode cX8_ties 65 = .ok (.bipush 10, 2) := by decide +kernel
theorem dX8_ties_67 : decode cX8_ties 67 = .ok (.iload 5, 2) := by decide +kernel
theorem dX8_ties_69 : decode cX8_ties 69 = .ok (.bipush 6, 2) := by decide +kernel
theorem dX8_ties_71 : decode cX8_ties 71 = .ok (.idiv, 1) := by decide +kernel
theorem dX8_ties_72 : decode cX8_ties 72 = .ok (.imul, 1) := by decide +kernel
theorem dX8_ties_73 : decode cX8_ties 73 = .ok (.iload 5, 2) := by decide +kernel
theorem dX8_ties_75 : decode cX8_ties 75 = .ok (.bipush 6, 2) := by decide +kernel
theorem dX8_ties_77 : decode cX8_ties 77 = .ok (.irem, 1) := by decide +kernel
theorem dX8_ties_78 : decode cX8_ties 78 = .ok (.iadd, 1) := by decide +kernel
theorem dX8_ties_79 : decode cX8_ties 79 = .ok (.goto 4, 3) := by decide +kernel
theorem dX8_ties_82 : decode cX8_ties 82 = .ok (.iload_n 3, 1) := by decide +kernel
theorem dX8_ties_83 : decode cX8_ties 83 = .ok (.istore_n 3, 1) := by decide +kernel
theorem dX8_ties_84 : decode cX8_ties 84 = .ok (.iload 4, 2) := by decide +kernel
theorem dX8_ties_86 : decode cX8_ties 86 = .ok (.iload 6, 2) := by decide +kernel
theorem dX8_ties_88 : decode cX8_ties 88 = .ok (.invokestatic 174, 3) := by decide +kernel
theorem dX8_ties_91 : decode cX8_ties 91 = .ok (.istore 4, 2) := by decide +kernel
theorem dX8_ties_93 : decode cX8_ties 93 = .ok (.iinc 5 1, 3) := by decide +kernel
theorem dX8_ties_96 : decode cX8_ties 96 = .ok (.goto (-61), 3) := by decide +kernel
theorem dX8_ties_99 : decode cX8_ties 99 = .ok (.iload_n 3, 1) := by decide +kernel
theorem dX8_ties_100 : decode cX8_ties 100 = .ok (.ifCond .lt 7, 3) := by decide +kernel
theorem dX8_ties_103 : decode cX8_ties 103 = .ok (.iload_n 1, 1) := by decide +kernel
theorem dX8_ties_104 : decode cX8_ties 104 = .ok (.ifCond .ne 7, 3) := by decide +kernel
theorem dX8_ties_107 : decode cX8_ties 107 = .ok (.iload_n 3, 1) := by decide +kernel
theorem dX8_ties_108 : decode cX8_ties 108 = .ok (.goto 5, 3) := by decide +kernel
theorem dX8_ties_111 : decode cX8_ties 111 = .ok (.iload 4, 2) := by decide +kernel
theorem dX8_ties_113 : decode cX8_ties 113 = .ok (.ireturn, 1) := by decide +kernel
theorem dX8_lowest_0 : decode cX8_lowest 0 = .ok (.lload_n 2, 1) := by decide +kernel
theorem dX8_lowest_1 : decode cX8_lowest 1 = .ok (.lstore 5, 2) := by decide +kernel
theorem dX8_lowest_3 : decode cX8_lowest 3 = .ok (.lload_n 0, 1) := by decide +kernel
theorem dX8_lowest_4 : decode cX8_lowest 4 = .ok (.lstore 7, 2) := by decide +kernel
theorem dX8_lowest_6 : decode cX8_lowest 6 = .ok (.lload 7, 2) := by decide +kernel
theorem dX8_lowest_8 : decode cX8_lowest 8 = .ok (.lconst 0, 1) := by decide +kernel
theorem dX8_lowest_9 : decode cX8_lowest 9 = .ok (.lcmp, 1) := by decide +kernel
theorem dX8_lowest_10 : decode cX8_lowest 10 = .ok (.ifCond .eq 21, 3) := by decide +kernel
theorem dX8_lowest_13 : decode cX8_lowest 13 = .ok (.lload 5, 2) := by decide +kernel
theorem dX8_lowest_15 : decode cX8_lowest 15 = .ok (.lload 7, 2) := by decide +kernel
theorem dX8_lowest_17 : decode cX8_lowest 17 = .ok (.lrem, 1) := by decide +kernel
theorem dX8_lowest_18 : decode cX8_lowest 18 = .ok (.lstore 9, 2) := by decide +kernel
theorem dX8_lowest_20 : decode cX8_lowest 20 = .ok (.lload 7, 2) := by decide +kernel
theorem dX8_lowest_22 : decode cX8_lowest 22 = .ok (.lstore 5, 2) := by decide +kernel
theorem dX8_lowest_24 : decode cX8_lowest 24 = .ok (.lload 9, 2) := by decide +kernel
theorem dX8_lowest_26 : decode cX8_lowest 26 = .ok (.lstore 7, 2) := by decide +kernel
theorem dX8_lowest_28 : decode cX8_lowest 28 = .ok (.goto (-22), 3) := by decide +kernel
theorem dX8_lowest_31 : decode cX8_lowest 31 = .ok (.iload 4, 2) := by decide +kernel
theorem dX8_lowest_33 : decode cX8_lowest 33 = .ok (.ifCond .ne 10, 3) := by decide +kernel
theorem dX8_lowest_36 : decode cX8_lowest 36 = .ok (.lload_n 0, 1) := by decide +kernel
theorem dX8_lowest_37 : decode cX8_lowest 37 = .ok (.lload 5, 2) := by decide +kernel
theorem dX8_lowest_39 : decode cX8_lowest 39 = .ok (.ldiv, 1) := by decide +kernel
theorem dX8_lowest_40 : decode cX8_lowest 40 = .ok (.goto 7, 3) := by decide +kernel
theorem dX8_lowest_43 : decode cX8_lowest 43 = .ok (.lload_n 2, 1) := by decide +kernel
theorem dX8_lowest_44 : decode cX8_lowest 44 = .ok (.lload 5, 2) := by decide +kernel
theorem dX8_lowest_46 : decode cX8_lowest 46 = .ok (.ldiv, 1) := by decide +kernel
theorem dX8_lowest_47 : decode cX8_lowest 47 = .ok (.lreturn, 1) := by decide +kernel
theorem dX8_tens_0 : decode cX8_tens 0 = .ok (.lconst 1, 1) := by decide +kernel
theorem dX8_tens_1 : decode cX8_tens 1 = .ok (.lstore_n 1, 1) := by decide +kernel
theorem dX8_tens_2 : decode cX8_tens 2 = .ok (.iconst 0, 1) := by decide +kernel
theorem dX8_tens_3 : decode cX8_tens 3 = .ok (.istore_n 3, 1) := by decide +kernel
theorem dX8_tens_4 : decode cX8_tens 4 = .ok (.iload_n 3, 1) := by decide +kernel
theorem dX8_tens_5 : decode cX8_tens 5 = .ok (.iload_n 0, 1) := by decide +kernel
theorem dX8_tens_6 : decode cX8_tens 6 = .ok (.if_icmp .ge 15, 3) := by decide +kernel
theorem dX8_tens_9 : decode cX8_tens 9 = .ok (.lload_n 1, 1) := by decide +kernel
theorem dX8_tens_10 : decode cX8_tens 10 = .ok (.ldc2_w 242, 3) := by decide +kernel
theorem dX8_tens_13 : decode cX8_tens 13 = .ok (.lmul, 1) := by decide +kernel
theorem dX8_tens_14 : decode cX8_tens 14 = .ok (.lstore_n 1, 1) := by decide +kernel
theorem dX8_tens_15 : decode cX8_tens 15 = .ok (.iinc 3 1, 3) := by decide +kernel
theorem dX8_tens_18 : decode cX8_tens 18 = .ok (.goto (-14), 3) := by decide +kernel
theorem dX8_tens_21 : decode cX8_tens 21 = .ok (.lload_n 1, 1) := by decide +kernel
theorem dX8_tens_22 : decode cX8_tens 22 = .ok (.lreturn, 1) := by decide +kernel
set_option maxRecDepth 20000 in
theorem ggX8_unhurt_X8_in : GoodIn wsX8_unhurt wsX8_in := goodIn_r _ [12] (by decide +kernel) (by decide +kernel)
set_option maxRecDepth 20000 in
theorem gX8_unhurt_X8_in : GoodIn wsX8_unhurt (va_wsS RX8 101 yX8_in wsX8_in) := goodIn_app (goodIn_of _ (by decide +kernel)) ggX8_unhurt_X8_in
set_option maxRecDepth 20000 in
theorem ggX8_unhurt_X8_refusal : GoodIn wsX8_unhurt wsX8_refusal := goodIn_r _ [16, 17, 18, 19, 20, 11, 21, 3, 22, 23, 4, 24, 25, 26, 27, 5, 7, 28, 29, 6, 30, 31, 32, 9, 10, 12, 33, 34, 35, 36, 37, 38, 39, 40, 41, 42, 43, 44, 45, 46, 47, 48, 49, 50, 51, 52, 53, 54, 55, 56, 57, 58, 59, 60, 61, 62, 63, 64, 65, 66, 67, 68, 69, 70, 71, 72, 73, 74, 75, 76, 77, 78, 79, 80, 81, 82, 83, 84, 85, 86, 87, 88, 89, 90, 91, 92, 93, 94, 95, 96, 97, 98, 99, 100, 101, 102, 103, 104, 112, 113, 114, 115, 116, 117, 118, 119, 120, 121, 122, 123, 124, 125, 126, 127, 128, 129, 130, 131, 132, 133, 134, 135, 136, 137, 138, 139, 140, 141, 142, 143, 144, 145, 146, 147, 148, 149, 150, 151, 152, 153, 154, 155, 156, 157] (by decide +kernel) (by decide +kernel)
set_option maxRecDepth 20000 in
theorem gX8_unhurt_X8_refusal : GoodIn wsX8_unhurt (wsV RX8 236 RX8 yX8_refusal wsX8_refusal) := goodIn_app (goodIn_of _ (by decide +kernel)) ggX8_unhurt_X8_refusal
set_option maxRecDepth 20000 in
theorem ggX8_unhurt_X8_oddsOf : GoodIn wsX8_unhurt wsX8_oddsOf := goodIn_r _ [98, 99, 100, 112, 113, 114, 115, 116, 117, 118, 119, 120, 121, 122, 123, 124, 125, 126, 127, 128, 129, 130, 131, 132, 133, 134, 135, 136, 137, 138, 139, 140, 141, 142, 143, 144, 145, 146, 147, 148, 149, 150, 151, 152, 153, 154, 155, 156, 157] (by decide +kernel) (by decide +kernel)
set_option maxRecDepth 20000 in
theorem gX8_unhurt_X8_oddsOf : GoodIn wsX8_unhurt (wsV RX8 182 RX8 yX8_oddsOf wsX8_oddsOf) := goodIn_app (goodIn_of _ (by decide +kernel)) ggX8_unhurt_X8_oddsOf
set_option maxRecDepth 20000 in
theorem ggX8_unhurt_X8_tens : GoodIn wsX8_unhurt wsX8_tens := goodIn_r _ [107, 108] (by decide +kernel) (by decide +kernel)
set_option maxRecDepth 20000 in
theorem gX8_unhurt_X8_tens : GoodIn wsX8_unhurt (va_wsS RX8 250 yX8_tens wsX8_tens) := goodIn_app (goodIn_of _ (by decide +kernel)) ggX8_unhurt_X8_tens
set_option maxRecDepth 20000 in
theorem ggX8_unhurt_X8_lowest : GoodIn wsX8_unhurt wsX8_lowest := goodIn_r _ [111] (by decide +kernel) (by decide +kernel)
set_option maxRecDepth 20000 in
theorem gX8_unhurt_X8_lowest : GoodIn wsX8_unhurt (va_wsS RX8 254 yX8_lowest wsX8_lowest) := goodIn_app (goodIn_of _ (by decide +kernel)) ggX8_unhurt_X8_lowest
theorem dX8_unhurt_0 : decode cX8_unhurt 0 = .ok (.iload_n 1, 1) := by decide +kernel
theorem dX8_unhurt_1 : decode cX8_unhurt 1 = .ok (.i2l, 1) := by decide +kernel
theorem dX8_unhurt_2 : decode cX8_unhurt 2 = .ok (.lconst 0, 1) := by decide +kernel
theorem dX8_unhurt_3 : decode cX8_unhurt 3 = .ok (.lconst 1, 1) := by decide +kernel
theorem dX8_unhurt_4 : decode cX8_unhurt 4 = .ok (.invokestatic 101, 3) := by decide +kernel
theorem dX8_unhurt_7 : decode cX8_unhurt 7 = .ok (.ifCond .ne 7, 3) := by decide +kernel
theorem dX8_unhurt_10 : decode cX8_unhurt 10 = .ok (.ldc2_w 244, 3) := by decide +kernel
theorem dX8_unhurt_13 : decode cX8_unhurt 13 = .ok (.lreturn, 1) := by decide +kernel
theorem dX8_unhurt_14 : decode cX8_unhurt 14 = .ok (.aload_n 0, 1) := by decide +kernel
theorem dX8_unhurt_15 : decode cX8_unhurt 15 = .ok (.invokevirtual 236, 3) := by decide +kernel
theorem dX8_unhurt_18 : decode cX8_unhurt 18 = .ok (.istore_n 2, 1) := by decide +kernel
theorem dX8_unhurt_19 : decode cX8_unhurt 19 = .ok (.iload_n 2, 1) := by decide +kernel
theorem dX8_unhurt_20 : decode cX8_unhurt 20 = .ok (.bipush (-6), 2) := by decide +kernel
theorem dX8_unhurt_22 : decode cX8_unhurt 22 = .ok (.if_icmp .eq 10, 3) := by decide +kernel
theorem dX8_unhurt_25 : decode cX8_unhurt 25 = .ok (.ldc2_w 246, 3) := by decide +kernel
theorem dX8_unhurt_28 : decode cX8_unhurt 28 = .ok (.iload_n 2, 1) := by decide +kernel
theorem dX8_unhurt_29 : decode cX8_unhurt 29 = .ok (.i2l, 1) := by decide +kernel
theorem dX8_unhurt_30 : decode cX8_unhurt 30 = .ok (.ladd, 1) := by decide +kernel
theorem dX8_unhurt_31 : decode cX8_unhurt 31 = .ok (.lreturn, 1) := by decide +kernel
theorem dX8_unhurt_32 : decode cX8_unhurt 32 = .ok (.lconst 1, 1) := by decide +kernel
theorem dX8_unhurt_33 : decode cX8_unhurt 33 = .ok (.lstore_n 3, 1) := by decide +kernel
theorem dX8_unhurt_34 : decode cX8_unhurt 34 = .ok (.iconst 0, 1) := by decide +kernel
theorem dX8_unhurt_35 : decode cX8_unhurt 35 = .ok (.istore 5, 2) := by decide +kernel
theorem dX8_unhurt_37 : decode cX8_unhurt 37 = .ok (.iconst 0, 1) := by decide +kernel
theorem dX8_unhurt_38 : decode cX8_unhurt 38 = .ok (.istore 6, 2) := by decide +kernel
theorem dX8_unhurt_40 : decode cX8_unhurt 40 = .ok (.iload 6, 2) := by decide +kernel
theorem dX8_unhurt_42 : decode cX8_unhurt 42 = .ok (.aload_n 0, 1) := by decide +kernel
theorem dX8_unhurt_43 : decode cX8_unhurt 43 = .ok (.getfield 149, 3) := by decide +kernel
theorem dX8_unhurt_46 : decode cX8_unhurt 46 = .ok (.if_icmp .ge 146, 3) := by decide +kernel
theorem dX8_unhurt_49 : decode cX8_unhurt 49 = .ok (.iload 5, 2) := by decide +kernel
theorem dX8_unhurt_51 : decode cX8_unhurt 51 = .ok (.bipush 15, 2) := by decide +kernel
theorem dX8_unhurt_53 : decode cX8_unhurt 53 = .ok (.if_icmp .gt 139, 3) := by decide +kernel
theorem dX8_unhurt_56 : decode cX8_unhurt 56 = .ok (.aload_n 0, 1) := by decide +kernel
theorem dX8_unhurt_57 : decode cX8_unhurt 57 = .ok (.getfield 43, 3) := by decide +kernel
theorem dX8_unhurt_60 : decode cX8_unhurt 60 = .ok (.iload 6, 2) := by decide +kernel
theorem dX8_unhurt_62 : decode cX8_unhurt 62 = .ok (.iaload, 1) := by decide +kernel
theorem dX8_unhurt_63 : decode cX8_unhurt 63 = .ok (.bipush 42, 2) := by decide +kernel
theorem dX8_unhurt_65 : decode cX8_unhurt 65 = .ok (.if_icmp .ne 7, 3) := by decide +kernel
theorem dX8_unhurt_68 : decode cX8_unhurt 68 = .ok (.iconst 1, 1) := by decide +kernel
theorem dX8_unhurt_69 : decode cX8_unhurt 69 = .ok (.goto 4, 3) := by decide +kernel
theorem dX8_unhurt_72 : decode cX8_unhurt 72 = .ok (.iconst 0, 1) := by decide +kernel
theorem dX8_unhurt_73 : decode cX8_unhurt 73 = .ok (.istore 7, 2) := by decide +kernel
theorem dX8_unhurt_75 : decode cX8_unhurt 75 = .ok (.lload_n 3, 1) := by decide +kernel
theorem dX8_unhurt_76 : decode cX8_unhurt 76 = .ok (.iload 7, 2) := by decide +kernel
theorem dX8_unhurt_78 : decode cX8_unhurt 78 = .ok (.ifCond .eq 28, 3) := by decide +kernel
theorem dX8_unhurt_81 : decode cX8_unhurt 81 = .ok (.bipush 10, 2) := by decide +kernel
theorem dX8_unhurt_83 : decode cX8_unhurt 83 = .ok (.aload_n 0, 1) := by decide +kernel
theorem dX8_unhurt_84 : decode cX8_unhurt 84 = .ok (.aload_n 0, 1) := by decide +kernel
theorem dX8_unhurt_85 : decode cX8_unhurt 85 = .ok (.getfield 46, 3) := by decide +kernel
theorem dX8_unhurt_88 : decode cX8_unhurt 88 = .ok (.iload 6, 2) := by decide +kernel
theorem dX8_unhurt_90 : decode cX8_unhurt 90 = .ok (.iaload, 1) := by decide +kernel
theorem dX8_unhurt_91 : decode cX8_unhurt 91 = .ok (.aload_n 0, 1) := by decide +kernel
theorem dX8_unhurt_92 : decode cX8_unhurt 92 = .ok (.getfield 52, 3) := by decide +kernel
theorem dX8_unhurt_95 : decode cX8_unhurt 95 = .ok (.iload 6, 2) := by decide +kernel
theorem dX8_unhurt_97 : decode cX8_unhurt 97 = .ok (.iaload, 1) := by decide +kernel
theorem dX8_unhurt_98 : decode cX8_unhurt 98 = .ok (.invokevirtual 182, 3) := by decide +kernel
theorem dX8_unhurt_101 : decode cX8_unhurt 101 = .ok (.isub, 1) := by decide +kernel
theorem dX8_unhurt_102 : decode cX8_unhurt 102 = .ok (.i2l, 1) := by decide +kernel
theorem dX8_unhurt_103 : decode cX8_unhurt 103 = .ok (.goto 4, 3) := by decide +kernel
theorem dX8_unhurt_106 : decode cX8_unhurt 106 = .ok (.lconst 1, 1) := by decide +kernel
theorem dX8_unhurt_107 : decode cX8_unhurt 107 = .ok (.lmul, 1) := by decide +kernel
theorem dX8_unhurt_108 : decode cX8_unhurt 108 = .ok (.lstore_n 3, 1) := by decide +kernel
theorem dX8_unhurt_109 : decode cX8_unhurt 109 = .ok (.lload_n 3, 1) := by decide +kernel
theorem dX8_unhurt_110 : decode cX8_unhurt 110 = .ok (.iload 7, 2) := by decide +kernel
theorem dX8_unhurt_112 : decode cX8_unhurt 112 = .ok (.ifCond .ne 15, 3) := by decide +kernel
theorem dX8_unhurt_115 : decode cX8_unhurt 115 = .ok (.aload_n 0, 1) := by decide +kernel
theorem dX8_unhurt_116 : decode cX8_unhurt 116 = .ok (.getfield 43, 3) := by decide +kernel
theorem dX8_unhurt_119 : decode cX8_unhurt 119 = .ok (.iload 6, 2) := by decide +kernel
theorem dX8_unhurt_121 : decode cX8_unhurt 121 = .ok (.iaload, 1) := by decide +kernel
theorem dX8_unhurt_122 : decode cX8_unhurt 122 = .ok (.bipush 43, 2) := by decide +kernel
theorem dX8_unhurt_124 : decode cX8_unhurt 124 = .ok (.if_icmp .ne 28, 3) := by decide +kernel
theorem dX8_unhurt_127 : decode cX8_unhurt 127 = .ok (.bipush 10, 2) := by decide +kernel
theorem dX8_unhurt_129 : decode cX8_unhurt 129 = .ok (.aload_n 0, 1) := by decide +kernel
theorem dX8_unhurt_130 : decode cX8_unhurt 130 = .ok (.aload_n 0, 1) := by decide +kernel
theorem dX8_unhurt_131 : decode cX8_unhurt 131 = .ok (.getfield 49, 3) := by decide +kernel
theorem dX8_unhurt_134 : decode cX8_unhurt 134 = .ok (.iload 6, 2) := by decide +kernel
theorem dX8_unhurt_136 : decode cX8_unhurt 136 = .ok (.iaload, 1) := by decide +kernel
theorem dX8_unhurt_137 : decode cX8_unhurt 137 = .ok (.aload_n 0, 1) := by decide +kernel
theorem dX8_unhurt_138 : decode cX8_unhurt 138 = .ok (.getfield 52, 3) := by decide +kernel
theorem dX8_unhurt_141 : decode cX8_unhurt 141 = .ok (.iload 6, 2) := by decide +kernel
theorem dX8_unhurt_143 : decode cX8_unhurt 143 = .ok (.iaload, 1) := by decide +kernel
theorem dX8_unhurt_144 : decode cX8_unhurt 144 = .ok (.invokevirtual 182, 3) := by decide +kernel
theorem dX8_unhurt_147 : decode cX8_unhurt 147 = .ok (.isub, 1) := by decide +kernel
theorem dX8_unhurt_148 : decode cX8_unhurt 148 = .ok (.i2l, 1) := by decide +kernel
theorem dX8_unhurt_149 : decode cX8_unhurt 149 = .ok (.goto 4, 3) := by decide +kernel
theorem dX8_unhurt_152 : decode cX8_unhurt 152 = .ok (.lconst 1, 1) := by decide +kernel
theorem dX8_unhurt_153 : decode cX8_unhurt 153 = .ok (.lmul, 1) := by decide +kernel
theorem dX8_unhurt_154 : decode cX8_unhurt 154 = .ok (.lstore_n 3, 1) := by decide +kernel
theorem dX8_unhurt_155 : decode cX8_unhurt 155 = .ok (.iload 5, 2) := by decide +kernel
theorem dX8_unhurt_157 : decode cX8_unhurt 157 = .ok (.iload 7, 2) := by decide +kernel
theorem dX8_unhurt_159 : decode cX8_unhurt 159 = .ok (.ifCond .eq 7, 3) := by decide +kernel
theorem dX8_unhurt_162 : decode cX8_unhurt 162 = .ok (.iconst 2, 1) := by decide +kernel
theorem dX8_unhurt_163 : decode cX8_unhurt 163 = .ok (.goto 20, 3) := by decide +kernel
theorem dX8_unhurt_166 : decode cX8_unhurt 166 = .ok (.aload_n 0, 1) := by decide +kernel
theorem dX8_unhurt_167 : decode cX8_unhurt 167 = .ok (.getfield 43, 3) := by decide +kernel
theorem dX8_unhurt_170 : decode cX8_unhurt 170 = .ok (.iload 6, 2) := by decide +kernel
theorem dX8_unhurt_172 : decode cX8_unhurt 172 = .ok (.iaload, 1) := by decide +kernel
theorem dX8_unhurt_173 : decode cX8_unhurt 173 = .ok (.bipush 43, 2) := by decide +kernel
theorem dX8_unhurt_175 : decode cX8_unhurt 175 = .ok (.if_icmp .ne 7, 3) := by decide +kernel
theorem dX8_unhurt_178 : decode cX8_unhurt 178 = .ok (.iconst 1, 1) := by decide +kernel
theorem dX8_unhurt_179 : decode cX8_unhurt 179 = .ok (.goto 4, 3) := by decide +kernel
theorem dX8_unhurt_182 : decode cX8_unhurt 182 = .ok (.iconst 0, 1) := by decide +kernel
theorem dX8_unhurt_183 : decode cX8_unhurt 183 = .ok (.iadd, 1) := by decide +kernel
theorem dX8_unhurt_184 : decode cX8_unhurt 184 = .ok (.istore 5, 2) := by decide +kernel
theorem dX8_unhurt_186 : decode cX8_unhurt 186 = .ok (.iinc 6 1, 3) := by decide +kernel
theorem dX8_unhurt_189 : decode cX8_unhurt 189 = .ok (.goto (-149), 3) := by decide +kernel
theorem dX8_unhurt_192 : decode cX8_unhurt 192 = .ok (.iload 5, 2) := by decide +kernel
theorem dX8_unhurt_194 : decode cX8_unhurt 194 = .ok (.bipush 15, 2) := by decide +kernel
theorem dX8_unhurt_196 : decode cX8_unhurt 196 = .ok (.if_icmp .le 9, 3) := by decide +kernel
theorem dX8_unhurt_199 : decode cX8_unhurt 199 = .ok (.ldc2_w 248, 3) := by decide +kernel
theorem dX8_unhurt_202 : decode cX8_unhurt 202 = .ok (.goto 13, 3) := by decide +kernel
theorem dX8_unhurt_205 : decode cX8_unhurt 205 = .ok (.lload_n 3, 1) := by decide +kernel
theorem dX8_unhurt_206 : decode cX8_unhurt 206 = .ok (.iload 5, 2) := by decide +kernel
theorem dX8_unhurt_208 : decode cX8_unhurt 208 = .ok (.invokestatic 250, 3) := by decide +kernel
theorem dX8_unhurt_211 : decode cX8_unhurt 211 = .ok (.iload_n 1, 1) := by decide +kernel
theorem dX8_unhurt_212 : decode cX8_unhurt 212 = .ok (.invokestatic 254, 3) := by decide +kernel
theorem dX8_unhurt_215 : decode cX8_unhurt 215 = .ok (.lreturn, 1) := by decide +kernel
set_option maxRecDepth 20000 in
theorem ggX8_odds_X8_isThere : GoodIn wsX8_odds wsX8_isThere := goodIn_r _ [5, 6, 7, 8, 4, 9, 10, 11, 12, 13, 24, 25, 26, 27, 28, 29, 30, 31, 32, 33, 34, 35, 36, 37, 38, 39, 40, 41, 42, 43, 44, 45, 46, 47, 48, 49, 50, 51, 52, 53, 54, 55, 56, 57, 58, 59, 60, 61, 62, 63, 64, 65, 66, 67, 68, 69] (by decide +kernel) (by decide +kernel)
set_option maxRecDepth 20000 in
theorem gX8_odds_X8_isThere : GoodIn wsX8_odds (wsV RX8 123 RX8 yX8_isThere wsX8_isThere) := goodIn_app (goodIn_of _ (by decide +kernel)) ggX8_odds_X8_isThere
set_option maxRecDepth 20000 in
theorem ggX8_odds_X8_isHeight : GoodIn wsX8_odds wsX8_isHeight := goodIn_r _ [16, 17, 11, 12, 4, 13] (by decide +kernel) (by decide +kernel)
set_option maxRecDepth 20000 in
theorem gX8_odds_X8_isHeight : GoodIn wsX8_odds (va_wsS RX8 162 yX8_isHeight wsX8_isHeight) := goodIn_app (goodIn_of _ (by decide +kernel)) ggX8_odds_X8_isHeight
set_option maxRecDepth 20000 in
theorem ggX8_odds_X8_oddsOf : GoodIn wsX8_odds wsX8_oddsOf := goodIn_r _ [21, 22, 23, 24, 25, 26, 27, 28, 29, 30, 31, 32, 33, 34, 35, 36, 37, 38, 39, 40, 41, 42, 43, 44, 45, 46, 47, 48, 49, 50, 51, 52, 53, 54, 55, 56, 57, 58, 59, 60, 61, 62, 63, 64, 65, 66, 67, 68, 69] (by decide +kernel) (by decide +kernel)
set_option maxRecDepth 20000 in
theorem gX8_odds_X8_oddsOf : GoodIn wsX8_odds (wsV RX8 182 RX8 yX8_oddsOf wsX8_oddsOf) := goodIn_app (goodIn_of _ (by decide +kernel)) ggX8_odds_X8_oddsOf
theorem dX8_odds_0 : decode cX8_odds 0 = .ok (.aload_n 0, 1) := by decide +kernel
theorem dX8_odds_1 : decode cX8_odds 1 = .ok (.iload_n 1, 1) := by decide +kernel
theorem dX8_odds_2 : decode cX8_odds 2 = .ok (.invokevirtual 123, 3) := by decide +kernel
theorem dX8_odds_5 : decode cX8_odds 5 = .ok (.ifCond .ne 5, 3) := by decide +kernel
theorem dX8_odds_8 : decode cX8_odds 8 = .ok (.iconst (-1), 1) := by decide +kernel
theorem dX8_odds_9 : decode cX8_odds 9 = .ok (.ireturn, 1) := by decide +kernel
theorem dX8_odds_10 : decode cX8_odds 10 = .ok (.iload_n 2, 1) := by decide +kernel
theorem dX8_odds_11 : decode cX8_odds 11 = .ok (.invokestatic 162, 3) := by decide +kernel
theorem dX8_odds_14 : decode cX8_odds 14 = .ok (.ifCond .eq 12, 3) := by decide +kernel
theorem dX8_odds_17 : decode cX8_odds 17 = .ok (.aload_n 0, 1) := by decide +kernel
theorem dX8_odds_18 : decode cX8_odds 18 = .ok (.iload_n 1, 1) := by decide +kernel
theorem dX8_odds_19 : decode cX8_odds 19 = .ok (.iload_n 2, 1) := by decide +kernel
theorem dX8_odds_20 : decode cX8_odds 20 = .ok (.invokevirtual 182, 3) := by decide +kernel
theorem dX8_odds_23 : decode cX8_odds 23 = .ok (.goto 5, 3) := by decide +kernel
theorem dX8_odds_26 : decode cX8_odds 26 = .ok (.bipush (-2), 2) := by decide +kernel
theorem dX8_odds_28 : decode cX8_odds 28 = .ok (.ireturn, 1) := by decide +kernel
set_option maxRecDepth 20000 in
theorem ggX8_doneBy_X8_oddsOf : GoodIn wsX8_doneBy wsX8_oddsOf := goodIn_r _ [7, 8, 9, 10, 11, 12, 13, 14, 15, 16, 17, 18, 19, 20, 21, 22, 23, 24, 25, 26, 27, 28, 29, 30, 31, 32, 33, 34, 35, 36, 37, 38, 39, 40, 41, 42, 43, 44, 45, 46, 47, 48, 49, 50, 51, 52, 53, 54, 55] (by decide +kernel) (by decide +kernel)
set_option maxRecDepth 20000 in
theorem gX8_doneBy_X8_oddsOf : GoodIn wsX8_doneBy (wsV RX8 182 RX8 yX8_oddsOf wsX8_oddsOf) := goodIn_app (goodIn_of _ (by decide +kernel)) ggX8_doneBy_X8_oddsOf
theorem dX8_doneBy_0 : decode cX8_doneBy 0 = .ok (.bipush 10, 2) := by decide +kernel
theorem dX8_doneBy_2 : decode cX8_doneBy 2 = .ok (.iload_n 2, 1) := by decide +kernel
theorem dX8_doneBy_3 : decode cX8_doneBy 3 = .ok (.imul, 1) := by decide +kernel
theorem dX8_doneBy_4 : decode cX8_doneBy 4 = .ok (.iload_n 3, 1) := by decide +kernel
theorem dX8_doneBy_5 : decode cX8_doneBy 5 = .ok (.imul, 1) := by decide +kernel
theorem dX8_doneBy_6 : decode cX8_doneBy 6 = .ok (.aload_n 0, 1) := by decide +kernel
theorem dX8_doneBy_7 : decode cX8_doneBy 7 = .ok (.iload_n 1, 1) := by decide +kernel
theorem dX8_doneBy_8 : decode cX8_doneBy 8 = .ok (.iload_n 3, 1) := by decide +kernel
theorem dX8_doneBy_9 : decode cX8_doneBy 9 = .ok (.invokevirtual 182, 3) := by decide +kernel
theorem dX8_doneBy_12 : decode cX8_doneBy 12 = .ok (.aload_n 0, 1) := by decide +kernel
theorem dX8_doneBy_13 : decode cX8_doneBy 13 = .ok (.getfield 87, 3) := by decide +kernel
theorem dX8_doneBy_16 : decode cX8_doneBy 16 = .ok (.aload_n 0, 1) := by decide +kernel
theorem dX8_doneBy_17 : decode cX8_doneBy 17 = .ok (.getfield 13, 3) := by decide +kernel
theorem dX8_doneBy_20 : decode cX8_doneBy 20 = .ok (.iload_n 1, 1) := by decide +kernel
theorem dX8_doneBy_21 : decode cX8_doneBy 21 = .ok (.iaload, 1) := by decide +kernel
theorem dX8_doneBy_22 : decode cX8_doneBy 22 = .ok (.iload_n 3, 1) := by decide +kernel
theorem dX8_doneBy_23 : decode cX8_doneBy 23 = .ok (.imul, 1) := by decide +kernel
theorem dX8_doneBy_24 : decode cX8_doneBy 24 = .ok (.iadd, 1) := by decide +kernel
theorem dX8_doneBy_25 : decode cX8_doneBy 25 = .ok (.imul, 1) := by decide +kernel
theorem dX8_doneBy_26 : decode cX8_doneBy 26 = .ok (.isub, 1) := by decide +kernel
theorem dX8_doneBy_27 : decode cX8_doneBy 27 = .ok (.ireturn, 1) := by decide +kernel
theorem dX8_refusedBy_0 : decode cX8_refusedBy 0 = .ok (.bipush (-10), 2) := by decide +kernel
theorem dX8_refusedBy_2 : decode cX8_refusedBy 2 = .ok (.iload_n 0, 1) := by decide +kernel
theorem dX8_refusedBy_3 : decode cX8_refusedBy 3 = .ok (.imul, 1) := by decide +kernel
theorem dX8_refusedBy_4 : decode cX8_refusedBy 4 = .ok (.iload_n 1, 1) := by decide +kernel
theorem dX8_refusedBy_5 : decode cX8_refusedBy 5 = .ok (.iconst 2, 1) := by decide +kernel
theorem dX8_refusedBy_6 : decode cX8_refusedBy 6 = .ok (.idiv, 1) := by decide +kernel
theorem dX8_refusedBy_7 : decode cX8_refusedBy 7 = .ok (.imul, 1) := by decide +kernel
theorem dX8_refusedBy_8 : decode cX8_refusedBy 8 = .ok (.ireturn, 1) := by decide +kernel
set_option maxRecDepth 20000 in
theorem ggX8_worthDone_X8_doneBy : GoodIn wsX8_worthDone wsX8_doneBy := goodIn_r _ [6, 7, 8, 9, 10, 11, 5, 12, 13, 14, 15, 16, 17, 18, 19, 20, 21, 22, 23, 24, 25, 26, 27, 28, 29, 30, 31, 32, 33, 34, 35, 36, 37, 38, 39, 40, 41, 42, 43, 44, 45, 46, 47, 48, 49, 50, 51, 52, 53, 54, 55, 56, 57, 58, 59, 60] (by decide +kernel) (by decide +kernel)
set_option maxRecDepth 20000 in
theorem gX8_worthDone_X8_doneBy : GoodIn wsX8_worthDone (wsV RX8 258 RX8 yX8_doneBy wsX8_doneBy) := goodIn_app (goodIn_of _ (by decide +kernel)) ggX8_worthDone_X8_doneBy
theorem dX8_worthDone_0 : decode cX8_worthDone 0 = .ok (.aload_n 0, 1) := by decide +kernel
theorem dX8_worthDone_1 : decode cX8_worthDone 1 = .ok (.iload_n 1, 1) := by decide +kernel
theorem dX8_worthDone_2 : decode cX8_worthDone 2 = .ok (.aload_n 0, 1) := by decide +kernel
theorem dX8_worthDone_3 : decode cX8_worthDone 3 = .ok (.getfield 16, 3) := by decide +kernel
theorem dX8_worthDone_6 : decode cX8_worthDone 6 = .ok (.iload_n 1, 1) := by decide +kernel
theorem dX8_worthDone_7 : decode cX8_worthDone 7 = .ok (.iaload, 1) := by decide +kernel
theorem dX8_worthDone_8 : decode cX8_worthDone 8 = .ok (.iload_n 2, 1) := by decide +kernel
theorem dX8_worthDone_9 : decode cX8_worthDone 9 = .ok (.invokevirtual 258, 3) := by decide +kernel
theorem dX8_worthDone_12 : decode cX8_worthDone 12 = .ok (.ireturn, 1) := by decide +kernel
set_option maxRecDepth 20000 in
theorem ggX8_worthRefused_X8_refusedBy : GoodIn wsX8_worthRefused wsX8_refusedBy := goodIn_r _ [5] (by decide +kernel) (by decide +kernel)
set_option maxRecDepth 20000 in
theorem gX8_worthRefused_X8_refusedBy : GoodIn wsX8_worthRefused (va_wsS RX8 261 yX8_refusedBy wsX8_refusedBy) := goodIn_app (goodIn_of _ (by decide +kernel)) ggX8_worthRefused_X8_refusedBy
theorem dX8_worthRefused_0 : decode cX8_worthRefused 0 = .ok (.aload_n 0, 1) := by decide +kernel
theorem dX8_worthRefused_1 : decode cX8_worthRefused 1 = .ok (.getfield 16, 3) := by decide +kernel
theorem dX8_worthRefused_4 : decode cX8_worthRefused 4 = .ok (.iload_n 1, 1) := by decide +kernel
theorem dX8_worthRefused_5 : decode cX8_worthRefused 5 = .ok (.iaload, 1) := by decide +kernel
theorem dX8_worthRefused_6 : decode cX8_worthRefused 6 = .ok (.iload_n 2, 1) := by decide +kernel
theorem dX8_worthRefused_7 : decode cX8_worthRefused 7 = .ok (.invokestatic 261, 3) := by decide +kernel
theorem dX8_worthRefused_10 : decode cX8_worthRefused 10 = .ok (.ireturn, 1) := by decide +kernel
set_option maxRecDepth 20000 in
theorem ggX8_doesBy_X8_doneBy : GoodIn wsX8_doesBy wsX8_doneBy := goodIn_r _ [5, 6, 7, 8, 9, 10, 4, 11, 12, 13, 17, 18, 19, 20, 21, 22, 23, 24, 25, 26, 27, 28, 29, 30, 31, 32, 33, 34, 35, 36, 37, 38, 39, 40, 41, 42, 43, 44, 45, 46, 47, 48, 49, 50, 51, 52, 53, 54, 55, 56, 57, 58, 59, 60, 61, 62] (by decide +kernel) (by decide +kernel)
set_option maxRecDepth 20000 in
theorem gX8_doesBy_X8_doneBy : GoodIn wsX8_doesBy (wsV RX8 258 RX8 yX8_doneBy wsX8_doneBy) := goodIn_app (goodIn_of _ (by decide +kernel)) ggX8_doesBy_X8_doneBy
set_option maxRecDepth 20000 in
theorem ggX8_doesBy_X8_refusedBy : GoodIn wsX8_doesBy wsX8_refusedBy := goodIn_r _ [16] (by decide +kernel) (by decide +kernel)
set_option maxRecDepth 20000 in
theorem gX8_doesBy_X8_refusedBy : GoodIn wsX8_doesBy (va_wsS RX8 261 yX8_refusedBy wsX8_refusedBy) := goodIn_app (goodIn_of _ (by decide +kernel)) ggX8_doesBy_X8_refusedBy
theorem dX8_doesBy_0 : decode cX8_doesBy 0 = .ok (.aload_n 0, 1) := by decide +kernel
theorem dX8_doesBy_1 : decode cX8_doesBy 1 = .ok (.iload_n 1, 1) := by decide +kernel
theorem dX8_doesBy_2 : decode cX8_doesBy 2 = .ok (.iload_n 2, 1) := by decide +kernel
theorem dX8_doesBy_3 : decode cX8_doesBy 3 = .ok (.iload_n 3, 1) := by decide +kernel
theorem dX8_doesBy_4 : decode cX8_doesBy 4 = .ok (.invokevirtual 258, 3) := by decide +kernel
theorem dX8_doesBy_7 : decode cX8_doesBy 7 = .ok (.iload_n 2, 1) := by decide +kernel
theorem dX8_doesBy_8 : decode cX8_doesBy 8 = .ok (.iload_n 3, 1) := by decide +kernel
theorem dX8_doesBy_9 : decode cX8_doesBy 9 = .ok (.invokestatic 261, 3) := by decide +kernel
theorem dX8_doesBy_12 : decode cX8_doesBy 12 = .ok (.if_icmp .lt 7, 3) := by decide +kernel
theorem dX8_doesBy_15 : decode cX8_doesBy 15 = .ok (.iconst 1, 1) := by decide +kernel
theorem dX8_doesBy_16 : decode cX8_doesBy 16 = .ok (.goto 4, 3) := by decide +kernel
theorem dX8_doesBy_19 : decode cX8_doesBy 19 = .ok (.iconst 0, 1) := by decide +kernel
theorem dX8_doesBy_20 : decode cX8_doesBy 20 = .ok (.ireturn, 1) := by decide +kernel
set_option maxRecDepth 20000 in
theorem ggX8_doesIt_X8_doesBy : GoodIn wsX8_doesIt wsX8_doesBy := goodIn_r _ [6, 7, 8, 9, 5, 10, 11, 12, 13, 14, 15, 16, 17, 18, 19, 20, 21, 22, 23, 24, 25, 26, 27, 28, 29, 30, 31, 32, 33, 34, 35, 36, 37, 38, 39, 40, 41, 42, 43, 44, 45, 46, 47, 48, 49, 50, 51, 52, 53, 54, 55, 56, 57, 58, 59, 60, 61, 62, 63, 64, 65, 66, 67] (by decide +kernel) (by decide +kernel)
set_option maxRecDepth 20000 in
theorem gX8_doesIt_X8_doesBy : GoodIn wsX8_doesIt (wsV RX8 264 RX8 yX8_doesBy wsX8_doesBy) := goodIn_app (goodIn_of _ (by decide +kernel)) ggX8_doesIt_X8_doesBy
theorem dX8_doesIt_0 : decode cX8_doesIt 0 = .ok (.aload_n 0, 1) := by decide +kernel
theorem dX8_doesIt_1 : decode cX8_doesIt 1 = .ok (.iload_n 1, 1) := by decide +kernel
theorem dX8_doesIt_2 : decode cX8_doesIt 2 = .ok (.aload_n 0, 1) := by decide +kernel
theorem dX8_doesIt_3 : decode cX8_doesIt 3 = .ok (.getfield 16, 3) := by decide +kernel
theorem dX8_doesIt_6 : decode cX8_doesIt 6 = .ok (.iload_n 1, 1) := by decide +kernel
theorem dX8_doesIt_7 : decode cX8_doesIt 7 = .ok (.iaload, 1) := by decide +kernel
theorem dX8_doesIt_8 : decode cX8_doesIt 8 = .ok (.iload_n 2, 1) := by decide +kernel
theorem dX8_doesIt_9 : decode cX8_doesIt 9 = .ok (.invokevirtual 264, 3) := by decide +kernel
theorem dX8_doesIt_12 : decode cX8_doesIt 12 = .ok (.ireturn, 1) := by decide +kernel
set_option maxRecDepth 20000 in
theorem ggX8_worth_X8_isThere : GoodIn wsX8_worth wsX8_isThere := goodIn_r _ [6, 7, 8, 9, 5, 10, 11, 12, 13, 14, 43, 44, 45, 46, 47, 48, 49, 50, 51, 52, 53, 54, 55, 56, 57, 58, 59, 60, 61, 62, 63, 64, 65, 66, 67, 68, 69, 70, 71, 72, 73, 74, 75, 76, 77, 78, 79, 80, 81, 82, 83, 84, 85, 86, 87, 88] (by decide +kernel) (by decide +kernel)
set_option maxRecDepth 20000 in
theorem gX8_worth_X8_isThere : GoodIn wsX8_worth (wsV RX8 123 RX8 yX8_isThere wsX8_isThere) := goodIn_app (goodIn_of _ (by decide +kernel)) ggX8_worth_X8_isThere
set_option maxRecDepth 20000 in
theorem ggX8_worth_X8_isHeight : GoodIn wsX8_worth wsX8_isHeight := goodIn_r _ [17, 18, 12, 13, 5, 14] (by decide +kernel) (by decide +kernel)
set_option maxRecDepth 20000 in
theorem gX8_worth_X8_isHeight : GoodIn wsX8_worth (va_wsS RX8 162 yX8_isHeight wsX8_isHeight) := goodIn_app (goodIn_of _ (by decide +kernel)) ggX8_worth_X8_isHeight
set_option maxRecDepth 20000 in
theorem ggX8_worth_X8_in : GoodIn wsX8_worth wsX8_in := goodIn_r _ [14] (by decide +kernel) (by decide +kernel)
set_option maxRecDepth 20000 in
theorem gX8_worth_X8_in : GoodIn wsX8_worth (va_wsS RX8 101 yX8_in wsX8_in) := goodIn_app (goodIn_of _ (by decide +kernel)) ggX8_worth_X8_in
set_option maxRecDepth 20000 in
theorem ggX8_worth_X8_worthDone : GoodIn wsX8_worth wsX8_worthDone := goodIn_r _ [22, 23, 24, 25, 26, 5, 27, 28, 29, 30, 31, 32, 33, 34, 35, 43, 44, 45, 46, 47, 48, 49, 50, 51, 52, 53, 54, 55, 56, 57, 58, 59, 60, 61, 62, 63, 64, 65, 66, 67, 68, 69, 70, 71, 72, 73, 74, 75, 76, 77, 78, 79, 80, 81, 82, 83, 84, 85, 86, 87, 88] (by decide +kernel) (by decide +kernel)
set_option maxRecDepth 20000 in
theorem gX8_worth_X8_worthDone : GoodIn wsX8_worth (wsV RX8 269 RX8 yX8_worthDone wsX8_worthDone) := goodIn_app (goodIn_of _ (by decide +kernel)) ggX8_worth_X8_worthDone
set_option maxRecDepth 20000 in
theorem ggX8_worth_X8_worthRefused : GoodIn wsX8_worth wsX8_worthRefused := goodIn_r _ [39, 23, 40, 41, 5, 42, 43, 44, 45, 46, 47, 48, 49, 50, 51, 52, 53, 54, 55, 56, 57, 58, 59, 60, 61, 62, 63, 64, 65, 66, 67, 68, 69, 70, 71, 72, 73, 74, 75, 76, 77, 78, 79, 80, 81, 82, 83, 84, 85, 86, 87, 88] (by decide +kernel) (by decide +kernel)
set_option maxRecDepth 20000 in
theorem gX8_worth_X8_worthRefused : GoodIn wsX8_worth (wsV RX8 272 RX8 yX8_worthRefused wsX8_worthRefused) := goodIn_app (goodIn_of _ (by decide +kernel)) ggX8_worth_X8_worthRefused
theorem dX8_worth_0 : decode cX8_worth 0 = .ok (.aload_n 0, 1) := by decide +kernel
theorem dX8_worth_1 : decode cX8_worth 1 = .ok (.iload_n 1, 1) := by decide +kernel
theorem dX8_worth_2 : decode cX8_worth 2 = .ok (.invokevirtual 123, 3) := by decide +kernel
theorem dX8_worth_5 : decode cX8_worth 5 = .ok (.ifCond .ne 5, 3) := by decide +kernel
theorem dX8_worth_8 : decode cX8_worth 8 = .ok (.iconst (-1), 1) := by decide +kernel
theorem dX8_worth_9 : decode cX8_worth 9 = .ok (.ireturn, 1) := by decide +kernel
theorem dX8_worth_10 : decode cX8_worth 10 = .ok (.iload_n 2, 1) := by decide +kernel
theorem dX8_worth_11 : decode cX8_worth 11 = .ok (.invokestatic 162, 3) := by decide +kernel
theorem dX8_worth_14 : decode cX8_worth 14 = .ok (.ifCond .eq 13, 3) := by decide +kernel
theorem dX8_worth_17 : decode cX8_worth 17 = .ok (.iload_n 3, 1) := by decide +kernel
theorem dX8_worth_18 : decode cX8_worth 18 = .ok (.i2l, 1) := by decide +kernel
theorem dX8_worth_19 : decode cX8_worth 19 = .ok (.lconst 0, 1) := by decide +kernel
theorem dX8_worth_20 : decode cX8_worth 20 = .ok (.lconst 1, 1) := by decide +kernel
theorem dX8_worth_21 : decode cX8_worth 21 = .ok (.invokestatic 101, 3) := by decide +kernel
theorem dX8_worth_24 : decode cX8_worth 24 = .ok (.ifCond .ne 6, 3) := by decide +kernel
theorem dX8_worth_27 : decode cX8_worth 27 = .ok (.bipush (-2), 2) := by decide +kernel
theorem dX8_worth_29 : decode cX8_worth 29 = .ok (.ireturn, 1) := by decide +kernel
theorem dX8_worth_30 : decode cX8_worth 30 = .ok (.ldc_w 268, 3) := by decide +kernel
theorem dX8_worth_33 : decode cX8_worth 33 = .ok (.iload_n 3, 1) := by decide +kernel
theorem dX8_worth_34 : decode cX8_worth 34 = .ok (.ifCond .ne 12, 3) := by decide +kernel
theorem dX8_worth_37 : decode cX8_worth 37 = .ok (.aload_n 0, 1) := by decide +kernel
theorem dX8_worth_38 : decode cX8_worth 38 = .ok (.iload_n 1, 1) := by decide +kernel
theorem dX8_worth_39 : decode cX8_worth 39 = .ok (.iload_n 2, 1) := by decide +kernel
theorem dX8_worth_40 : decode cX8_worth 40 = .ok (.invokevirtual 269, 3) := by decide +kernel
theorem dX8_worth_43 : decode cX8_worth 43 = .ok (.goto 9, 3) := by decide +kernel
theorem dX8_worth_46 : decode cX8_worth 46 = .ok (.aload_n 0, 1) := by decide +kernel
theorem dX8_worth_47 : decode cX8_worth 47 = .ok (.iload_n 1, 1) := by decide +kernel
theorem dX8_worth_48 : decode cX8_worth 48 = .ok (.iload_n 2, 1) := by decide +kernel
theorem dX8_worth_49 : decode cX8_worth 49 = .ok (.invokevirtual 272, 3) := by decide +kernel
theorem dX8_worth_52 : decode cX8_worth 52 = .ok (.iadd, 1) := by decide +kernel
theorem dX8_worth_53 : decode cX8_worth 53 = .ok (.ireturn, 1) := by decide +kernel
set_option maxRecDepth 20000 in
theorem ggX8_does_X8_isThere : GoodIn wsX8_does wsX8_isThere := goodIn_r _ [5, 6, 7, 8, 4, 9, 10, 11, 12, 13, 42, 43, 44, 45, 46, 47, 48, 49, 50, 51, 52, 53, 54, 55, 56, 57, 58, 59, 60, 61, 62, 63, 64, 65, 66, 67, 68, 69, 70, 71, 72, 73, 74, 75, 76, 77, 78, 79, 80, 81, 82, 83, 84, 85, 86, 87] (by decide +kernel) (by decide +kernel)
set_option maxRecDepth 20000 in
theorem gX8_does_X8_isThere : GoodIn wsX8_does (wsV RX8 123 RX8 yX8_isThere wsX8_isThere) := goodIn_app (goodIn_of _ (by decide +kernel)) ggX8_does_X8_isThere
set_option maxRecDepth 20000 in
theorem ggX8_does_X8_isHeight : GoodIn wsX8_does wsX8_isHeight := goodIn_r _ [16, 17, 11, 12, 4, 13] (by decide +kernel) (by decide +kernel)
set_option maxRecDepth 20000 in
theorem gX8_does_X8_isHeight : GoodIn wsX8_does (va_wsS RX8 162 yX8_isHeight wsX8_isHeight) := goodIn_app (goodIn_of _ (by decide +kernel)) ggX8_does_X8_isHeight
set_option maxRecDepth 20000 in
theorem ggX8_does_X8_doesIt : GoodIn wsX8_does wsX8_doesIt := goodIn_r _ [21, 22, 23, 24, 25, 4, 26, 27, 28, 29, 30, 31, 32, 33, 34, 35, 36, 37, 38, 39, 40, 41, 42, 43, 44, 45, 46, 47, 48, 49, 50, 51, 52, 53, 54, 55, 56, 57, 58, 59, 60, 61, 62, 63, 64, 65, 66, 67, 68, 69, 70, 71, 72, 73, 74, 75, 76, 77, 78, 79, 80, 81, 82, 83, 84, 85, 86, 87] (by decide +kernel) (by decide +kernel)
set_option maxRecDepth 20000 in
theorem gX8_does_X8_doesIt : GoodIn wsX8_does (wsV RX8 275 RX8 yX8_doesIt wsX8_doesIt) := goodIn_app (goodIn_of _ (by decide +kernel)) ggX8_does_X8_doesIt
theorem dX8_does_0 : decode cX8_does 0 = .ok (.aload_n 0, 1) := by decide +kernel
theorem dX8_does_1 : decode cX8_does 1 = .ok (.iload_n 1, 1) := by decide +kernel
theorem dX8_does_2 : decode cX8_does 2 = .ok (.invokevirtual 123, 3) := by decide +kernel
theorem dX8_does_5 : decode cX8_does 5 = .ok (.ifCond .ne 5, 3) := by decide +kernel
theorem dX8_does_8 : decode cX8_does 8 = .ok (.iconst (-1), 1) := by decide +kernel
theorem dX8_does_9 : decode cX8_does 9 = .ok (.ireturn, 1) := by decide +kernel
theorem dX8_does_10 : decode cX8_does 10 = .ok (.iload_n 2, 1) := by decide +kernel
theorem dX8_does_11 : decode cX8_does 11 = .ok (.invokestatic 162, 3) := by decide +kernel
theorem dX8_does_14 : decode cX8_does 14 = .ok (.ifCond .ne 8, 3) := by decide +kernel
theorem dX8_does_17 : decode cX8_does 17 = .ok (.bipush (-2), 2) := by decide +kernel
theorem dX8_does_19 : decode cX8_does 19 = .ok (.goto 17, 3) := by decide +kernel
theorem dX8_does_22 : decode cX8_does 22 = .ok (.aload_n 0, 1) := by decide +kernel
theorem dX8_does_23 : decode cX8_does 23 = .ok (.iload_n 1, 1) := by decide +kernel
theorem dX8_does_24 : decode cX8_does 24 = .ok (.iload_n 2, 1) := by decide +kernel
theorem dX8_does_25 : decode cX8_does 25 = .ok (.invokevirtual 275, 3) := by decide +kernel
theorem dX8_does_28 : decode cX8_does 28 = .ok (.ifCond .eq 7, 3) := by decide +kernel
theorem dX8_does_31 : decode cX8_does 31 = .ok (.iconst 1, 1) := by decide +kernel
theorem dX8_does_32 : decode cX8_does 32 = .ok (.goto 4, 3) := by decide +kernel
theorem dX8_does_35 : decode cX8_does 35 = .ok (.iconst 0, 1) := by decide +kernel
theorem dX8_does_36 : decode cX8_does 36 = .ok (.ireturn, 1) := by decide +kernel
set_option maxRecDepth 20000 in
theorem ggX8_nerve_X8_isThere : GoodIn wsX8_nerve wsX8_isThere := goodIn_r _ [6, 7, 8, 9, 5, 10, 11, 12, 13, 14, 39, 40, 41, 42, 43, 44, 45, 46, 47, 48, 49, 50, 51, 52, 53, 54, 55, 56, 57, 58, 59, 60, 61, 62, 63, 64, 65, 66, 67, 68, 69, 70, 71, 72, 73, 74, 75, 76, 77, 78, 79, 80, 81, 82, 83, 84] (by decide +kernel) (by decide +kernel)
set_option maxRecDepth 20000 in
theorem gX8_nerve_X8_isThere : GoodIn wsX8_nerve (wsV RX8 123 RX8 yX8_isThere wsX8_isThere) := goodIn_app (goodIn_of _ (by decide +kernel)) ggX8_nerve_X8_isThere
set_option maxRecDepth 20000 in
theorem ggX8_nerve_X8_in : GoodIn wsX8_nerve wsX8_in := goodIn_r _ [14] (by decide +kernel) (by decide +kernel)
set_option maxRecDepth 20000 in
theorem gX8_nerve_X8_in : GoodIn wsX8_nerve (va_wsS RX8 101 yX8_in wsX8_in) := goodIn_app (goodIn_of _ (by decide +kernel)) ggX8_nerve_X8_in
set_option maxRecDepth 20000 in
theorem ggX8_nerve_X8_doesIt : GoodIn wsX8_nerve wsX8_doesIt := goodIn_r _ [18, 19, 20, 21, 22, 5, 23, 24, 25, 26, 27, 28, 29, 30, 31, 32, 33, 34, 35, 36, 37, 38, 39, 40, 41, 42, 43, 44, 45, 46, 47, 48, 49, 50, 51, 52, 53, 54, 55, 56, 57, 58, 59, 60, 61, 62, 63, 64, 65, 66, 67, 68, 69, 70, 71, 72, 73, 74, 75, 76, 77, 78, 79, 80, 81, 82, 83, 84] (by decide +kernel) (by decide +kernel)
set_option maxRecDepth 20000 in
theorem gX8_nerve_X8_doesIt : GoodIn wsX8_nerve (wsV RX8 275 RX8 yX8_doesIt wsX8_doesIt) := goodIn_app (goodIn_of _ (by decide +kernel)) ggX8_nerve_X8_doesIt
set_option maxRecDepth 20000 in
theorem ggX8_nerve_X8_oddsOf : GoodIn wsX8_nerve wsX8_oddsOf := goodIn_r _ [33, 34, 35, 39, 40, 41, 42, 43, 44, 45, 46, 47, 48, 49, 50, 51, 52, 53, 54, 55, 56, 57, 58, 59, 60, 61, 62, 63, 64, 65, 66, 67, 68, 69, 70, 71, 72, 73, 74, 75, 76, 77, 78, 79, 80, 81, 82, 83, 84] (by decide +kernel) (by decide +kernel)
set_option maxRecDepth 20000 in
theorem gX8_nerve_X8_oddsOf : GoodIn wsX8_nerve (wsV RX8 182 RX8 yX8_oddsOf wsX8_oddsOf) := goodIn_app (goodIn_of _ (by decide +kernel)) ggX8_nerve_X8_oddsOf
theorem dX8_nerve_0 : decode cX8_nerve 0 = .ok (.aload_n 0, 1) := by decide +kernel
theorem dX8_nerve_1 : decode cX8_nerve 1 = .ok (.iload_n 1, 1) := by decide +kernel
theorem dX8_nerve_2 : decode cX8_nerve 2 = .ok (.invokevirtual 123, 3) := by decide +kernel
theorem dX8_nerve_5 : decode cX8_nerve 5 = .ok (.ifCond .ne 5, 3) := by decide +kernel
theorem dX8_nerve_8 : decode cX8_nerve 8 = .ok (.iconst (-1), 1) := by decide +kernel
theorem dX8_nerve_9 : decode cX8_nerve 9 = .ok (.ireturn, 1) := by decide +kernel
theorem dX8_nerve_10 : decode cX8_nerve 10 = .ok (.iload_n 2, 1) := by decide +kernel
theorem dX8_nerve_11 : decode cX8_nerve 11 = .ok (.i2l, 1) := by decide +kernel
theorem dX8_nerve_12 : decode cX8_nerve 12 = .ok (.lconst 0, 1) := by decide +kernel
theorem dX8_nerve_13 : decode cX8_nerve 13 = .ok (.ldc2_w 231, 3) := by decide +kernel
theorem dX8_nerve_16 : decode cX8_nerve 16 = .ok (.invokestatic 101, 3) := by decide +kernel
theorem dX8_nerve_19 : decode cX8_nerve 19 = .ok (.ifCond .ne 6, 3) := by decide +kernel
theorem dX8_nerve_22 : decode cX8_nerve 22 = .ok (.bipush (-2), 2) := by decide +kernel
theorem dX8_nerve_24 : decode cX8_nerve 24 = .ok (.ireturn, 1) := by decide +kernel
theorem dX8_nerve_25 : decode cX8_nerve 25 = .ok (.bipush (-6), 2) := by decide +kernel
theorem dX8_nerve_27 : decode cX8_nerve 27 = .ok (.istore_n 3, 1) := by decide +kernel
theorem dX8_nerve_28 : decode cX8_nerve 28 = .ok (.iconst 0, 1) := by decide +kernel
theorem dX8_nerve_29 : decode cX8_nerve 29 = .ok (.istore 4, 2) := by decide +kernel
theorem dX8_nerve_31 : decode cX8_nerve 31 = .ok (.bipush 15, 2) := by decide +kernel
theorem dX8_nerve_33 : decode cX8_nerve 33 = .ok (.istore 5, 2) := by decide +kernel
theorem dX8_nerve_35 : decode cX8_nerve 35 = .ok (.iload 5, 2) := by decide +kernel
theorem dX8_nerve_37 : decode cX8_nerve 37 = .ok (.ifCond .le 50, 3) := by decide +kernel
theorem dX8_nerve_40 : decode cX8_nerve 40 = .ok (.aload_n 0, 1) := by decide +kernel
theorem dX8_nerve_41 : decode cX8_nerve 41 = .ok (.iload_n 1, 1) := by decide +kernel
theorem dX8_nerve_42 : decode cX8_nerve 42 = .ok (.iload 5, 2) := by decide +kernel
theorem dX8_nerve_44 : decode cX8_nerve 44 = .ok (.invokevirtual 275, 3) := by decide +kernel
theorem dX8_nerve_47 : decode cX8_nerve 47 = .ok (.ifCond .eq 7, 3) := by decide +kernel
theorem dX8_nerve_50 : decode cX8_nerve 50 = .ok (.iload_n 3, 1) := by decide +kernel
theorem dX8_nerve_51 : decode cX8_nerve 51 = .ok (.goto 5, 3) := by decide +kernel
theorem dX8_nerve_54 : decode cX8_nerve 54 = .ok (.iload 5, 2) := by decide +kernel
theorem dX8_nerve_56 : decode cX8_nerve 56 = .ok (.istore_n 3, 1) := by decide +kernel
theorem dX8_nerve_57 : decode cX8_nerve 57 = .ok (.iload 4, 2) := by decide +kernel
theorem dX8_nerve_59 : decode cX8_nerve 59 = .ok (.ifCond .ne 18, 3) := by decide +kernel
theorem dX8_nerve_62 : decode cX8_nerve 62 = .ok (.aload_n 0, 1) := by decide +kernel
theorem dX8_nerve_63 : decode cX8_nerve 63 = .ok (.iload_n 1, 1) := by decide +kernel
theorem dX8_nerve_64 : decode cX8_nerve 64 = .ok (.iload 5, 2) := by decide +kernel
theorem dX8_nerve_66 : decode cX8_nerve 66 = .ok (.invokevirtual 182, 3) := by decide +kernel
theorem dX8_nerve_69 : decode cX8_nerve 69 = .ok (.ifCond .ne 8, 3) := by decide +kernel
theorem dX8_nerve_72 : decode cX8_nerve 72 = .ok (.iload 5, 2) := by decide +kernel
theorem dX8_nerve_74 : decode cX8_nerve 74 = .ok (.goto 5, 3) := by decide +kernel
theorem dX8_nerve_77 : decode cX8_nerve 77 = .ok (.iload 4, 2) := by decide +kernel
theorem dX8_nerve_79 : decode cX8_nerve 79 = .ok (.istore 4, 2) := by decide +kernel
theorem dX8_nerve_81 : decode cX8_nerve 81 = .ok (.iinc 5 (-1), 3) := by decide +kernel
theorem dX8_nerve_84 : decode cX8_nerve 84 = .ok (.goto (-49), 3) := by decide +kernel
theorem dX8_nerve_87 : decode cX8_nerve 87 = .ok (.iload_n 2, 1) := by decide +kernel
theorem dX8_nerve_88 : decode cX8_nerve 88 = .ok (.ifCond .ne 18, 3) := by decide +kernel
theorem dX8_nerve_91 : decode cX8_nerve 91 = .ok (.iload_n 3, 1) := by decide +kernel
theorem dX8_nerve_92 : decode cX8_nerve 92 = .ok (.ifCond .ge 8, 3) := by decide +kernel
theorem dX8_nerve_95 : decode cX8_nerve 95 = .ok (.bipush 15, 2) := by decide +kernel
theorem dX8_nerve_97 : decode cX8_nerve 97 = .ok (.goto 20, 3) := by decide +kernel
theorem dX8_nerve_100 : decode cX8_nerve 100 = .ok (.iload_n 3, 1) := by decide +kernel
theorem dX8_nerve_101 : decode cX8_nerve 101 = .ok (.iconst 1, 1) := by decide +kernel
theorem dX8_nerve_102 : decode cX8_nerve 102 = .ok (.isub, 1) := by decide +kernel
theorem dX8_nerve_103 : decode cX8_nerve 103 = .ok (.goto 14, 3) := by decide +kernel
theorem dX8_nerve_106 : decode cX8_nerve 106 = .ok (.iload_n 2, 1) := by decide +kernel
theorem dX8_nerve_107 : decode cX8_nerve 107 = .ok (.iconst 1, 1) := by decide +kernel
theorem dX8_nerve_108 : decode cX8_nerve 108 = .ok (.if_icmp .ne 7, 3) := by decide +kernel
theorem dX8_nerve_111 : decode cX8_nerve 111 = .ok (.iload_n 3, 1) := by decide +kernel
theorem dX8_nerve_112 : decode cX8_nerve 112 = .ok (.goto 5, 3) := by decide +kernel
theorem dX8_nerve_115 : decode cX8_nerve 115 = .ok (.iload 4, 2) := by decide +kernel
theorem dX8_nerve_117 : decode cX8_nerve 117 = .ok (.ireturn, 1) := by decide +kernel
set_option maxRecDepth 20000 in
theorem ggX8_climbUp_X8_doesIt : GoodIn wsX8_climbUp wsX8_doesIt := goodIn_r _ [10, 11, 12, 13, 14, 9, 15, 16, 17, 18, 19, 20, 21, 22, 23, 24, 25, 26, 27, 28, 29, 30, 31, 32, 33, 34, 35, 36, 37, 38, 39, 40, 41, 42, 43, 44, 45, 46, 47, 48, 49, 50, 51, 52, 53, 54, 55, 56, 57, 58, 59, 60, 61, 62, 63, 64, 65, 66, 67, 68, 69, 70, 71, 72, 73, 74, 75, 76] (by decide +kernel) (by decide +kernel)
set_option maxRecDepth 20000 in
theorem gX8_climbUp_X8_doesIt : GoodIn wsX8_climbUp (wsV RX8 275 RX8 yX8_doesIt wsX8_doesIt) := goodIn_app (goodIn_of _ (by decide +kernel)) ggX8_climbUp_X8_doesIt
set_option maxRecDepth 20000 in
theorem ggX8_climbUp_X8_oddsOf : GoodIn wsX8_climbUp wsX8_oddsOf := goodIn_r _ [25, 26, 27, 31, 32, 33, 34, 35, 36, 37, 38, 39, 40, 41, 42, 43, 44, 45, 46, 47, 48, 49, 50, 51, 52, 53, 54, 55, 56, 57, 58, 59, 60, 61, 62, 63, 64, 65, 66, 67, 68, 69, 70, 71, 72, 73, 74, 75, 76] (by decide +kernel) (by decide +kernel)
set_option maxRecDepth 20000 in
theorem gX8_climbUp_X8_oddsOf : GoodIn wsX8_climbUp (wsV RX8 182 RX8 yX8_oddsOf wsX8_oddsOf) := goodIn_app (goodIn_of _ (by decide +kernel)) ggX8_climbUp_X8_oddsOf
theorem dX8_climbUp_0 : decode cX8_climbUp 0 = .ok (.aload_n 0, 1) := by decide +kernel
theorem dX8_climbUp_1 : decode cX8_climbUp 1 = .ok (.iconst 0, 1) := by decide +kernel
theorem dX8_climbUp_2 : decode cX8_climbUp 2 = .ok (.putfield 278, 3) := by decide +kernel
theorem dX8_climbUp_5 : decode cX8_climbUp 5 = .ok (.aload_n 0, 1) := by decide +kernel
theorem dX8_climbUp_6 : decode cX8_climbUp 6 = .ok (.iload_n 3, 1) := by decide +kernel
theorem dX8_climbUp_7 : decode cX8_climbUp 7 = .ok (.putfield 281, 3) := by decide +kernel
theorem dX8_climbUp_10 : decode cX8_climbUp 10 = .ok (.aload_n 0, 1) := by decide +kernel
theorem dX8_climbUp_11 : decode cX8_climbUp 11 = .ok (.bipush (-6), 2) := by decide +kernel
theorem dX8_climbUp_13 : decode cX8_climbUp 13 = .ok (.putfield 284, 3) := by decide +kernel
theorem dX8_climbUp_16 : decode cX8_climbUp 16 = .ok (.aload_n 0, 1) := by decide +kernel
theorem dX8_climbUp_17 : decode cX8_climbUp 17 = .ok (.lconst 1, 1) := by decide +kernel
theorem dX8_climbUp_18 : decode cX8_climbUp 18 = .ok (.putfield 287, 3) := by decide +kernel
theorem dX8_climbUp_21 : decode cX8_climbUp 21 = .ok (.iload_n 2, 1) := by decide +kernel
theorem dX8_climbUp_22 : decode cX8_climbUp 22 = .ok (.istore 5, 2) := by decide +kernel
theorem dX8_climbUp_24 : decode cX8_climbUp 24 = .ok (.iload_n 3, 1) := by decide +kernel
theorem dX8_climbUp_25 : decode cX8_climbUp 25 = .ok (.istore 6, 2) := by decide +kernel
theorem dX8_climbUp_27 : decode cX8_climbUp 27 = .ok (.iload 6, 2) := by decide +kernel
theorem dX8_climbUp_29 : decode cX8_climbUp 29 = .ok (.iload 4, 2) := by decide +kernel
theorem dX8_climbUp_31 : decode cX8_climbUp 31 = .ok (.if_icmp .gt 92, 3) := by decide +kernel
theorem dX8_climbUp_34 : decode cX8_climbUp 34 = .ok (.aload_n 0, 1) := by decide +kernel
theorem dX8_climbUp_35 : decode cX8_climbUp 35 = .ok (.getfield 284, 3) := by decide +kernel
theorem dX8_climbUp_38 : decode cX8_climbUp 38 = .ok (.ifCond .ge 85, 3) := by decide +kernel
theorem dX8_climbUp_41 : decode cX8_climbUp 41 = .ok (.aload_n 0, 1) := by decide +kernel
theorem dX8_climbUp_42 : decode cX8_climbUp 42 = .ok (.iload 6, 2) := by decide +kernel
theorem dX8_climbUp_44 : decode cX8_climbUp 44 = .ok (.putfield 281, 3) := by decide +kernel
theorem dX8_climbUp_47 : decode cX8_climbUp 47 = .ok (.aload_n 0, 1) := by decide +kernel
theorem dX8_climbUp_48 : decode cX8_climbUp 48 = .ok (.iload 5, 2) := by decide +kernel
theorem dX8_climbUp_50 : decode cX8_climbUp 50 = .ok (.iload 6, 2) := by decide +kernel
theorem dX8_climbUp_52 : decode cX8_climbUp 52 = .ok (.invokevirtual 275, 3) := by decide +kernel
theorem dX8_climbUp_55 : decode cX8_climbUp 55 = .ok (.ifCond .eq 50, 3) := by decide +kernel
theorem dX8_climbUp_58 : decode cX8_climbUp 58 = .ok (.aload_n 0, 1) := by decide +kernel
theorem dX8_climbUp_59 : decode cX8_climbUp 59 = .ok (.dup, 1) := by decide +kernel
theorem dX8_climbUp_60 : decode cX8_climbUp 60 = .ok (.getfield 278, 3) := by decide +kernel
theorem dX8_climbUp_63 : decode cX8_climbUp 63 = .ok (.iconst 1, 1) := by decide +kernel
theorem dX8_climbUp_64 : decode cX8_climbUp 64 = .ok (.iadd, 1) := by decide +kernel
theorem dX8_climbUp_65 : decode cX8_climbUp 65 = .ok (.putfield 278, 3) := by decide +kernel
theorem dX8_climbUp_68 : decode cX8_climbUp 68 = .ok (.aload_n 0, 1) := by decide +kernel
theorem dX8_climbUp_69 : decode cX8_climbUp 69 = .ok (.dup, 1) := by decide +kernel
theorem dX8_climbUp_70 : decode cX8_climbUp 70 = .ok (.getfield 287, 3) := by decide +kernel
theorem dX8_climbUp_73 : decode cX8_climbUp 73 = .ok (.bipush 10, 2) := by decide +kernel
theorem dX8_climbUp_75 : decode cX8_climbUp 75 = .ok (.aload_n 0, 1) := by decide +kernel
theorem dX8_climbUp_76 : decode cX8_climbUp 76 = .ok (.iload 5, 2) := by decide +kernel
theorem dX8_climbUp_78 : decode cX8_climbUp 78 = .ok (.iload 6, 2) := by decide +kernel
theorem dX8_climbUp_80 : decode cX8_climbUp 80 = .ok (.invokevirtual 182, 3) := by decide +kernel
theorem dX8_climbUp_83 : decode cX8_climbUp 83 = .ok (.isub, 1) := by decide +kernel
theorem dX8_climbUp_84 : decode cX8_climbUp 84 = .ok (.i2l, 1) := by decide +kernel
theorem dX8_climbUp_85 : decode cX8_climbUp 85 = .ok (.lmul, 1) := by decide +kernel
theorem dX8_climbUp_86 : decode cX8_climbUp 86 = .ok (.putfield 287, 3) := by decide +kernel
theorem dX8_climbUp_89 : decode cX8_climbUp 89 = .ok (.iload 5, 2) := by decide +kernel
theorem dX8_climbUp_91 : decode cX8_climbUp 91 = .ok (.iload_n 2, 1) := by decide +kernel
theorem dX8_climbUp_92 : decode cX8_climbUp 92 = .ok (.if_icmp .ne 7, 3) := by decide +kernel
theorem dX8_climbUp_95 : decode cX8_climbUp 95 = .ok (.iload_n 1, 1) := by decide +kernel
theorem dX8_climbUp_96 : decode cX8_climbUp 96 = .ok (.goto 4, 3) := by decide +kernel
theorem dX8_climbUp_99 : decode cX8_climbUp 99 = .ok (.iload_n 2, 1) := by decide +kernel
theorem dX8_climbUp_100 : decode cX8_climbUp 100 = .ok (.istore 5, 2) := by decide +kernel
theorem dX8_climbUp_102 : decode cX8_climbUp 102 = .ok (.goto 9, 3) := by decide +kernel
theorem dX8_climbUp_105 : decode cX8_climbUp 105 = .ok (.aload_n 0, 1) := by decide +kernel
theorem dX8_climbUp_106 : decode cX8_climbUp 106 = .ok (.iload 5, 2) := by decide +kernel
theorem dX8_climbUp_108 : decode cX8_climbUp 108 = .ok (.putfield 284, 3) := by decide +kernel
theorem dX8_climbUp_111 : decode cX8_climbUp 111 = .ok (.iload 6, 2) := by decide +kernel
theorem dX8_climbUp_113 : decode cX8_climbUp 113 = .ok (.aload_n 0, 1) := by decide +kernel
theorem dX8_climbUp_114 : decode cX8_climbUp 114 = .ok (.getfield 80, 3) := by decide +kernel
theorem dX8_climbUp_117 : decode cX8_climbUp 117 = .ok (.iadd, 1) := by decide +kernel
theorem dX8_climbUp_118 : decode cX8_climbUp 118 = .ok (.istore 6, 2) := by decide +kernel
theorem dX8_climbUp_120 : decode cX8_climbUp 120 = .ok (.goto (-93), 3) := by decide +kernel
theorem dX8_climbUp_123 : decode cX8_climbUp 123 = .ok (.return_, 1) := by decide +kernel
set_option maxRecDepth 20000 in
theorem ggX8_areTwo_X8_isThere : GoodIn wsX8_areTwo wsX8_isThere := goodIn_r _ [5, 6, 7, 8, 4, 9, 10, 11, 12, 13, 14, 15, 16, 17, 18, 19, 20, 21, 22, 23, 24, 25, 26, 27, 28, 29, 30, 31, 32, 33, 34, 35, 36, 37, 38, 39, 40, 41, 42, 43, 44, 45, 46, 47, 48, 49, 50, 51, 52, 53, 54, 55, 56, 57, 58, 59] (by decide +kernel) (by decide +kernel)
set_option maxRecDepth 20000 in
theorem gX8_areTwo_X8_isThere : GoodIn wsX8_areTwo (wsV RX8 123 RX8 yX8_isThere wsX8_isThere) := goodIn_app (goodIn_of _ (by decide +kernel)) ggX8_areTwo_X8_isThere
theorem dX8_areTwo_0 : decode cX8_areTwo 0 = .ok (.aload_n 0, 1) := by decide +kernel
theorem dX8_areTwo_1 : decode cX8_areTwo 1 = .ok (.iload_n 1, 1) := by decide +kernel
theorem dX8_areTwo_2 : decode cX8_areTwo 2 = .ok (.invokevirtual 123, 3) := by decide +kernel
theorem dX8_areTwo_5 : decode cX8_areTwo 5 = .ok (.ifCond .eq 20, 3) := by decide +kernel
theorem dX8_areTwo_8 : decode cX8_areTwo 8 = .ok (.aload_n 0, 1) := by decide +kernel
theorem dX8_areTwo_9 : decode cX8_areTwo 9 = .ok (.iload_n 2, 1) := by decide +kernel
theorem dX8_areTwo_10 : decode cX8_areTwo 10 = .ok (.invokevirtual 123, 3) := by decide +kernel
theorem dX8_areTwo_13 : decode cX8_areTwo 13 = .ok (.ifCond .eq 12, 3) := by decide +kernel
theorem dX8_areTwo_16 : decode cX8_areTwo 16 = .ok (.iload_n 1, 1) := by decide +kernel
theorem dX8_areTwo_17 : decode cX8_areTwo 17 = .ok (.iload_n 2, 1) := by decide +kernel
theorem dX8_areTwo_18 : decode cX8_areTwo 18 = .ok (.if_icmp .eq 7, 3) := by decide +kernel
theorem dX8_areTwo_21 : decode cX8_areTwo 21 = .ok (.iconst 1, 1) := by decide +kernel
theorem dX8_areTwo_22 : decode cX8_areTwo 22 = .ok (.goto 4, 3) := by decide +kernel
theorem dX8_areTwo_25 : decode cX8_areTwo 25 = .ok (.iconst 0, 1) := by decide +kernel
theorem dX8_areTwo_26 : decode cX8_areTwo 26 = .ok (.ireturn, 1) := by decide +kernel
set_option maxRecDepth 20000 in
theorem ggX8_isClimb_X8_isHeight : GoodIn wsX8_isClimb wsX8_isHeight := goodIn_r _ [4, 5, 6, 7, 3, 8] (by decide +kernel) (by decide +kernel)
set_option maxRecDepth 20000 in
theorem gX8_isClimb_X8_isHeight : GoodIn wsX8_isClimb (va_wsS RX8 162 yX8_isHeight wsX8_isHeight) := goodIn_app (goodIn_of _ (by decide +kernel)) ggX8_isClimb_X8_isHeight
set_option maxRecDepth 20000 in
theorem ggX8_isClimb_X8_in : GoodIn wsX8_isClimb wsX8_in := goodIn_r _ [8] (by decide +kernel) (by decide +kernel)
set_option maxRecDepth 20000 in
theorem gX8_isClimb_X8_in : GoodIn wsX8_isClimb (va_wsS RX8 101 yX8_in wsX8_in) := goodIn_app (goodIn_of _ (by decide +kernel)) ggX8_isClimb_X8_in
theorem dX8_isClimb_0 : decode cX8_isClimb 0 = .ok (.iload_n 1, 1) := by decide +kernel
theorem dX8_isClimb_1 : decode cX8_isClimb 1 = .ok (.invokestatic 162, 3) := by decide +kernel
theorem dX8_isClimb_4 : decode cX8_isClimb 4 = .ok (.ifCond .eq 18, 3) := by decide +kernel
theorem dX8_isClimb_7 : decode cX8_isClimb 7 = .ok (.iload_n 0, 1) := by decide +kernel
theorem dX8_isClimb_8 : decode cX8_isClimb 8 = .ok (.i2l, 1) := by decide +kernel
theorem dX8_isClimb_9 : decode cX8_isClimb 9 = .ok (.lconst 1, 1) := by decide +kernel
theorem dX8_isClimb_10 : decode cX8_isClimb 10 = .ok (.iload_n 1, 1) := by decide +kernel
theorem dX8_isClimb_11 : decode cX8_isClimb 11 = .ok (.i2l, 1) := by decide +kernel
theorem dX8_isClimb_12 : decode cX8_isClimb 12 = .ok (.invokestatic 101, 3) := by decide +kernel
theorem dX8_isClimb_15 : decode cX8_isClimb 15 = .ok (.ifCond .eq 7, 3) := by decide +kernel
theorem dX8_isClimb_18 : decode cX8_isClimb 18 = .ok (.iconst 1, 1) := by decide +kernel
theorem dX8_isClimb_19 : decode cX8_isClimb 19 = .ok (.goto 4, 3) := by decide +kernel
theorem dX8_isClimb_22 : decode cX8_isClimb 22 = .ok (.iconst 0, 1) := by decide +kernel
theorem dX8_isClimb_23 : decode cX8_isClimb 23 = .ok (.ireturn, 1) := by decide +kernel
set_option maxRecDepth 20000 in
theorem ggX8_climb_X8_areTwo : GoodIn wsX8_climb wsX8_areTwo := goodIn_r _ [9, 10, 11, 12, 8, 13, 14, 15, 16, 17, 18, 19, 20, 21, 59, 60, 61, 62, 63, 64, 65, 66, 67, 68, 69, 70, 71, 72, 73, 74, 75, 76, 77, 78, 79, 80, 81, 82, 83, 84, 85, 86, 87, 88, 89, 90, 91, 92, 93, 94, 95, 96, 97, 98, 99, 100, 101, 102, 103, 104] (by decide +kernel) (by decide +kernel)
set_option maxRecDepth 20000 in
theorem gX8_climb_X8_areTwo : GoodIn wsX8_climb (wsV RX8 291 RX8 yX8_areTwo wsX8_areTwo) := goodIn_app (goodIn_of _ (by decide +kernel)) ggX8_climb_X8_areTwo
set_option maxRecDepth 20000 in
theorem ggX8_climb_X8_isClimb : GoodIn wsX8_climb wsX8_isClimb := goodIn_r _ [24, 25, 26, 8, 27, 28, 19, 20, 21] (by decide +kernel) (by decide +kernel)
set_option maxRecDepth 20000 in
theorem gX8_climb_X8_isClimb : GoodIn wsX8_climb (va_wsS RX8 294 yX8_isClimb wsX8_isClimb) := goodIn_app (goodIn_of _ (by decide +kernel)) ggX8_climb_X8_isClimb
set_option maxRecDepth 20000 in
theorem ggX8_climb_X8_in : GoodIn wsX8_climb wsX8_in := goodIn_r _ [21] (by decide +kernel) (by decide +kernel)
set_option maxRecDepth 20000 in
theorem gX8_climb_X8_in : GoodIn wsX8_climb (va_wsS RX8 101 yX8_in wsX8_in) := goodIn_app (goodIn_of _ (by decide +kernel)) ggX8_climb_X8_in
set_option maxRecDepth 20000 in
theorem ggX8_climb_X8_climbUp : GoodIn wsX8_climb wsX8_climbUp := goodIn_r _ [32, 2, 3, 4, 33, 34, 35, 36, 37, 8, 38, 39, 40, 41, 42, 43, 44, 45, 46, 47, 48, 49, 50, 51, 52, 53, 54, 55, 56, 57, 58, 59, 60, 61, 62, 63, 64, 65, 66, 67, 68, 69, 70, 71, 72, 73, 74, 75, 76, 77, 78, 79, 80, 81, 82, 83, 84, 85, 86, 87, 88, 89, 90, 91, 92, 93, 94, 95, 96, 97, 98, 99, 100, 101, 102, 103, 104] (by decide +kernel) (by decide +kernel)
set_option maxRecDepth 20000 in
theorem gX8_climb_X8_climbUp : GoodIn wsX8_climb (wsV RX8 297 RX8 yX8_climbUp wsX8_climbUp) := goodIn_app (goodIn_of _ (by decide +kernel)) ggX8_climb_X8_climbUp
theorem dX8_climb_0 : decode cX8_climb 0 = .ok (.aload_n 0, 1) := by decide +kernel
theorem dX8_climb_1 : decode cX8_climb 1 = .ok (.iload_n 1, 1) := by decide +kernel
theorem dX8_climb_2 : decode cX8_climb 2 = .ok (.iload_n 2, 1) := by decide +kernel
theorem dX8_climb_3 : decode cX8_climb 3 = .ok (.invokevirtual 291, 3) := by decide +kernel
theorem dX8_climb_6 : decode cX8_climb 6 = .ok (.ifCond .ne 5, 3) := by decide +kernel
theorem dX8_climb_9 : decode cX8_climb 9 = .ok (.iconst (-1), 1) := by decide +kernel
theorem dX8_climb_10 : decode cX8_climb 10 = .ok (.ireturn, 1) := by decide +kernel
theorem dX8_climb_11 : decode cX8_climb 11 = .ok (.iload_n 3, 1) := by decide +kernel
theorem dX8_climb_12 : decode cX8_climb 12 = .ok (.iload 4, 2) := by decide +kernel
theorem dX8_climb_14 : decode cX8_climb 14 = .ok (.invokestatic 294, 3) := by decide +kernel
theorem dX8_climb_17 : decode cX8_climb 17 = .ok (.ifCond .eq 16, 3) := by decide +kernel
theorem dX8_climb_20 : decode cX8_climb 20 = .ok (.iload 5, 2) := by decide +kernel
theorem dX8_climb_22 : decode cX8_climb 22 = .ok (.i2l, 1) := by decide +kernel
theorem dX8_climb_23 : decode cX8_climb 23 = .ok (.lconst 0, 1) := by decide +kernel
theorem dX8_climb_24 : decode cX8_climb 24 = .ok (.ldc2_w 231, 3) := by decide +kernel
theorem dX8_climb_27 : decode cX8_climb 27 = .ok (.invokestatic 101, 3) := by decide +kernel
theorem dX8_climb_30 : decode cX8_climb 30 = .ok (.ifCond .ne 6, 3) := by decide +kernel
theorem dX8_climb_33 : decode cX8_climb 33 = .ok (.bipush (-2), 2) := by decide +kernel
theorem dX8_climb_35 : decode cX8_climb 35 = .ok (.ireturn, 1) := by decide +kernel
theorem dX8_climb_36 : decode cX8_climb 36 = .ok (.aload_n 0, 1) := by decide +kernel
theorem dX8_climb_37 : decode cX8_climb 37 = .ok (.iload_n 1, 1) := by decide +kernel
theorem dX8_climb_38 : decode cX8_climb 38 = .ok (.iload_n 2, 1) := by decide +kernel
theorem dX8_climb_39 : decode cX8_climb 39 = .ok (.iload_n 3, 1) := by decide +kernel
theorem dX8_climb_40 : decode cX8_climb 40 = .ok (.iload 4, 2) := by decide +kernel
theorem dX8_climb_42 : decode cX8_climb 42 = .ok (.invokevirtual 297, 3) := by decide +kernel
theorem dX8_climb_45 : decode cX8_climb 45 = .ok (.iload 5, 2) := by decide +kernel
theorem dX8_climb_47 : decode cX8_climb 47 = .ok (.ifCond .ne 10, 3) := by decide +kernel
theorem dX8_climb_50 : decode cX8_climb 50 = .ok (.aload_n 0, 1) := by decide +kernel
theorem dX8_climb_51 : decode cX8_climb 51 = .ok (.getfield 278, 3) := by decide +kernel
theorem dX8_climb_54 : decode cX8_climb 54 = .ok (.goto 20, 3) := by decide +kernel
theorem dX8_climb_57 : decode cX8_climb 57 = .ok (.iload 5, 2) := by decide +kernel
theorem dX8_climb_59 : decode cX8_climb 59 = .ok (.iconst 1, 1) := by decide +kernel
theorem dX8_climb_60 : decode cX8_climb 60 = .ok (.if_icmp .ne 10, 3) := by decide +kernel
theorem dX8_climb_63 : decode cX8_climb 63 = .ok (.aload_n 0, 1) := by decide +kernel
theorem dX8_climb_64 : decode cX8_climb 64 = .ok (.getfield 281, 3) := by decide +kernel
theorem dX8_climb_67 : decode cX8_climb 67 = .ok (.goto 7, 3) := by decide +kernel
theorem dX8_climb_70 : decode cX8_climb 70 = .ok (.aload_n 0, 1) := by decide +kernel
theorem dX8_climb_71 : decode cX8_climb 71 = .ok (.getfield 284, 3) := by decide +kernel
theorem dX8_climb_74 : decode cX8_climb 74 = .ok (.ireturn, 1) := by decide +kernel
set_option maxRecDepth 20000 in
theorem ggX8_safe_X8_areTwo : GoodIn wsX8_safe wsX8_areTwo := goodIn_r _ [9, 10, 11, 12, 8, 13, 14, 15, 16, 17, 18, 19, 20, 21, 67, 68, 69, 70, 71, 72, 73, 74, 75, 76, 77, 78, 79, 80, 81, 82, 83, 84, 85, 86, 87, 88, 89, 90, 91, 92, 93, 94, 95, 96, 97, 98, 99, 100, 101, 102, 103, 104, 105, 106, 107, 108, 109, 110, 111, 112] (by decide +kernel) (by decide +kernel)
set_option maxRecDepth 20000 in
theorem gX8_safe_X8_areTwo : GoodIn wsX8_safe (wsV RX8 291 RX8 yX8_areTwo wsX8_areTwo) := goodIn_app (goodIn_of _ (by decide +kernel)) ggX8_safe_X8_areTwo
set_option maxRecDepth 20000 in
theorem ggX8_safe_X8_isClimb : GoodIn wsX8_safe wsX8_isClimb := goodIn_r _ [24, 25, 26, 8, 27, 28, 19, 20, 21] (by decide +kernel) (by decide +kernel)
set_option maxRecDepth 20000 in
theorem gX8_safe_X8_isClimb : GoodIn wsX8_safe (va_wsS RX8 294 yX8_isClimb wsX8_isClimb) := goodIn_app (goodIn_of _ (by decide +kernel)) ggX8_safe_X8_isClimb
set_option maxRecDepth 20000 in
theorem ggX8_safe_X8_in : GoodIn wsX8_safe wsX8_in := goodIn_r _ [21] (by decide +kernel) (by decide +kernel)
set_option maxRecDepth 20000 in
theorem gX8_safe_X8_in : GoodIn wsX8_safe (va_wsS RX8 101 yX8_in wsX8_in) := goodIn_app (goodIn_of _ (by decide +kernel)) ggX8_safe_X8_in
set_option maxRecDepth 20000 in
theorem ggX8_safe_X8_climbUp : GoodIn wsX8_safe wsX8_climbUp := goodIn_r _ [32, 4, 33, 34, 3, 35, 36, 37, 38, 8, 39, 40, 41, 42, 43, 44, 45, 46, 47, 48, 49, 50, 51, 52, 53, 54, 55, 56, 57, 58, 59, 67, 68, 69, 70, 71, 72, 73, 74, 75, 76, 77, 78, 79, 80, 81, 82, 83, 84, 85, 86, 87, 88, 89, 90, 91, 92, 93, 94, 95, 96, 97, 98, 99, 100, 101, 102, 103, 104, 105, 106, 107, 108, 109, 110, 111, 112] (by decide +kernel) (by decide +kernel)
set_option maxRecDepth 20000 in
theorem gX8_safe_X8_climbUp : GoodIn wsX8_safe (wsV RX8 297 RX8 yX8_climbUp wsX8_climbUp) := goodIn_app (goodIn_of _ (by decide +kernel)) ggX8_safe_X8_climbUp
set_option maxRecDepth 20000 in
theorem ggX8_safe_X8_tens : GoodIn wsX8_safe wsX8_tens := goodIn_r _ [62, 63] (by decide +kernel) (by decide +kernel)
set_option maxRecDepth 20000 in
theorem gX8_safe_X8_tens : GoodIn wsX8_safe (va_wsS RX8 250 yX8_tens wsX8_tens) := goodIn_app (goodIn_of _ (by decide +kernel)) ggX8_safe_X8_tens
set_option maxRecDepth 20000 in
theorem ggX8_safe_X8_lowest : GoodIn wsX8_safe wsX8_lowest := goodIn_r _ [66] (by decide +kernel) (by decide +kernel)
set_option maxRecDepth 20000 in
theorem gX8_safe_X8_lowest : GoodIn wsX8_safe (va_wsS RX8 254 yX8_lowest wsX8_lowest) := goodIn_app (goodIn_of _ (by decide +kernel)) ggX8_safe_X8_lowest
theorem dX8_safe_0 : decode cX8_safe 0 = .ok (.aload_n 0, 1) := by decide +kernel
theorem dX8_safe_1 : decode cX8_safe 1 = .ok (.iload_n 1, 1) := by decide +kernel
theorem dX8_safe_2 : decode cX8_safe 2 = .ok (.iload_n 2, 1) := by decide +kernel
theorem dX8_safe_3 : decode cX8_safe 3 = .ok (.invokevirtual 291, 3) := by decide +kernel
theorem dX8_safe_6 : decode cX8_safe 6 = .ok (.ifCond .ne 7, 3) := by decide +kernel
theorem dX8_safe_9 : decode cX8_safe 9 = .ok (.ldc2_w 301, 3) := by decide +kernel
theorem dX8_safe_12 : decode cX8_safe 12 = .ok (.lreturn, 1) := by decide +kernel
theorem dX8_safe_13 : decode cX8_safe 13 = .ok (.iload_n 3, 1) := by decide +kernel
theorem dX8_safe_14 : decode cX8_safe 14 = .ok (.iload 4, 2) := by decide +kernel
theorem dX8_safe_16 : decode cX8_safe 16 = .ok (.invokestatic 294, 3) := by decide +kernel
theorem dX8_safe_19 : decode cX8_safe 19 = .ok (.ifCond .eq 14, 3) := by decide +kernel
theorem dX8_safe_22 : decode cX8_safe 22 = .ok (.iload 5, 2) := by decide +kernel
theorem dX8_safe_24 : decode cX8_safe 24 = .ok (.i2l, 1) := by decide +kernel
theorem dX8_safe_25 : decode cX8_safe 25 = .ok (.lconst 0, 1) := by decide +kernel
theorem dX8_safe_26 : decode cX8_safe 26 = .ok (.lconst 1, 1) := by decide +kernel
theorem dX8_safe_27 : decode cX8_safe 27 = .ok (.invokestatic 101, 3) := by decide +kernel
theorem dX8_safe_30 : decode cX8_safe 30 = .ok (.ifCond .ne 7, 3) := by decide +kernel
theorem dX8_safe_33 : decode cX8_safe 33 = .ok (.ldc2_w 244, 3) := by decide +kernel
theorem dX8_safe_36 : decode cX8_safe 36 = .ok (.lreturn, 1) := by decide +kernel
theorem dX8_safe_37 : decode cX8_safe 37 = .ok (.aload_n 0, 1) := by decide +kernel
theorem dX8_safe_38 : decode cX8_safe 38 = .ok (.iload_n 1, 1) := by decide +kernel
theorem dX8_safe_39 : decode cX8_safe 39 = .ok (.iload_n 2, 1) := by decide +kernel
theorem dX8_safe_40 : decode cX8_safe 40 = .ok (.iload_n 3, 1) := by decide +kernel
theorem dX8_safe_41 : decode cX8_safe 41 = .ok (.iload 4, 2) := by decide +kernel
theorem dX8_safe_43 : decode cX8_safe 43 = .ok (.invokevirtual 297, 3) := by decide +kernel
theorem dX8_safe_46 : decode cX8_safe 46 = .ok (.aload_n 0, 1) := by decide +kernel
theorem dX8_safe_47 : decode cX8_safe 47 = .ok (.getfield 287, 3) := by decide +kernel
theorem dX8_safe_50 : decode cX8_safe 50 = .ok (.aload_n 0, 1) := by decide +kernel
theorem dX8_safe_51 : decode cX8_safe 51 = .ok (.getfield 278, 3) := by decide +kernel
theorem dX8_safe_54 : decode cX8_safe 54 = .ok (.invokestatic 250, 3) := by decide +kernel
theorem dX8_safe_57 : decode cX8_safe 57 = .ok (.iload 5, 2) := by decide +kernel
theorem dX8_safe_59 : decode cX8_safe 59 = .ok (.invokestatic 254, 3) := by decide +kernel
theorem dX8_safe_62 : decode cX8_safe 62 = .ok (.lreturn, 1) := by decide +kernel
set_option maxRecDepth 20000 in
theorem ggX8_law_X8_areTwo : GoodIn wsX8_law wsX8_areTwo := goodIn_r _ [8, 9, 10, 11, 7, 12, 13, 14, 15, 16, 17, 18, 19, 20, 60, 61, 62, 63, 64, 65, 66, 67, 68, 69, 70, 71, 72, 73, 74, 75, 76, 77, 78, 79, 80, 81, 82, 83, 84, 85, 86, 87, 88, 89, 90, 91, 92, 93, 94, 95, 96, 97, 98, 99, 100, 101, 102, 103, 104, 105] (by decide +kernel) (by decide +kernel)
set_option maxRecDepth 20000 in
theorem gX8_law_X8_areTwo : GoodIn wsX8_law (wsV RX8 291 RX8 yX8_areTwo wsX8_areTwo) := goodIn_app (goodIn_of _ (by decide +kernel)) ggX8_law_X8_areTwo
set_option maxRecDepth 20000 in
theorem ggX8_law_X8_isHeight : GoodIn wsX8_law wsX8_isHeight := goodIn_r _ [23, 24, 18, 19, 7, 20] (by decide +kernel) (by decide +kernel)
set_option maxRecDepth 20000 in
theorem gX8_law_X8_isHeight : GoodIn wsX8_law (va_wsS RX8 162 yX8_isHeight wsX8_isHeight) := goodIn_app (goodIn_of _ (by decide +kernel)) ggX8_law_X8_isHeight
set_option maxRecDepth 20000 in
theorem ggX8_law_X8_in : GoodIn wsX8_law wsX8_in := goodIn_r _ [20] (by decide +kernel) (by decide +kernel)
set_option maxRecDepth 20000 in
theorem gX8_law_X8_in : GoodIn wsX8_law (va_wsS RX8 101 yX8_in wsX8_in) := goodIn_app (goodIn_of _ (by decide +kernel)) ggX8_law_X8_in
set_option maxRecDepth 20000 in
theorem ggX8_law_X8_climbUp : GoodIn wsX8_law wsX8_climbUp := goodIn_r _ [28, 3, 29, 30, 2, 31, 32, 33, 34, 7, 35, 36, 37, 38, 39, 40, 41, 42, 43, 44, 45, 46, 47, 48, 49, 50, 51, 52, 53, 54, 55, 60, 61, 62, 63, 64, 65, 66, 67, 68, 69, 70, 71, 72, 73, 74, 75, 76, 77, 78, 79, 80, 81, 82, 83, 84, 85, 86, 87, 88, 89, 90, 91, 92, 93, 94, 95, 96, 97, 98, 99, 100, 101, 102, 103, 104, 105] (by decide +kernel) (by decide +kernel)
set_option maxRecDepth 20000 in
theorem gX8_law_X8_climbUp : GoodIn wsX8_law (wsV RX8 297 RX8 yX8_climbUp wsX8_climbUp) := goodIn_app (goodIn_of _ (by decide +kernel)) ggX8_law_X8_climbUp
set_option maxRecDepth 20000 in
theorem ggX8_law_X8_tens : GoodIn wsX8_law wsX8_tens := goodIn_r _ [58, 59] (by decide +kernel) (by decide +kernel)
set_option maxRecDepth 20000 in
theorem gX8_law_X8_tens : GoodIn wsX8_law (va_wsS RX8 250 yX8_tens wsX8_tens) := goodIn_app (goodIn_of _ (by decide +kernel)) ggX8_law_X8_tens
theorem dX8_law_0 : decode cX8_law 0 = .ok (.aload_n 0, 1) := by decide +kernel
theorem dX8_law_1 : decode cX8_law 1 = .ok (.iload_n 1, 1) := by decide +kernel
theorem dX8_law_2 : decode cX8_law 2 = .ok (.iload_n 2, 1) := by decide +kernel
theorem dX8_law_3 : decode cX8_law 3 = .ok (.invokevirtual 291, 3) := by decide +kernel
theorem dX8_law_6 : decode cX8_law 6 = .ok (.ifCond .ne 5, 3) := by decide +kernel
theorem dX8_law_9 : decode cX8_law 9 = .ok (.iconst (-1), 1) := by decide +kernel
theorem dX8_law_10 : decode cX8_law 10 = .ok (.ireturn, 1) := by decide +kernel
theorem dX8_law_11 : decode cX8_law 11 = .ok (.iload_n 3, 1) := by decide +kernel
theorem dX8_law_12 : decode cX8_law 12 = .ok (.invokestatic 162, 3) := by decide +kernel
theorem dX8_law_15 : decode cX8_law 15 = .ok (.ifCond .eq 29, 3) := by decide +kernel
theorem dX8_law_18 : decode cX8_law 18 = .ok (.iload 5, 2) := by decide +kernel
theorem dX8_law_20 : decode cX8_law 20 = .ok (.i2l, 1) := by decide +kernel
theorem dX8_law_21 : decode cX8_law 21 = .ok (.lconst 1, 1) := by decide +kernel
theorem dX8_law_22 : decode cX8_law 22 = .ok (.ldc2_w 303, 3) := by decide +kernel
theorem dX8_law_25 : decode cX8_law 25 = .ok (.invokestatic 101, 3) := by decide +kernel
theorem dX8_law_28 : decode cX8_law 28 = .ok (.ifCond .eq 16, 3) := by decide +kernel
theorem dX8_law_31 : decode cX8_law 31 = .ok (.iload 4, 2) := by decide +kernel
theorem dX8_law_33 : decode cX8_law 33 = .ok (.i2l, 1) := by decide +kernel
theorem dX8_law_34 : decode cX8_law 34 = .ok (.lconst 0, 1) := by decide +kernel
theorem dX8_law_35 : decode cX8_law 35 = .ok (.iload 5, 2) := by decide +kernel
theorem dX8_law_37 : decode cX8_law 37 = .ok (.i2l, 1) := by decide +kernel
theorem dX8_law_38 : decode cX8_law 38 = .ok (.invokestatic 101, 3) := by decide +kernel
theorem dX8_law_41 : decode cX8_law 41 = .ok (.ifCond .ne 6, 3) := by decide +kernel
theorem dX8_law_44 : decode cX8_law 44 = .ok (.bipush (-2), 2) := by decide +kernel
theorem dX8_law_46 : decode cX8_law 46 = .ok (.ireturn, 1) := by decide +kernel
theorem dX8_law_47 : decode cX8_law 47 = .ok (.bipush (-6), 2) := by decide +kernel
theorem dX8_law_49 : decode cX8_law 49 = .ok (.istore 6, 2) := by decide +kernel
theorem dX8_law_51 : decode cX8_law 51 = .ok (.iload_n 3, 1) := by decide +kernel
theorem dX8_law_52 : decode cX8_law 52 = .ok (.istore 7, 2) := by decide +kernel
theorem dX8_law_54 : decode cX8_law 54 = .ok (.iload 7, 2) := by decide +kernel
theorem dX8_law_56 : decode cX8_law 56 = .ok (.bipush 15, 2) := by decide +kernel
theorem dX8_law_58 : decode cX8_law 58 = .ok (.if_icmp .gt 50, 3) := by decide +kernel
theorem dX8_law_61 : decode cX8_law 61 = .ok (.aload_n 0, 1) := by decide +kernel
theorem dX8_law_62 : decode cX8_law 62 = .ok (.iload_n 1, 1) := by decide +kernel
theorem dX8_law_63 : decode cX8_law 63 = .ok (.iload_n 2, 1) := by decide +kernel
theorem dX8_law_64 : decode cX8_law 64 = .ok (.iload_n 3, 1) := by decide +kernel
theorem dX8_law_65 : decode cX8_law 65 = .ok (.iload 7, 2) := by decide +kernel
theorem dX8_law_67 : decode cX8_law 67 = .ok (.invokevirtual 297, 3) := by decide +kernel
theorem dX8_law_70 : decode cX8_law 70 = .ok (.aload_n 0, 1) := by decide +kernel
theorem dX8_law_71 : decode cX8_law 71 = .ok (.getfield 287, 3) := by decide +kernel
theorem dX8_law_74 : decode cX8_law 74 = .ok (.iload 5, 2) := by decide +kernel
theorem dX8_law_76 : decode cX8_law 76 = .ok (.i2l, 1) := by decide +kernel
theorem dX8_law_77 : decode cX8_law 77 = .ok (.lmul, 1) := by decide +kernel
theorem dX8_law_78 : decode cX8_law 78 = .ok (.iload 4, 2) := by decide +kernel
theorem dX8_law_80 : decode cX8_law 80 = .ok (.i2l, 1) := by decide +kernel
theorem dX8_law_81 : decode cX8_law 81 = .ok (.aload_n 0, 1) := by decide +kernel
theorem dX8_law_82 : decode cX8_law 82 = .ok (.getfield 278, 3) := by decide +kernel
theorem dX8_law_85 : decode cX8_law 85 = .ok (.invokestatic 250, 3) := by decide +kernel
theorem dX8_law_88 : decode cX8_law 88 = .ok (.lmul, 1) := by decide +kernel
theorem dX8_law_89 : decode cX8_law 89 = .ok (.lcmp, 1) := by decide +kernel
theorem dX8_law_90 : decode cX8_law 90 = .ok (.ifCond .lt 8, 3) := by decide +kernel
theorem dX8_law_93 : decode cX8_law 93 = .ok (.iload 7, 2) := by decide +kernel
theorem dX8_law_95 : decode cX8_law 95 = .ok (.goto 5, 3) := by decide +kernel
theorem dX8_law_98 : decode cX8_law 98 = .ok (.iload 6, 2) := by decide +kernel
theorem dX8_law_100 : decode cX8_law 100 = .ok (.istore 6, 2) := by decide +kernel
theorem dX8_law_102 : decode cX8_law 102 = .ok (.iinc 7 1, 3) := by decide +kernel
theorem dX8_law_105 : decode cX8_law 105 = .ok (.goto (-51), 3) := by decide +kernel
theorem dX8_law_108 : decode cX8_law 108 = .ok (.iload 6, 2) := by decide +kernel
theorem dX8_law_110 : decode cX8_law 110 = .ok (.ireturn, 1) := by decide +kernel
set_option maxRecDepth 20000 in
theorem ggX8_findGame_X8_play : GoodIn wsX8_findGame wsX8_play := goodIn_r _ [8, 9, 10, 3, 2, 11, 12, 13, 7, 14, 15, 16, 17, 18, 19, 20, 21, 22, 23, 24, 25, 26, 27, 28, 29, 30, 31, 32, 33, 34, 35, 36, 37, 38, 39, 40, 41, 42, 43, 44, 45, 46, 47, 48, 49, 50, 51, 52, 53, 54, 55, 56, 57, 58, 59, 60, 61, 62, 63, 64, 65, 66, 67, 68, 69, 70, 71, 72, 73, 74, 75, 76, 77, 78, 79] (by decide +kernel) (by decide +kernel)
set_option maxRecDepth 20000 in
theorem gX8_findGame_X8_play : GoodIn wsX8_findGame (wsV RX8 305 RX8 yX8_play wsX8_play) := goodIn_app (goodIn_of _ (by decide +kernel)) ggX8_findGame_X8_play
theorem dX8_findGame_0 : decode cX8_findGame 0 = .ok (.iload_n 3, 1) := by decide +kernel
theorem dX8_findGame_1 : decode cX8_findGame 1 = .ok (.istore 4, 2) := by decide +kernel
theorem dX8_findGame_3 : decode cX8_findGame 3 = .ok (.iload 4, 2) := by decide +kernel
theorem dX8_findGame_5 : decode cX8_findGame 5 = .ok (.ifCond .le 139, 3) := by decide +kernel
theorem dX8_findGame_8 : decode cX8_findGame 8 = .ok (.iconst 0, 1) := by decide +kernel
theorem dX8_findGame_9 : decode cX8_findGame 9 = .ok (.istore 5, 2) := by decide +kernel
theorem dX8_findGame_11 : decode cX8_findGame 11 = .ok (.iload 5, 2) := by decide +kernel
theorem dX8_findGame_13 : decode cX8_findGame 13 = .ok (.iconst 2, 1) := by decide +kernel
theorem dX8_findGame_14 : decode cX8_findGame 14 = .ok (.if_icmp .ge 124, 3) := by decide +kernel
theorem dX8_findGame_17 : decode cX8_findGame 17 = .ok (.iload 5, 2) := by decide +kernel
theorem dX8_findGame_19 : decode cX8_findGame 19 = .ok (.ifCond .ne 7, 3) := by decide +kernel
theorem dX8_findGame_22 : decode cX8_findGame 22 = .ok (.iload_n 1, 1) := by decide +kernel
theorem dX8_findGame_23 : decode cX8_findGame 23 = .ok (.goto 4, 3) := by decide +kernel
theorem dX8_findGame_26 : decode cX8_findGame 26 = .ok (.iload_n 2, 1) := by decide +kernel
theorem dX8_findGame_27 : decode cX8_findGame 27 = .ok (.istore 6, 2) := by decide +kernel
theorem dX8_findGame_29 : decode cX8_findGame 29 = .ok (.iload 5, 2) := by decide +kernel
theorem dX8_findGame_31 : decode cX8_findGame 31 = .ok (.ifCond .ne 7, 3) := by decide +kernel
theorem dX8_findGame_34 : decode cX8_findGame 34 = .ok (.iload_n 2, 1) := by decide +kernel
theorem dX8_findGame_35 : decode cX8_findGame 35 = .ok (.goto 4, 3) := by decide +kernel
theorem dX8_findGame_38 : decode cX8_findGame 38 = .ok (.iload_n 1, 1) := by decide +kernel
theorem dX8_findGame_39 : decode cX8_findGame 39 = .ok (.istore 7, 2) := by decide +kernel
theorem dX8_findGame_41 : decode cX8_findGame 41 = .ok (.iload 4, 2) := by decide +kernel
theorem dX8_findGame_43 : decode cX8_findGame 43 = .ok (.aload_n 0, 1) := by decide +kernel
theorem dX8_findGame_44 : decode cX8_findGame 44 = .ok (.getfield 80, 3) := by decide +kernel
theorem dX8_findGame_47 : decode cX8_findGame 47 = .ok (.iadd, 1) := by decide +kernel
theorem dX8_findGame_48 : decode cX8_findGame 48 = .ok (.iload_n 3, 1) := by decide +kernel
theorem dX8_findGame_49 : decode cX8_findGame 49 = .ok (.if_icmp .gt 7, 3) := by decide +kernel
theorem dX8_findGame_52 : decode cX8_findGame 52 = .ok (.iconst 1, 1) := by decide +kernel
theorem dX8_findGame_53 : decode cX8_findGame 53 = .ok (.goto 4, 3) := by decide +kernel
theorem dX8_findGame_56 : decode cX8_findGame 56 = .ok (.iconst 0, 1) := by decide +kernel
theorem dX8_findGame_57 : decode cX8_findGame 57 = .ok (.istore 8, 2) := by decide +kernel
theorem dX8_findGame_59 : decode cX8_findGame 59 = .ok (.iconst 2, 1) := by decide +kernel
theorem dX8_findGame_60 : decode cX8_findGame 60 = .ok (.iload 4, 2) := by decide +kernel
theorem dX8_findGame_62 : decode cX8_findGame 62 = .ok (.aload_n 0, 1) := by decide +kernel
theorem dX8_findGame_63 : decode cX8_findGame 63 = .ok (.getfield 80, 3) := by decide +kernel
theorem dX8_findGame_66 : decode cX8_findGame 66 = .ok (.iadd, 1) := by decide +kernel
theorem dX8_findGame_67 : decode cX8_findGame 67 = .ok (.imul, 1) := by decide +kernel
theorem dX8_findGame_68 : decode cX8_findGame 68 = .ok (.iconst 1, 1) := by decide +kernel
theorem dX8_findGame_69 : decode cX8_findGame 69 = .ok (.iadd, 1) := by decide +kernel
theorem dX8_findGame_70 : decode cX8_findGame 70 = .ok (.iload 5, 2) := by decide +kernel
theorem dX8_findGame_72 : decode cX8_findGame 72 = .ok (.isub, 1) := by decide +kernel
theorem dX8_findGame_73 : decode cX8_findGame 73 = .ok (.istore 9, 2) := by decide +kernel
theorem dX8_findGame_75 : decode cX8_findGame 75 = .ok (.iload 8, 2) := by decide +kernel
theorem dX8_findGame_77 : decode cX8_findGame 77 = .ok (.ifCond .eq 13, 3) := by decide +kernel
theorem dX8_findGame_80 : decode cX8_findGame 80 = .ok (.aload_n 0, 1) := by decide +kernel
theorem dX8_findGame_81 : decode cX8_findGame 81 = .ok (.getfield 70, 3) := by decide +kernel
theorem dX8_findGame_84 : decode cX8_findGame 84 = .ok (.iload 9, 2) := by decide +kernel
theorem dX8_findGame_86 : decode cX8_findGame 86 = .ok (.iaload, 1) := by decide +kernel
theorem dX8_findGame_87 : decode cX8_findGame 87 = .ok (.goto 4, 3) := by decide +kernel
theorem dX8_findGame_90 : decode cX8_findGame 90 = .ok (.iconst 0, 1) := by decide +kernel
theorem dX8_findGame_91 : decode cX8_findGame 91 = .ok (.istore 10, 2) := by decide +kernel
theorem dX8_findGame_93 : decode cX8_findGame 93 = .ok (.iload 8, 2) := by decide +kernel
theorem dX8_findGame_95 : decode cX8_findGame 95 = .ok (.ifCond .eq 13, 3) := by decide +kernel
theorem dX8_findGame_98 : decode cX8_findGame 98 = .ok (.aload_n 0, 1) := by decide +kernel
theorem dX8_findGame_99 : decode cX8_findGame 99 = .ok (.getfield 67, 3) := by decide +kernel
theorem dX8_findGame_102 : decode cX8_findGame 102 = .ok (.iload 9, 2) := by decide +kernel
theorem dX8_findGame_104 : decode cX8_findGame 104 = .ok (.iaload, 1) := by decide +kernel
theorem dX8_findGame_105 : decode cX8_findGame 105 = .ok (.goto 4, 3) := by decide +kernel
theorem dX8_findGame_108 : decode cX8_findGame 108 = .ok (.iconst 0, 1) := by decide +kernel
theorem dX8_findGame_109 : decode cX8_findGame 109 = .ok (.istore 11, 2) := by decide +kernel
theorem dX8_findGame_111 : decode cX8_findGame 111 = .ok (.aload_n 0, 1) := by decide +kernel
theorem dX8_findGame_112 : decode cX8_findGame 112 = .ok (.iconst 2, 1) := by decide +kernel
theorem dX8_findGame_113 : decode cX8_findGame 113 = .ok (.iload 4, 2) := by decide +kernel
theorem dX8_findGame_115 : decode cX8_findGame 115 = .ok (.imul, 1) := by decide +kernel
theorem dX8_findGame_116 : decode cX8_findGame 116 = .ok (.iload 5, 2) := by decide +kernel
theorem dX8_findGame_118 : decode cX8_findGame 118 = .ok (.iadd, 1) := by decide +kernel
theorem dX8_findGame_119 : decode cX8_findGame 119 = .ok (.iload 6, 2) := by decide +kernel
theorem dX8_findGame_121 : decode cX8_findGame 121 = .ok (.iload 7, 2) := by decide +kernel
theorem dX8_findGame_123 : decode cX8_findGame 123 = .ok (.iload 4, 2) := by decide +kernel
theorem dX8_findGame_125 : decode cX8_findGame 125 = .ok (.iload 10, 2) := by decide +kernel
theorem dX8_findGame_127 : decode cX8_findGame 127 = .ok (.iload 11, 2) := by decide +kernel
theorem dX8_findGame_129 : decode cX8_findGame 129 = .ok (.invokevirtual 305, 3) := by decide +kernel
theorem dX8_findGame_132 : decode cX8_findGame 132 = .ok (.iinc 5 1, 3) := by decide +kernel
theorem dX8_findGame_135 : decode cX8_findGame 135 = .ok (.goto (-124), 3) := by decide +kernel
theorem dX8_findGame_138 : decode cX8_findGame 138 = .ok (.iinc 4 (-1), 3) := by decide +kernel
theorem dX8_findGame_141 : decode cX8_findGame 141 = .ok (.goto (-138), 3) := by decide +kernel
theorem dX8_findGame_144 : decode cX8_findGame 144 = .ok (.return_, 1) := by decide +kernel
set_option maxRecDepth 20000 in
theorem ggX8_play_X8_worthDone : GoodIn wsX8_play wsX8_worthDone := goodIn_r _ [9, 1, 10, 11, 12, 8, 13, 14, 15, 16, 17, 18, 19, 20, 21, 29, 30, 31, 32, 33, 34, 35, 36, 37, 38, 39, 40, 41, 42, 43, 44, 45, 46, 47, 48, 49, 50, 51, 52, 53, 54, 55, 56, 57, 58, 59, 60, 61, 62, 63, 64, 65, 66, 67, 68, 69, 70, 71, 72, 73, 74] (by decide +kernel) (by decide +kernel)
set_option maxRecDepth 20000 in
theorem gX8_play_X8_worthDone : GoodIn wsX8_play (wsV RX8 269 RX8 yX8_worthDone wsX8_worthDone) := goodIn_app (goodIn_of _ (by decide +kernel)) ggX8_play_X8_worthDone
set_option maxRecDepth 20000 in
theorem ggX8_play_X8_worthRefused : GoodIn wsX8_play wsX8_worthRefused := goodIn_r _ [25, 1, 26, 27, 8, 28, 29, 30, 31, 32, 33, 34, 35, 36, 37, 38, 39, 40, 41, 42, 43, 44, 45, 46, 47, 48, 49, 50, 51, 52, 53, 54, 55, 56, 57, 58, 59, 60, 61, 62, 63, 64, 65, 66, 67, 68, 69, 70, 71, 72, 73, 74] (by decide +kernel) (by decide +kernel)
set_option maxRecDepth 20000 in
theorem gX8_play_X8_worthRefused : GoodIn wsX8_play (wsV RX8 272 RX8 yX8_worthRefused wsX8_worthRefused) := goodIn_app (goodIn_of _ (by decide +kernel)) ggX8_play_X8_worthRefused
theorem dX8_play_0 : decode cX8_play 0 = .ok (.aload_n 0, 1) := by decide +kernel
theorem dX8_play_1 : decode cX8_play 1 = .ok (.iload_n 2, 1) := by decide +kernel
theorem dX8_play_2 : decode cX8_play 2 = .ok (.iload 4, 2) := by decide +kernel
theorem dX8_play_4 : decode cX8_play 4 = .ok (.invokevirtual 269, 3) := by decide +kernel
theorem dX8_play_7 : decode cX8_play 7 = .ok (.iload 5, 2) := by decide +kernel
theorem dX8_play_9 : decode cX8_play 9 = .ok (.iadd, 1) := by decide +kernel
theorem dX8_play_10 : decode cX8_play 10 = .ok (.istore 7, 2) := by decide +kernel
theorem dX8_play_12 : decode cX8_play 12 = .ok (.aload_n 0, 1) := by decide +kernel
theorem dX8_play_13 : decode cX8_play 13 = .ok (.iload_n 2, 1) := by decide +kernel
theorem dX8_play_14 : decode cX8_play 14 = .ok (.iload 4, 2) := by decide +kernel
theorem dX8_play_16 : decode cX8_play 16 = .ok (.invokevirtual 272, 3) := by decide +kernel
theorem dX8_play_19 : decode cX8_play 19 = .ok (.istore 8, 2) := by decide +kernel
theorem dX8_play_21 : decode cX8_play 21 = .ok (.aload_n 0, 1) := by decide +kernel
theorem dX8_play_22 : decode cX8_play 22 = .ok (.iload_n 3, 1) := by decide +kernel
theorem dX8_play_23 : decode cX8_play 23 = .ok (.iload 4, 2) := by decide +kernel
theorem dX8_play_25 : decode cX8_play 25 = .ok (.invokevirtual 269, 3) := by decide +kernel
theorem dX8_play_28 : decode cX8_play 28 = .ok (.iload 6, 2) := by decide +kernel
theorem dX8_play_30 : decode cX8_play 30 = .ok (.iadd, 1) := by decide +kernel
theorem dX8_play_31 : decode cX8_play 31 = .ok (.istore 9, 2) := by decide +kernel
theorem dX8_play_33 : decode cX8_play 33 = .ok (.bipush (-10), 2) := by decide +kernel
theorem dX8_play_35 : decode cX8_play 35 = .ok (.aload_n 0, 1) := by decide +kernel
theorem dX8_play_36 : decode cX8_play 36 = .ok (.getfield 16, 3) := by decide +kernel
theorem dX8_play_39 : decode cX8_play 39 = .ok (.iload_n 3, 1) := by decide +kernel
theorem dX8_play_40 : decode cX8_play 40 = .ok (.iaload, 1) := by decide +kernel
theorem dX8_play_41 : decode cX8_play 41 = .ok (.imul, 1) := by decide +kernel
theorem dX8_play_42 : decode cX8_play 42 = .ok (.iload 4, 2) := by decide +kernel
theorem dX8_play_44 : decode cX8_play 44 = .ok (.imul, 1) := by decide +kernel
theorem dX8_play_45 : decode cX8_play 45 = .ok (.istore 10, 2) := by decide +kernel
theorem dX8_play_47 : decode cX8_play 47 = .ok (.iload 9, 2) := by decide +kernel
theorem dX8_play_49 : decode cX8_play 49 = .ok (.iload 10, 2) := by decide +kernel
theorem dX8_play_51 : decode cX8_play 51 = .ok (.if_icmp .lt 7, 3) := by decide +kernel
theorem dX8_play_54 : decode cX8_play 54 = .ok (.iconst 1, 1) := by decide +kernel
theorem dX8_play_55 : decode cX8_play 55 = .ok (.goto 4, 3) := by decide +kernel
theorem dX8_play_58 : decode cX8_play 58 = .ok (.iconst 0, 1) := by decide +kernel
theorem dX8_play_59 : decode cX8_play 59 = .ok (.istore 11, 2) := by decide +kernel
theorem dX8_play_61 : decode cX8_play 61 = .ok (.iload 11, 2) := by decide +kernel
theorem dX8_play_63 : decode cX8_play 63 = .ok (.ifCond .eq 8, 3) := by decide +kernel
theorem dX8_play_66 : decode cX8_play 66 = .ok (.iload 7, 2) := by decide +kernel
theorem dX8_play_68 : decode cX8_play 68 = .ok (.goto 14, 3) := by decide +kernel
theorem dX8_play_71 : decode cX8_play 71 = .ok (.iconst 5, 1) := by decide +kernel
theorem dX8_play_72 : decode cX8_play 72 = .ok (.aload_n 0, 1) := by decide +kernel
theorem dX8_play_73 : decode cX8_play 73 = .ok (.getfield 16, 3) := by decide +kernel
theorem dX8_play_76 : decode cX8_play 76 = .ok (.iload_n 2, 1) := by decide +kernel
theorem dX8_play_77 : decode cX8_play 77 = .ok (.iaload, 1) := by decide +kernel
theorem dX8_play_78 : decode cX8_play 78 = .ok (.imul, 1) := by decide +kernel
theorem dX8_play_79 : decode cX8_play 79 = .ok (.iload 4, 2) := by decide +kernel
theorem dX8_play_81 : decode cX8_play 81 = .ok (.imul, 1) := by decide +kernel
theorem dX8_play_82 : decode cX8_play 82 = .ok (.istore 12, 2) := by decide +kernel
theorem dX8_play_84 : decode cX8_play 84 = .ok (.aload_n 0, 1) := by decide +kernel
theorem dX8_play_85 : decode cX8_play 85 = .ok (.getfield 64, 3) := by decide +kernel
theorem dX8_play_88 : decode cX8_play 88 = .ok (.iload_n 1, 1) := by decide +kernel
theorem dX8_play_89 : decode cX8_play 89 = .ok (.iload 7, 2) := by decide +kernel
theorem dX8_play_91 : decode cX8_play 91 = .ok (.iload 8, 2) := by decide +kernel
theorem dX8_play_93 : decode cX8_play 93 = .ok (.if_icmp .lt 14, 3) := by decide +kernel
theorem dX8_play_96 : decode cX8_play 96 = .ok (.iload 7, 2) := by decide +kernel
theorem dX8_play_98 : decode cX8_play 98 = .ok (.iload 12, 2) := by decide +kernel
theorem dX8_play_100 : decode cX8_play 100 = .ok (.if_icmp .lt 7, 3) := by decide +kernel
theorem dX8_play_103 : decode cX8_play 103 = .ok (.iconst 0, 1) := by decide +kernel
theorem dX8_play_104 : decode cX8_play 104 = .ok (.goto 15, 3) := by decide +kernel
theorem dX8_play_107 : decode cX8_play 107 = .ok (.iload 8, 2) := by decide +kernel
theorem dX8_play_109 : decode cX8_play 109 = .ok (.iload 12, 2) := by decide +kernel
theorem dX8_play_111 : decode cX8_play 111 = .ok (.if_icmp .lt 7, 3) := by decide +kernel
theorem dX8_play_114 : decode cX8_play 114 = .ok (.iconst 1, 1) := by decide +kernel
theorem dX8_play_115 : decode cX8_play 115 = .ok (.goto 4, 3) := by decide +kernel
theorem dX8_play_118 : decode cX8_play 118 = .ok (.iconst 2, 1) := by decide +kernel
theorem dX8_play_119 : decode cX8_play 119 = .ok (.iastore, 1) := by decide +kernel
theorem dX8_play_120 : decode cX8_play 120 = .ok (.aload_n 0, 1) := by decide +kernel
theorem dX8_play_121 : decode cX8_play 121 = .ok (.getfield 67, 3) := by decide +kernel
theorem dX8_play_124 : decode cX8_play 124 = .ok (.iload_n 1, 1) := by decide +kernel
theorem dX8_play_125 : decode cX8_play 125 = .ok (.aload_n 0, 1) := by decide +kernel
theorem dX8_play_126 : decode cX8_play 126 = .ok (.getfield 64, 3) := by decide +kernel
theorem dX8_play_129 : decode cX8_play 129 = .ok (.iload_n 1, 1) := by decide +kernel
theorem dX8_play_130 : decode cX8_play 130 = .ok (.iaload, 1) := by decide +kernel
theorem dX8_play_131 : decode cX8_play 131 = .ok (.ifCond .ne 8, 3) := by decide +kernel
theorem dX8_play_134 : decode cX8_play 134 = .ok (.iload 7, 2) := by decide +kernel
theorem dX8_play_136 : decode cX8_play 136 = .ok (.goto 20, 3) := by decide +kernel
theorem dX8_play_139 : decode cX8_play 139 = .ok (.aload_n 0, 1) := by decide +kernel
theorem dX8_play_140 : decode cX8_play 140 = .ok (.getfield 64, 3) := by decide +kernel
theorem dX8_play_143 : decode cX8_play 143 = .ok (.iload_n 1, 1) := by decide +kernel
theorem dX8_play_144 : decode cX8_play 144 = .ok (.iaload, 1) := by decide +kernel
theorem dX8_play_145 : decode cX8_play 145 = .ok (.iconst 1, 1) := by decide +kernel
theorem dX8_play_146 : decode cX8_play 146 = .ok (.if_icmp .ne 8, 3) := by decide +kernel
theorem dX8_play_149 : decode cX8_play 149 = .ok (.iload 8, 2) := by decide +kernel
theorem dX8_play_151 : decode cX8_play 151 = .ok (.goto 5, 3) := by decide +kernel
theorem dX8_play_154 : decode cX8_play 154 = .ok (.iload 12, 2) := by decide +kernel
theorem dX8_play_156 : decode cX8_play 156 = .ok (.iastore, 1) := by decide +kernel
theorem dX8_play_157 : decode cX8_play 157 = .ok (.aload_n 0, 1) := by decide +kernel
theorem dX8_play_158 : decode cX8_play 158 = .ok (.getfield 70, 3) := by decide +kernel
theorem dX8_play_161 : decode cX8_play 161 = .ok (.iload_n 1, 1) := by decide +kernel
theorem dX8_play_162 : decode cX8_play 162 = .ok (.aload_n 0, 1) := by decide +kernel
theorem dX8_play_163 : decode cX8_play 163 = .ok (.getfield 64, 3) := by decide +kernel
theorem dX8_play_166 : decode cX8_play 166 = .ok (.iload_n 1, 1) := by decide +kernel
theorem dX8_play_167 : decode cX8_play 167 = .ok (.iaload, 1) := by decide +kernel
theorem dX8_play_168 : decode cX8_play 168 = .ok (.ifCond .ne 8, 3) := by decide +kernel
theorem dX8_play_171 : decode cX8_play 171 = .ok (.iload 6, 2) := by decide +kernel
theorem dX8_play_173 : decode cX8_play 173 = .ok (.goto 29, 3) := by decide +kernel
theorem dX8_play_176 : decode cX8_play 176 = .ok (.aload_n 0, 1) := by decide +kernel
theorem dX8_play_177 : decode cX8_play 177 = .ok (.getfield 64, 3) := by decide +kernel
theorem dX8_play_180 : decode cX8_play 180 = .ok (.iload_n 1, 1) := by decide +kernel
theorem dX8_play_181 : decode cX8_play 181 = .ok (.iaload, 1) := by decide +kernel
theorem dX8_play_182 : decode cX8_play 182 = .ok (.iconst 1, 1) := by decide +kernel
theorem dX8_play_183 : decode cX8_play 183 = .ok (.if_icmp .ne 7, 3) := by decide +kernel
theorem dX8_play_186 : decode cX8_play 186 = .ok (.iconst 0, 1) := by decide +kernel
theorem dX8_play_187 : decode cX8_play 187 = .ok (.goto 15, 3) := by decide +kernel
theorem dX8_play_190 : decode cX8_play 190 = .ok (.iload 11, 2) := by decide +kernel
theorem dX8_play_192 : decode cX8_play 192 = .ok (.ifCond .eq 8, 3) := by decide +kernel
theorem dX8_play_195 : decode cX8_play 195 = .ok (.iload 9, 2) := by decide +kernel
theorem dX8_play_197 : decode cX8_play 197 = .ok (.goto 5, 3) := by decide +kernel
theorem dX8_play_200 : decode cX8_play 200 = .ok (.iload 10, 2) := by decide +kernel
theorem dX8_play_202 : decode cX8_play 202 = .ok (.iastore, 1) := by decide +kernel
theorem dX8_play_203 : decode cX8_play 203 = .ok (.return_, 1) := by decide +kernel
set_option maxRecDepth 20000 in
theorem ggX8_game_X8_areTwo : GoodIn wsX8_game wsX8_areTwo := goodIn_r _ [10, 11, 12, 13, 9, 14, 15, 16, 17, 18, 19, 20, 21, 22, 63, 64, 65, 66, 67, 68, 69, 70, 71, 72, 73, 74, 75, 76, 77, 78, 79, 80, 81, 82, 83, 84, 85, 86, 87, 88, 89, 90, 91, 92, 93, 94, 95, 96, 97, 98, 99, 100, 101, 102, 103, 104, 105, 106, 107, 108] (by decide +kernel) (by decide +kernel)
set_option maxRecDepth 20000 in
theorem gX8_game_X8_areTwo : GoodIn wsX8_game (wsV RX8 291 RX8 yX8_areTwo wsX8_areTwo) := goodIn_app (goodIn_of _ (by decide +kernel)) ggX8_game_X8_areTwo
set_option maxRecDepth 20000 in
theorem ggX8_game_X8_isClimb : GoodIn wsX8_game wsX8_isClimb := goodIn_r _ [25, 26, 27, 9, 28, 29, 20, 21, 22] (by decide +kernel) (by decide +kernel)
set_option maxRecDepth 20000 in
theorem gX8_game_X8_isClimb : GoodIn wsX8_game (va_wsS RX8 294 yX8_isClimb wsX8_isClimb) := goodIn_app (goodIn_of _ (by decide +kernel)) ggX8_game_X8_isClimb
set_option maxRecDepth 20000 in
theorem ggX8_game_X8_in : GoodIn wsX8_game wsX8_in := goodIn_r _ [22] (by decide +kernel) (by decide +kernel)
set_option maxRecDepth 20000 in
theorem gX8_game_X8_in : GoodIn wsX8_game (va_wsS RX8 101 yX8_in wsX8_in) := goodIn_app (goodIn_of _ (by decide +kernel)) ggX8_game_X8_in
set_option maxRecDepth 20000 in
theorem ggX8_game_X8_findGame : GoodIn wsX8_game wsX8_findGame := goodIn_r _ [33, 34, 5, 4, 35, 36, 37, 9, 38, 39, 2, 40, 41, 42, 43, 44, 45, 46, 47, 48, 49, 50, 51, 52, 53, 54, 55, 56, 57, 58, 59, 60, 61, 62, 63, 64, 65, 66, 67, 68, 69, 70, 71, 72, 73, 74, 75, 76, 77, 78, 79, 80, 81, 82, 83, 84, 85, 86, 87, 88, 89, 90, 91, 92, 93, 94, 95, 96, 97, 98, 99, 100, 101, 102, 103, 104, 105, 106, 107, 108] (by decide +kernel) (by decide +kernel)
set_option maxRecDepth 20000 in
theorem gX8_game_X8_findGame : GoodIn wsX8_game (wsV RX8 309 RX8 yX8_findGame wsX8_findGame) := goodIn_app (goodIn_of _ (by decide +kernel)) ggX8_game_X8_findGame
theorem dX8_game_0 : decode cX8_game 0 = .ok (.aload_n 0, 1) := by decide +kernel
theorem dX8_game_1 : decode cX8_game 1 = .ok (.iload_n 1, 1) := by decide +kernel
theorem dX8_game_2 : decode cX8_game 2 = .ok (.iload_n 2, 1) := by decide +kernel
theorem dX8_game_3 : decode cX8_game 3 = .ok (.invokevirtual 291, 3) := by decide +kernel
theorem dX8_game_6 : decode cX8_game 6 = .ok (.ifCond .ne 5, 3) := by decide +kernel
theorem dX8_game_9 : decode cX8_game 9 = .ok (.iconst (-1), 1) := by decide +kernel
theorem dX8_game_10 : decode cX8_game 10 = .ok (.ireturn, 1) := by decide +kernel
theorem dX8_game_11 : decode cX8_game 11 = .ok (.iload_n 3, 1) := by decide +kernel
theorem dX8_game_12 : decode cX8_game 12 = .ok (.iload 4, 2) := by decide +kernel
theorem dX8_game_14 : decode cX8_game 14 = .ok (.invokestatic 294, 3) := by decide +kernel
theorem dX8_game_17 : decode cX8_game 17 = .ok (.ifCond .eq 16, 3) := by decide +kernel
theorem dX8_game_20 : decode cX8_game 20 = .ok (.iload 5, 2) := by decide +kernel
theorem dX8_game_22 : decode cX8_game 22 = .ok (.i2l, 1) := by decide +kernel
theorem dX8_game_23 : decode cX8_game 23 = .ok (.lconst 0, 1) := by decide +kernel
theorem dX8_game_24 : decode cX8_game 24 = .ok (.ldc2_w 231, 3) := by decide +kernel
theorem dX8_game_27 : decode cX8_game 27 = .ok (.invokestatic 101, 3) := by decide +kernel
theorem dX8_game_30 : decode cX8_game 30 = .ok (.ifCond .ne 6, 3) := by decide +kernel
theorem dX8_game_33 : decode cX8_game 33 = .ok (.bipush (-2), 2) := by decide +kernel
theorem dX8_game_35 : decode cX8_game 35 = .ok (.ireturn, 1) := by decide +kernel
theorem dX8_game_36 : decode cX8_game 36 = .ok (.aload_n 0, 1) := by decide +kernel
theorem dX8_game_37 : decode cX8_game 37 = .ok (.iload_n 1, 1) := by decide +kernel
theorem dX8_game_38 : decode cX8_game 38 = .ok (.iload_n 2, 1) := by decide +kernel
theorem dX8_game_39 : decode cX8_game 39 = .ok (.iload 4, 2) := by decide +kernel
theorem dX8_game_41 : decode cX8_game 41 = .ok (.invokevirtual 309, 3) := by decide +kernel
theorem dX8_game_44 : decode cX8_game 44 = .ok (.iconst 2, 1) := by decide +kernel
theorem dX8_game_45 : decode cX8_game 45 = .ok (.iload_n 3, 1) := by decide +kernel
theorem dX8_game_46 : decode cX8_game 46 = .ok (.imul, 1) := by decide +kernel
theorem dX8_game_47 : decode cX8_game 47 = .ok (.iconst 1, 1) := by decide +kernel
theorem dX8_game_48 : decode cX8_game 48 = .ok (.iadd, 1) := by decide +kernel
theorem dX8_game_49 : decode cX8_game 49 = .ok (.istore 6, 2) := by decide +kernel
theorem dX8_game_51 : decode cX8_game 51 = .ok (.iload 5, 2) := by decide +kernel
theorem dX8_game_53 : decode cX8_game 53 = .ok (.ifCond .ne 13, 3) := by decide +kernel
theorem dX8_game_56 : decode cX8_game 56 = .ok (.aload_n 0, 1) := by decide +kernel
theorem dX8_game_57 : decode cX8_game 57 = .ok (.getfield 64, 3) := by decide +kernel
theorem dX8_game_60 : decode cX8_game 60 = .ok (.iload 6, 2) := by decide +kernel
theorem dX8_game_62 : decode cX8_game 62 = .ok (.iaload, 1) := by decide +kernel
theorem dX8_game_63 : decode cX8_game 63 = .ok (.goto 30, 3) := by decide +kernel
theorem dX8_game_66 : decode cX8_game 66 = .ok (.ldc_w 268, 3) := by decide +kernel
theorem dX8_game_69 : decode cX8_game 69 = .ok (.iload 5, 2) := by decide +kernel
theorem dX8_game_71 : decode cX8_game 71 = .ok (.iconst 1, 1) := by decide +kernel
theorem dX8_game_72 : decode cX8_game 72 = .ok (.if_icmp .ne 13, 3) := by decide +kernel
theorem dX8_game_75 : decode cX8_game 75 = .ok (.aload_n 0, 1) := by decide +kernel
theorem dX8_game_76 : decode cX8_game 76 = .ok (.getfield 67, 3) := by decide +kernel
theorem dX8_game_79 : decode cX8_game 79 = .ok (.iload 6, 2) := by decide +kernel
theorem dX8_game_81 : decode cX8_game 81 = .ok (.iaload, 1) := by decide +kernel
theorem dX8_game_82 : decode cX8_game 82 = .ok (.goto 10, 3) := by decide +kernel
theorem dX8_game_85 : decode cX8_game 85 = .ok (.aload_n 0, 1) := by decide +kernel
theorem dX8_game_86 : decode cX8_game 86 = .ok (.getfield 70, 3) := by decide +kernel
theorem dX8_game_89 : decode cX8_game 89 = .ok (.iload 6, 2) := by decide +kernel
theorem dX8_game_91 : decode cX8_game 91 = .ok (.iaload, 1) := by decide +kernel
theorem dX8_game_92 : decode cX8_game 92 = .ok (.iadd, 1) := by decide +kernel
theorem dX8_game_93 : decode cX8_game 93 = .ok (.ireturn, 1) := by decide +kernel
set_option maxRecDepth 20000 in
theorem ggX8_saidBy_X8_isThere : GoodIn wsX8_saidBy wsX8_isThere := goodIn_r _ [7, 8, 9, 10, 6, 11, 12, 13, 14, 15, 19, 20, 21, 22, 23, 24, 25, 26, 27, 28, 29, 30, 31, 32, 33, 34, 35, 36, 37, 38, 39, 40, 41, 42, 43, 44, 45, 46, 47, 48, 49, 50, 51, 52, 53, 54, 55, 56, 57, 58, 59, 60, 61, 62, 63, 64] (by decide +kernel) (by decide +kernel)
set_option maxRecDepth 20000 in
theorem gX8_saidBy_X8_isThere : GoodIn wsX8_saidBy (wsV RX8 123 RX8 yX8_isThere wsX8_isThere) := goodIn_app (goodIn_of _ (by decide +kernel)) ggX8_saidBy_X8_isThere
set_option maxRecDepth 20000 in
theorem ggX8_saidBy_X8_ones : GoodIn wsX8_saidBy wsX8_ones := goodIn_r _ [18] (by decide +kernel) (by decide +kernel)
set_option maxRecDepth 20000 in
theorem gX8_saidBy_X8_ones : GoodIn wsX8_saidBy (va_wsS RX8 119 yX8_ones wsX8_ones) := goodIn_app (goodIn_of _ (by decide +kernel)) ggX8_saidBy_X8_ones
theorem dX8_saidBy_0 : decode cX8_saidBy 0 = .ok (.iload_n 1, 1) := by decide +kernel
theorem dX8_saidBy_1 : decode cX8_saidBy 1 = .ok (.istore_n 2, 1) := by decide +kernel
theorem dX8_saidBy_2 : decode cX8_saidBy 2 = .ok (.iconst 1, 1) := by decide +kernel
theorem dX8_saidBy_3 : decode cX8_saidBy 3 = .ok (.istore_n 3, 1) := by decide +kernel
theorem dX8_saidBy_4 : decode cX8_saidBy 4 = .ok (.iload_n 3, 1) := by decide +kernel
theorem dX8_saidBy_5 : decode cX8_saidBy 5 = .ok (.ifCond .eq 100, 3) := by decide +kernel
theorem dX8_saidBy_8 : decode cX8_saidBy 8 = .ok (.iload_n 2, 1) := by decide +kernel
theorem dX8_saidBy_9 : decode cX8_saidBy 9 = .ok (.istore 4, 2) := by decide +kernel
theorem dX8_saidBy_11 : decode cX8_saidBy 11 = .ok (.iconst 0, 1) := by decide +kernel
theorem dX8_saidBy_12 : decode cX8_saidBy 12 = .ok (.istore 5, 2) := by decide +kernel
theorem dX8_saidBy_14 : decode cX8_saidBy 14 = .ok (.iload 5, 2) := by decide +kernel
theorem dX8_saidBy_16 : decode cX8_saidBy 16 = .ok (.bipush 6, 2) := by decide +kernel
theorem dX8_saidBy_18 : decode cX8_saidBy 18 = .ok (.if_icmp .ge 69, 3) := by decide +kernel
theorem dX8_saidBy_21 : decode cX8_saidBy 21 = .ok (.aload_n 0, 1) := by decide +kernel
theorem dX8_saidBy_22 : decode cX8_saidBy 22 = .ok (.iload 5, 2) := by decide +kernel
theorem dX8_saidBy_24 : decode cX8_saidBy 24 = .ok (.invokevirtual 123, 3) := by decide +kernel
theorem dX8_saidBy_27 : decode cX8_saidBy 27 = .ok (.ifCond .eq 33, 3) := by decide +kernel
theorem dX8_saidBy_30 : decode cX8_saidBy 30 = .ok (.aload_n 0, 1) := by decide +kernel
theorem dX8_saidBy_31 : decode cX8_saidBy 31 = .ok (.getfield 19, 3) := by decide +kernel
theorem dX8_saidBy_34 : decode cX8_saidBy 34 = .ok (.iload 5, 2) := by decide +kernel
theorem dX8_saidBy_36 : decode cX8_saidBy 36 = .ok (.iaload, 1) := by decide +kernel
theorem dX8_saidBy_37 : decode cX8_saidBy 37 = .ok (.ifCond .ne 23, 3) := by decide +kernel
theorem dX8_saidBy_40 : decode cX8_saidBy 40 = .ok (.aload_n 0, 1) := by decide +kernel
theorem dX8_saidBy_41 : decode cX8_saidBy 41 = .ok (.getfield 16, 3) := by decide +kernel
theorem dX8_saidBy_44 : decode cX8_saidBy 44 = .ok (.iload 5, 2) := by decide +kernel
theorem dX8_saidBy_46 : decode cX8_saidBy 46 = .ok (.iaload, 1) := by decide +kernel
theorem dX8_saidBy_47 : decode cX8_saidBy 47 = .ok (.iconst 2, 1) := by decide +kernel
theorem dX8_saidBy_48 : decode cX8_saidBy 48 = .ok (.idiv, 1) := by decide +kernel
theorem dX8_saidBy_49 : decode cX8_saidBy 49 = .ok (.iload_n 2, 1) := by decide +kernel
theorem dX8_saidBy_50 : decode cX8_saidBy 50 = .ok (.invokestatic 119, 3) := by decide +kernel
theorem dX8_saidBy_53 : decode cX8_saidBy 53 = .ok (.if_icmp .gt 7, 3) := by decide +kernel
theorem dX8_saidBy_56 : decode cX8_saidBy 56 = .ok (.iconst 1, 1) := by decide +kernel
theorem dX8_saidBy_57 : decode cX8_saidBy 57 = .ok (.goto 4, 3) := by decide +kernel
theorem dX8_saidBy_60 : decode cX8_saidBy 60 = .ok (.iconst 0, 1) := by decide +kernel
theorem dX8_saidBy_61 : decode cX8_saidBy 61 = .ok (.istore 6, 2) := by decide +kernel
theorem dX8_saidBy_63 : decode cX8_saidBy 63 = .ok (.iload 4, 2) := by decide +kernel
theorem dX8_saidBy_65 : decode cX8_saidBy 65 = .ok (.iload 6, 2) := by decide +kernel
theorem dX8_saidBy_67 : decode cX8_saidBy 67 = .ok (.ifCond .eq 10, 3) := by decide +kernel
theorem dX8_saidBy_70 : decode cX8_saidBy 70 = .ok (.iconst 1, 1) := by decide +kernel
theorem dX8_saidBy_71 : decode cX8_saidBy 71 = .ok (.iload 5, 2) := by decide +kernel
theorem dX8_saidBy_73 : decode cX8_saidBy 73 = .ok (.ishl, 1) := by decide +kernel
theorem dX8_saidBy_74 : decode cX8_saidBy 74 = .ok (.goto 4, 3) := by decide +kernel
theorem dX8_saidBy_77 : decode cX8_saidBy 77 = .ok (.iconst 0, 1) := by decide +kernel
theorem dX8_saidBy_78 : decode cX8_saidBy 78 = .ok (.ior, 1) := by decide +kernel
theorem dX8_saidBy_79 : decode cX8_saidBy 79 = .ok (.istore 4, 2) := by decide +kernel
theorem dX8_saidBy_81 : decode cX8_saidBy 81 = .ok (.iinc 5 1, 3) := by decide +kernel
theorem dX8_saidBy_84 : decode cX8_saidBy 84 = .ok (.goto (-70), 3) := by decide +kernel
theorem dX8_saidBy_87 : decode cX8_saidBy 87 = .ok (.iload 4, 2) := by decide +kernel
theorem dX8_saidBy_89 : decode cX8_saidBy 89 = .ok (.iload_n 2, 1) := by decide +kernel
theorem dX8_saidBy_90 : decode cX8_saidBy 90 = .ok (.if_icmp .eq 7, 3) := by decide +kernel
theorem dX8_saidBy_93 : decode cX8_saidBy 93 = .ok (.iconst 1, 1) := by decide +kernel
theorem dX8_saidBy_94 : decode cX8_saidBy 94 = .ok (.goto 4, 3) := by decide +kernel
theorem dX8_saidBy_97 : decode cX8_saidBy 97 = .ok (.iconst 0, 1) := by decide +kernel
theorem dX8_saidBy_98 : decode cX8_saidBy 98 = .ok (.istore_n 3, 1) := by decide +kernel
theorem dX8_saidBy_99 : decode cX8_saidBy 99 = .ok (.iload 4, 2) := by decide +kernel
theorem dX8_saidBy_101 : decode cX8_saidBy 101 = .ok (.istore_n 2, 1) := by decide +kernel
theorem dX8_saidBy_102 : decode cX8_saidBy 102 = .ok (.goto (-98), 3) := by decide +kernel
theorem dX8_saidBy_105 : decode cX8_saidBy 105 = .ok (.iload_n 2, 1) := by decide +kernel
theorem dX8_saidBy_106 : decode cX8_saidBy 106 = .ok (.ireturn, 1) := by decide +kernel
set_option maxRecDepth 20000 in
theorem ggX8_isHeld_X8_ones : GoodIn wsX8_isHeld wsX8_ones := goodIn_r _ [5] (by decide +kernel) (by decide +kernel)
set_option maxRecDepth 20000 in
theorem gX8_isHeld_X8_ones : GoodIn wsX8_isHeld (va_wsS RX8 119 yX8_ones wsX8_ones) := goodIn_app (goodIn_of _ (by decide +kernel)) ggX8_isHeld_X8_ones
theorem dX8_isHeld_0 : decode cX8_isHeld 0 = .ok (.iconst 2, 1) := by decide +kernel
theorem dX8_isHeld_1 : decode cX8_isHeld 1 = .ok (.iload_n 1, 1) := by decide +kernel
theorem dX8_isHeld_2 : decode cX8_isHeld 2 = .ok (.invokestatic 119, 3) := by decide +kernel
theorem dX8_isHeld_5 : decode cX8_isHeld 5 = .ok (.imul, 1) := by decide +kernel
theorem dX8_isHeld_6 : decode cX8_isHeld 6 = .ok (.aload_n 0, 1) := by decide +kernel
theorem dX8_isHeld_7 : decode cX8_isHeld 7 = .ok (.getfield 109, 3) := by decide +kernel
theorem dX8_isHeld_10 : decode cX8_isHeld 10 = .ok (.invokestatic 119, 3) := by decide +kernel
theorem dX8_isHeld_13 : decode cX8_isHeld 13 = .ok (.if_icmp .le 7, 3) := by decide +kernel
theorem dX8_isHeld_16 : decode cX8_isHeld 16 = .ok (.iconst 1, 1) := by decide +kernel
theorem dX8_isHeld_17 : decode cX8_isHeld 17 = .ok (.goto 4, 3) := by decide +kernel
theorem dX8_isHeld_20 : decode cX8_isHeld 20 = .ok (.iconst 0, 1) := by decide +kernel
theorem dX8_isHeld_21 : decode cX8_isHeld 21 = .ok (.ireturn, 1) := by decide +kernel
set_option maxRecDepth 20000 in
theorem ggX8_enough_X8_isThere : GoodIn wsX8_enough wsX8_isThere := goodIn_r _ [5, 6, 7, 8, 4, 9, 10, 11, 12, 13, 23, 24, 25, 26, 27, 28, 29, 30, 31, 32, 33, 34, 35, 36, 37, 38, 39, 40, 41, 42, 43, 44, 45, 46, 47, 48, 49, 50, 51, 52, 53, 54, 55, 56, 57, 58, 59, 60, 61, 62, 63, 64, 65, 66, 67, 68] (by decide +kernel) (by decide +kernel)
set_option maxRecDepth 20000 in
theorem gX8_enough_X8_isThere : GoodIn wsX8_enough (wsV RX8 123 RX8 yX8_isThere wsX8_isThere) := goodIn_app (goodIn_of _ (by decide +kernel)) ggX8_enough_X8_isThere
set_option maxRecDepth 20000 in
theorem ggX8_enough_X8_saidBy : GoodIn wsX8_enough wsX8_saidBy := goodIn_r _ [17, 18, 19, 1, 2, 3, 4, 5, 6, 7, 8, 9, 10, 11, 12, 13, 20, 21, 22, 23, 24, 25, 26, 27, 28, 29, 30, 31, 32, 33, 34, 35, 36, 37, 38, 39, 40, 41, 42, 43, 44, 45, 46, 47, 48, 49, 50, 51, 52, 53, 54, 55, 56, 57, 58, 59, 60, 61, 62, 63, 64, 65, 66, 67, 68] (by decide +kernel) (by decide +kernel)
set_option maxRecDepth 20000 in
theorem gX8_enough_X8_saidBy : GoodIn wsX8_enough (wsV RX8 313 RX8 yX8_saidBy wsX8_saidBy) := goodIn_app (goodIn_of _ (by decide +kernel)) ggX8_enough_X8_saidBy
theorem dX8_enough_0 : decode cX8_enough 0 = .ok (.aload_n 0, 1) := by decide +kernel
theorem dX8_enough_1 : decode cX8_enough 1 = .ok (.iload_n 1, 1) := by decide +kernel
theorem dX8_enough_2 : decode cX8_enough 2 = .ok (.invokevirtual 123, 3) := by decide +kernel
theorem dX8_enough_5 : decode cX8_enough 5 = .ok (.ifCond .eq 13, 3) := by decide +kernel
theorem dX8_enough_8 : decode cX8_enough 8 = .ok (.aload_n 0, 1) := by decide +kernel
theorem dX8_enough_9 : decode cX8_enough 9 = .ok (.iconst 1, 1) := by decide +kernel
theorem dX8_enough_10 : decode cX8_enough 10 = .ok (.iload_n 1, 1) := by decide +kernel
theorem dX8_enough_11 : decode cX8_enough 11 = .ok (.ishl, 1) := by decide +kernel
theorem dX8_enough_12 : decode cX8_enough 12 = .ok (.invokevirtual 313, 3) := by decide +kernel
theorem dX8_enough_15 : decode cX8_enough 15 = .ok (.goto 4, 3) := by decide +kernel
theorem dX8_enough_18 : decode cX8_enough 18 = .ok (.iconst (-1), 1) := by decide +kernel
theorem dX8_enough_19 : decode cX8_enough 19 = .ok (.ireturn, 1) := by decide +kernel
set_option maxRecDepth 20000 in
theorem ggX8_holds_X8_isThere : GoodIn wsX8_holds wsX8_isThere := goodIn_r _ [5, 6, 7, 8, 4, 9, 10, 11, 12, 13, 27, 28, 29, 30, 31, 32, 33, 34, 35, 36, 37, 38, 39, 40, 41, 42, 43, 44, 45, 46, 47, 48, 49, 50, 51, 52, 53, 54, 55, 56, 57, 58, 59, 60, 61, 62, 63, 64, 65, 66, 67, 68, 69, 70, 71, 72] (by decide +kernel) (by decide +kernel)
set_option maxRecDepth 20000 in
theorem gX8_holds_X8_isThere : GoodIn wsX8_holds (wsV RX8 123 RX8 yX8_isThere wsX8_isThere) := goodIn_app (goodIn_of _ (by decide +kernel)) ggX8_holds_X8_isThere
set_option maxRecDepth 20000 in
theorem ggX8_holds_X8_saidBy : GoodIn wsX8_holds wsX8_saidBy := goodIn_r _ [17, 18, 19, 1, 2, 3, 4, 5, 6, 7, 8, 9, 10, 11, 12, 13, 20, 21, 22, 27, 28, 29, 30, 31, 32, 33, 34, 35, 36, 37, 38, 39, 40, 41, 42, 43, 44, 45, 46, 47, 48, 49, 50, 51, 52, 53, 54, 55, 56, 57, 58, 59, 60, 61, 62, 63, 64, 65, 66, 67, 68, 69, 70, 71, 72] (by decide +kernel) (by decide +kernel)
set_option maxRecDepth 20000 in
theorem gX8_holds_X8_saidBy : GoodIn wsX8_holds (wsV RX8 313 RX8 yX8_saidBy wsX8_saidBy) := goodIn_app (goodIn_of _ (by decide +kernel)) ggX8_holds_X8_saidBy
set_option maxRecDepth 20000 in
theorem ggX8_holds_X8_isHeld : GoodIn wsX8_holds wsX8_isHeld := goodIn_r _ [26, 6, 20, 21, 4, 22, 27, 28, 29, 30, 31, 32, 33, 34, 35, 36, 37, 38, 39, 40, 41, 42, 43, 44, 45, 46, 47, 48, 49, 50, 51, 52, 53, 54, 55, 56, 57, 58, 59, 60, 61, 62, 63, 64, 65, 66, 67, 68, 69, 70, 71, 72] (by decide +kernel) (by decide +kernel)
set_option maxRecDepth 20000 in
theorem gX8_holds_X8_isHeld : GoodIn wsX8_holds (wsV RX8 316 RX8 yX8_isHeld wsX8_isHeld) := goodIn_app (goodIn_of _ (by decide +kernel)) ggX8_holds_X8_isHeld
theorem dX8_holds_0 : decode cX8_holds 0 = .ok (.aload_n 0, 1) := by decide +kernel
theorem dX8_holds_1 : decode cX8_holds 1 = .ok (.iload_n 1, 1) := by decide +kernel
theorem dX8_holds_2 : decode cX8_holds 2 = .ok (.invokevirtual 123, 3) := by decide +kernel
theorem dX8_holds_5 : decode cX8_holds 5 = .ok (.ifCond .ne 5, 3) := by decide +kernel
theorem dX8_holds_8 : decode cX8_holds 8 = .ok (.iconst (-1), 1) := by decide +kernel
theorem dX8_holds_9 : decode cX8_holds 9 = .ok (.ireturn, 1) := by decide +kernel
theorem dX8_holds_10 : decode cX8_holds 10 = .ok (.aload_n 0, 1) := by decide +kernel
theorem dX8_holds_11 : decode cX8_holds 11 = .ok (.aload_n 0, 1) := by decide +kernel
theorem dX8_holds_12 : decode cX8_holds 12 = .ok (.iconst 1, 1) := by decide +kernel
theorem dX8_holds_13 : decode cX8_holds 13 = .ok (.iload_n 1, 1) := by decide +kernel
theorem dX8_holds_14 : decode cX8_holds 14 = .ok (.ishl, 1) := by decide +kernel
theorem dX8_holds_15 : decode cX8_holds 15 = .ok (.invokevirtual 313, 3) := by decide +kernel
theorem dX8_holds_18 : decode cX8_holds 18 = .ok (.invokevirtual 316, 3) := by decide +kernel
theorem dX8_holds_21 : decode cX8_holds 21 = .ok (.ifCond .eq 7, 3) := by decide +kernel
theorem dX8_holds_24 : decode cX8_holds 24 = .ok (.iconst 1, 1) := by decide +kernel
theorem dX8_holds_25 : decode cX8_holds 25 = .ok (.goto 4, 3) := by decide +kernel
theorem dX8_holds_28 : decode cX8_holds 28 = .ok (.iconst 0, 1) := by decide +kernel
theorem dX8_holds_29 : decode cX8_holds 29 = .ok (.ireturn, 1) := by decide +kernel
set_option maxRecDepth 20000 in
theorem ggX8_without_X8_isThere : GoodIn wsX8_without wsX8_isThere := goodIn_r _ [6, 7, 8, 9, 5, 10, 11, 12, 13, 14, 15, 16, 17, 18, 19, 20, 21, 22, 23, 24, 25, 26, 27, 28, 29, 30, 31, 32, 33, 34, 35, 36, 37, 38, 39, 40, 41, 42, 43, 44, 45, 46, 47, 48, 49, 50, 51, 52, 53, 54, 55, 56, 57, 58, 59, 60] (by decide +kernel) (by decide +kernel)
set_option maxRecDepth 20000 in
theorem gX8_without_X8_isThere : GoodIn wsX8_without (wsV RX8 123 RX8 yX8_isThere wsX8_isThere) := goodIn_app (goodIn_of _ (by decide +kernel)) ggX8_without_X8_isThere
theorem dX8_without_0 : decode cX8_without 0 = .ok (.iconst 0, 1) := by decide +kernel
theorem dX8_without_1 : decode cX8_without 1 = .ok (.istore_n 1, 1) := by decide +kernel
theorem dX8_without_2 : decode cX8_without 2 = .ok (.iconst 0, 1) := by decide +kernel
theorem dX8_without_3 : decode cX8_without 3 = .ok (.istore_n 2, 1) := by decide +kernel
theorem dX8_without_4 : decode cX8_without 4 = .ok (.iload_n 2, 1) := by decide +kernel
theorem dX8_without_5 : decode cX8_without 5 = .ok (.bipush 6, 2) := by decide +kernel
theorem dX8_without_7 : decode cX8_without 7 = .ok (.if_icmp .ge 36, 3) := by decide +kernel
theorem dX8_without_10 : decode cX8_without 10 = .ok (.iload_n 1, 1) := by decide +kernel
theorem dX8_without_11 : decode cX8_without 11 = .ok (.aload_n 0, 1) := by decide +kernel
theorem dX8_without_12 : decode cX8_without 12 = .ok (.iload_n 2, 1) := by decide +kernel
theorem dX8_without_13 : decode cX8_without 13 = .ok (.invokevirtual 123, 3) := by decide +kernel
theorem dX8_without_16 : decode cX8_without 16 = .ok (.ifCond .eq 18, 3) := by decide +kernel
theorem dX8_without_19 : decode cX8_without 19 = .ok (.aload_n 0, 1) := by decide +kernel
theorem dX8_without_20 : decode cX8_without 20 = .ok (.getfield 19, 3) := by decide +kernel
theorem dX8_without_23 : decode cX8_without 23 = .ok (.iload_n 2, 1) := by decide +kernel
theorem dX8_without_24 : decode cX8_without 24 = .ok (.iaload, 1) := by decide +kernel
theorem dX8_without_25 : decode cX8_without 25 = .ok (.ifCond .ne 9, 3) := by decide +kernel
theorem dX8_without_28 : decode cX8_without 28 = .ok (.iconst 1, 1) := by decide +kernel
theorem dX8_without_29 : decode cX8_without 29 = .ok (.iload_n 2, 1) := by decide +kernel
theorem dX8_without_30 : decode cX8_without 30 = .ok (.ishl, 1) := by decide +kernel
theorem dX8_without_31 : decode cX8_without 31 = .ok (.goto 4, 3) := by decide +kernel
theorem dX8_without_34 : decode cX8_without 34 = .ok (.iconst 0, 1) := by decide +kernel
theorem dX8_without_35 : decode cX8_without 35 = .ok (.ior, 1) := by decide +kernel
theorem dX8_without_36 : decode cX8_without 36 = .ok (.istore_n 1, 1) := by decide +kernel
theorem dX8_without_37 : decode cX8_without 37 = .ok (.iinc 2 1, 3) := by decide +kernel
theorem dX8_without_40 : decode cX8_without 40 = .ok (.goto (-36), 3) := by decide +kernel
theorem dX8_without_43 : decode cX8_without 43 = .ok (.iload_n 1, 1) := by decide +kernel
theorem dX8_without_44 : decode cX8_without 44 = .ok (.ireturn, 1) := by decide +kernel
set_option maxRecDepth 20000 in
theorem ggX8_won_X8_in : GoodIn wsX8_won wsX8_in := goodIn_r _ [4] (by decide +kernel) (by decide +kernel)
set_option maxRecDepth 20000 in
theorem gX8_won_X8_in : GoodIn wsX8_won (va_wsS RX8 101 yX8_in wsX8_in) := goodIn_app (goodIn_of _ (by decide +kernel)) ggX8_won_X8_in
set_option maxRecDepth 20000 in
theorem ggX8_won_X8_without : GoodIn wsX8_won wsX8_without := goodIn_r _ [8, 9, 10, 11, 12, 3, 13, 14, 15, 16, 17, 18, 1, 2, 4, 31, 32, 33, 34, 35, 36, 37, 38, 39, 40, 41, 42, 43, 44, 45, 46, 47, 48, 49, 50, 51, 52, 53, 54, 55, 56, 57, 58, 59, 60, 61, 62, 63, 64, 65, 66, 67, 68, 69, 70, 71, 72, 73, 74, 75, 76] (by decide +kernel) (by decide +kernel)
set_option maxRecDepth 20000 in
theorem gX8_won_X8_without : GoodIn wsX8_won (wsV RX8 319 RX8 yX8_without wsX8_without) := goodIn_app (goodIn_of _ (by decide +kernel)) ggX8_won_X8_without
set_option maxRecDepth 20000 in
theorem ggX8_won_X8_ones : GoodIn wsX8_won wsX8_ones := goodIn_r _ [21] (by decide +kernel) (by decide +kernel)
set_option maxRecDepth 20000 in
theorem gX8_won_X8_ones : GoodIn wsX8_won (va_wsS RX8 119 yX8_ones wsX8_ones) := goodIn_app (goodIn_of _ (by decide +kernel)) ggX8_won_X8_ones
set_option maxRecDepth 20000 in
theorem ggX8_won_X8_saidBy : GoodIn wsX8_won wsX8_saidBy := goodIn_r _ [25, 9, 26, 10, 11, 12, 3, 13, 14, 15, 16, 17, 18, 1, 2, 4, 19, 20, 21, 31, 32, 33, 34, 35, 36, 37, 38, 39, 40, 41, 42, 43, 44, 45, 46, 47, 48, 49, 50, 51, 52, 53, 54, 55, 56, 57, 58, 59, 60, 61, 62, 63, 64, 65, 66, 67, 68, 69, 70, 71, 72, 73, 74, 75, 76] (by decide +kernel) (by decide +kernel)
set_option maxRecDepth 20000 in
theorem gX8_won_X8_saidBy : GoodIn wsX8_won (wsV RX8 313 RX8 yX8_saidBy wsX8_saidBy) := goodIn_app (goodIn_of _ (by decide +kernel)) ggX8_won_X8_saidBy
set_option maxRecDepth 20000 in
theorem ggX8_won_X8_isHeld : GoodIn wsX8_won wsX8_isHeld := goodIn_r _ [30, 14, 19, 20, 3, 21, 31, 32, 33, 34, 35, 36, 37, 38, 39, 40, 41, 42, 43, 44, 45, 46, 47, 48, 49, 50, 51, 52, 53, 54, 55, 56, 57, 58, 59, 60, 61, 62, 63, 64, 65, 66, 67, 68, 69, 70, 71, 72, 73, 74, 75, 76] (by decide +kernel) (by decide +kernel)
set_option maxRecDepth 20000 in
theorem gX8_won_X8_isHeld : GoodIn wsX8_won (wsV RX8 316 RX8 yX8_isHeld wsX8_isHeld) := goodIn_app (goodIn_of _ (by decide +kernel)) ggX8_won_X8_isHeld
theorem dX8_won_0 : decode cX8_won 0 = .ok (.iload_n 1, 1) := by decide +kernel
theorem dX8_won_1 : decode cX8_won 1 = .ok (.i2l, 1) := by decide +kernel
theorem dX8_won_2 : decode cX8_won 2 = .ok (.lconst 0, 1) := by decide +kernel
theorem dX8_won_3 : decode cX8_won 3 = .ok (.lconst 1, 1) := by decide +kernel
theorem dX8_won_4 : decode cX8_won 4 = .ok (.invokestatic 101, 3) := by decide +kernel
theorem dX8_won_7 : decode cX8_won 7 = .ok (.ifCond .ne 6, 3) := by decide +kernel
theorem dX8_won_10 : decode cX8_won 10 = .ok (.bipush (-2), 2) := by decide +kernel
theorem dX8_won_12 : decode cX8_won 12 = .ok (.ireturn, 1) := by decide +kernel
theorem dX8_won_13 : decode cX8_won 13 = .ok (.aload_n 0, 1) := by decide +kernel
theorem dX8_won_14 : decode cX8_won 14 = .ok (.invokevirtual 319, 3) := by decide +kernel
theorem dX8_won_17 : decode cX8_won 17 = .ok (.istore_n 2, 1) := by decide +kernel
theorem dX8_won_18 : decode cX8_won 18 = .ok (.bipush (-6), 2) := by decide +kernel
theorem dX8_won_20 : decode cX8_won 20 = .ok (.istore_n 3, 1) := by decide +kernel
theorem dX8_won_21 : decode cX8_won 21 = .ok (.iconst 1, 1) := by decide +kernel
theorem dX8_won_22 : decode cX8_won 22 = .ok (.istore 4, 2) := by decide +kernel
theorem dX8_won_24 : decode cX8_won 24 = .ok (.iload 4, 2) := by decide +kernel
theorem dX8_won_26 : decode cX8_won 26 = .ok (.bipush 64, 2) := by decide +kernel
theorem dX8_won_28 : decode cX8_won 28 = .ok (.if_icmp .ge 66, 3) := by decide +kernel
theorem dX8_won_31 : decode cX8_won 31 = .ok (.iload 4, 2) := by decide +kernel
theorem dX8_won_33 : decode cX8_won 33 = .ok (.iload_n 2, 1) := by decide +kernel
theorem dX8_won_34 : decode cX8_won 34 = .ok (.iconst (-1), 1) := by decide +kernel
theorem dX8_won_35 : decode cX8_won 35 = .ok (.ixor, 1) := by decide +kernel
theorem dX8_won_36 : decode cX8_won 36 = .ok (.iand, 1) := by decide +kernel
theorem dX8_won_37 : decode cX8_won 37 = .ok (.ifCond .ne 23, 3) := by decide +kernel
theorem dX8_won_40 : decode cX8_won 40 = .ok (.iload_n 3, 1) := by decide +kernel
theorem dX8_won_41 : decode cX8_won 41 = .ok (.ifCond .lt 15, 3) := by decide +kernel
theorem dX8_won_44 : decode cX8_won 44 = .ok (.iload 4, 2) := by decide +kernel
theorem dX8_won_46 : decode cX8_won 46 = .ok (.invokestatic 119, 3) := by decide +kernel
theorem dX8_won_49 : decode cX8_won 49 = .ok (.iload_n 3, 1) := by decide +kernel
theorem dX8_won_50 : decode cX8_won 50 = .ok (.invokestatic 119, 3) := by decide +kernel
theorem dX8_won_53 : decode cX8_won 53 = .ok (.if_icmp .ge 7, 3) := by decide +kernel
theorem dX8_won_56 : decode cX8_won 56 = .ok (.iconst 1, 1) := by decide +kernel
theorem dX8_won_57 : decode cX8_won 57 = .ok (.goto 4, 3) := by decide +kernel
theorem dX8_won_60 : decode cX8_won 60 = .ok (.iconst 0, 1) := by decide +kernel
theorem dX8_won_61 : decode cX8_won 61 = .ok (.istore 5, 2) := by decide +kernel
theorem dX8_won_63 : decode cX8_won 63 = .ok (.iload 5, 2) := by decide +kernel
theorem dX8_won_65 : decode cX8_won 65 = .ok (.ifCond .eq 21, 3) := by decide +kernel
theorem dX8_won_68 : decode cX8_won 68 = .ok (.aload_n 0, 1) := by decide +kernel
theorem dX8_won_69 : decode cX8_won 69 = .ok (.aload_n 0, 1) := by decide +kernel
theorem dX8_won_70 : decode cX8_won 70 = .ok (.iload 4, 2) := by decide +kernel
theorem dX8_won_72 : decode cX8_won 72 = .ok (.invokevirtual 313, 3) := by decide +kernel
theorem dX8_won_75 : decode cX8_won 75 = .ok (.invokevirtual 316, 3) := by decide +kernel
theorem dX8_won_78 : decode cX8_won 78 = .ok (.ifCond .eq 8, 3) := by decide +kernel
theorem dX8_won_81 : decode cX8_won 81 = .ok (.iload 4, 2) := by decide +kernel
theorem dX8_won_83 : decode cX8_won 83 = .ok (.goto 4, 3) := by decide +kernel
theorem dX8_won_86 : decode cX8_won 86 = .ok (.iload_n 3, 1) := by decide +kernel
theorem dX8_won_87 : decode cX8_won 87 = .ok (.istore_n 3, 1) := by decide +kernel
theorem dX8_won_88 : decode cX8_won 88 = .ok (.iinc 4 1, 3) := by decide +kernel
theorem dX8_won_91 : decode cX8_won 91 = .ok (.goto (-67), 3) := by decide +kernel
theorem dX8_won_94 : decode cX8_won 94 = .ok (.iload_n 3, 1) := by decide +kernel
theorem dX8_won_95 : decode cX8_won 95 = .ok (.ifCond .lt 8, 3) := by decide +kernel
theorem dX8_won_98 : decode cX8_won 98 = .ok (.iload_n 1, 1) := by decide +kernel
theorem dX8_won_99 : decode cX8_won 99 = .ok (.iconst 1, 1) := by decide +kernel
theorem dX8_won_100 : decode cX8_won 100 = .ok (.if_icmp .ne 7, 3) := by decide +kernel
theorem dX8_won_103 : decode cX8_won 103 = .ok (.iload_n 3, 1) := by decide +kernel
theorem dX8_won_104 : decode cX8_won 104 = .ok (.goto 7, 3) := by decide +kernel
theorem dX8_won_107 : decode cX8_won 107 = .ok (.iload_n 3, 1) := by decide +kernel
theorem dX8_won_108 : decode cX8_won 108 = .ok (.invokestatic 119, 3) := by decide +kernel
theorem dX8_won_111 : decode cX8_won 111 = .ok (.ireturn, 1) := by decide +kernel
set_option maxRecDepth 20000 in
theorem ggX8_refuser_X8_isThere : GoodIn wsX8_refuser wsX8_isThere := goodIn_r _ [7, 8, 9, 10, 6, 11, 12, 13, 14, 15, 44, 45, 46, 47, 48, 49, 50, 51, 52, 53, 54, 55, 56, 57, 58, 59, 60, 61, 62, 63, 64, 65, 66, 67, 68, 69, 70, 71, 72, 73, 74, 75, 76, 77, 78, 79, 80, 81, 82, 83, 84, 85, 86, 87, 88, 89] (by decide +kernel) (by decide +kernel)
set_option maxRecDepth 20000 in
theorem gX8_refuser_X8_isThere : GoodIn wsX8_refuser (wsV RX8 123 RX8 yX8_isThere wsX8_isThere) := goodIn_app (goodIn_of _ (by decide +kernel)) ggX8_refuser_X8_isThere
set_option maxRecDepth 20000 in
theorem ggX8_refuser_X8_isHeight : GoodIn wsX8_refuser wsX8_isHeight := goodIn_r _ [18, 19, 13, 14, 6, 15] (by decide +kernel) (by decide +kernel)
set_option maxRecDepth 20000 in
theorem gX8_refuser_X8_isHeight : GoodIn wsX8_refuser (va_wsS RX8 162 yX8_isHeight wsX8_isHeight) := goodIn_app (goodIn_of _ (by decide +kernel)) ggX8_refuser_X8_isHeight
set_option maxRecDepth 20000 in
theorem ggX8_refuser_X8_doesIt : GoodIn wsX8_refuser wsX8_doesIt := goodIn_r _ [23, 24, 25, 26, 27, 6, 28, 29, 30, 31, 32, 33, 34, 35, 36, 37, 38, 39, 40, 41, 42, 43, 44, 45, 46, 47, 48, 49, 50, 51, 52, 53, 54, 55, 56, 57, 58, 59, 60, 61, 62, 63, 64, 65, 66, 67, 68, 69, 70, 71, 72, 73, 74, 75, 76, 77, 78, 79, 80, 81, 82, 83, 84, 85, 86, 87, 88, 89] (by decide +kernel) (by decide +kernel)
set_option maxRecDepth 20000 in
theorem gX8_refuser_X8_doesIt : GoodIn wsX8_refuser (wsV RX8 275 RX8 yX8_doesIt wsX8_doesIt) := goodIn_app (goodIn_of _ (by decide +kernel)) ggX8_refuser_X8_doesIt
theorem dX8_refuser_0 : decode cX8_refuser 0 = .ok (.aload_n 0, 1) := by decide +kernel
theorem dX8_refuser_1 : decode cX8_refuser 1 = .ok (.iload_n 1, 1) := by decide +kernel
theorem dX8_refuser_2 : decode cX8_refuser 2 = .ok (.invokevirtual 123, 3) := by decide +kernel
theorem dX8_refuser_5 : decode cX8_refuser 5 = .ok (.ifCond .ne 5, 3) := by decide +kernel
theorem dX8_refuser_8 : decode cX8_refuser 8 = .ok (.iconst (-1), 1) := by decide +kernel
theorem dX8_refuser_9 : decode cX8_refuser 9 = .ok (.ireturn, 1) := by decide +kernel
theorem dX8_refuser_10 : decode cX8_refuser 10 = .ok (.iload_n 2, 1) := by decide +kernel
theorem dX8_refuser_11 : decode cX8_refuser 11 = .ok (.invokestatic 162, 3) := by decide +kernel
theorem dX8_refuser_14 : decode cX8_refuser 14 = .ok (.ifCond .ne 6, 3) := by decide +kernel
theorem dX8_refuser_17 : decode cX8_refuser 17 = .ok (.bipush (-2), 2) := by decide +kernel
theorem dX8_refuser_19 : decode cX8_refuser 19 = .ok (.ireturn, 1) := by decide +kernel
theorem dX8_refuser_20 : decode cX8_refuser 20 = .ok (.iconst 0, 1) := by decide +kernel
theorem dX8_refuser_21 : decode cX8_refuser 21 = .ok (.istore_n 3, 1) := by decide +kernel
theorem dX8_refuser_22 : decode cX8_refuser 22 = .ok (.iload_n 3, 1) := by decide +kernel
theorem dX8_refuser_23 : decode cX8_refuser 23 = .ok (.bipush 6, 2) := by decide +kernel
theorem dX8_refuser_25 : decode cX8_refuser 25 = .ok (.if_icmp .ge 52, 3) := by decide +kernel
theorem dX8_refuser_28 : decode cX8_refuser 28 = .ok (.aload_n 0, 1) := by decide +kernel
theorem dX8_refuser_29 : decode cX8_refuser 29 = .ok (.iload_n 3, 1) := by decide +kernel
theorem dX8_refuser_30 : decode cX8_refuser 30 = .ok (.invokevirtual 123, 3) := by decide +kernel
theorem dX8_refuser_33 : decode cX8_refuser 33 = .ok (.ifCond .eq 38, 3) := by decide +kernel
theorem dX8_refuser_36 : decode cX8_refuser 36 = .ok (.iload_n 3, 1) := by decide +kernel
theorem dX8_refuser_37 : decode cX8_refuser 37 = .ok (.iload_n 1, 1) := by decide +kernel
theorem dX8_refuser_38 : decode cX8_refuser 38 = .ok (.if_icmp .eq 33, 3) := by decide +kernel
theorem dX8_refuser_41 : decode cX8_refuser 41 = .ok (.aload_n 0, 1) := by decide +kernel
theorem dX8_refuser_42 : decode cX8_refuser 42 = .ok (.getfield 28, 3) := by decide +kernel
theorem dX8_refuser_45 : decode cX8_refuser 45 = .ok (.iload_n 3, 1) := by decide +kernel
theorem dX8_refuser_46 : decode cX8_refuser 46 = .ok (.iaload, 1) := by decide +kernel
theorem dX8_refuser_47 : decode cX8_refuser 47 = .ok (.ifCond .ne 24, 3) := by decide +kernel
theorem dX8_refuser_50 : decode cX8_refuser 50 = .ok (.aload_n 0, 1) := by decide +kernel
theorem dX8_refuser_51 : decode cX8_refuser 51 = .ok (.getfield 22, 3) := by decide +kernel
theorem dX8_refuser_54 : decode cX8_refuser 54 = .ok (.iload_n 3, 1) := by decide +kernel
theorem dX8_refuser_55 : decode cX8_refuser 55 = .ok (.iaload, 1) := by decide +kernel
theorem dX8_refuser_56 : decode cX8_refuser 56 = .ok (.iload_n 2, 1) := by decide +kernel
theorem dX8_refuser_57 : decode cX8_refuser 57 = .ok (.if_icmp .ge 14, 3) := by decide +kernel
theorem dX8_refuser_60 : decode cX8_refuser 60 = .ok (.aload_n 0, 1) := by decide +kernel
theorem dX8_refuser_61 : decode cX8_refuser 61 = .ok (.iload_n 3, 1) := by decide +kernel
theorem dX8_refuser_62 : decode cX8_refuser 62 = .ok (.iload_n 2, 1) := by decide +kernel
theorem dX8_refuser_63 : decode cX8_refuser 63 = .ok (.invokevirtual 275, 3) := by decide +kernel
theorem dX8_refuser_66 : decode cX8_refuser 66 = .ok (.ifCond .ne 5, 3) := by decide +kernel
theorem dX8_refuser_69 : decode cX8_refuser 69 = .ok (.iload_n 3, 1) := by decide +kernel
theorem dX8_refuser_70 : decode cX8_refuser 70 = .ok (.ireturn, 1) := by decide +kernel
theorem dX8_refuser_71 : decode cX8_refuser 71 = .ok (.iinc 3 1, 3) := by decide +kernel
theorem dX8_refuser_74 : decode cX8_refuser 74 = .ok (.goto (-52), 3) := by decide +kernel
theorem dX8_refuser_77 : decode cX8_refuser 77 = .ok (.bipush (-6), 2) := by decide +kernel
theorem dX8_refuser_79 : decode cX8_refuser 79 = .ok (.ireturn, 1) := by decide +kernel
set_option maxRecDepth 20000 in
theorem ggX8_likely_X8_isThere : GoodIn wsX8_likely wsX8_isThere := goodIn_r _ [5, 6, 7, 8, 4, 9, 10, 11, 12, 13, 37, 38, 39, 40, 41, 42, 43, 44, 45, 46, 47, 48, 49, 50, 51, 52, 53, 54, 55, 56, 57, 58, 59, 60, 61, 62, 63, 64, 65, 66, 67, 68, 69, 70, 71, 72, 73, 74, 75, 76, 77, 78, 79, 80, 81, 82] (by decide +kernel) (by decide +kernel)
set_option maxRecDepth 20000 in
theorem gX8_likely_X8_isThere : GoodIn wsX8_likely (wsV RX8 123 RX8 yX8_isThere wsX8_isThere) := goodIn_app (goodIn_of _ (by decide +kernel)) ggX8_likely_X8_isThere
set_option maxRecDepth 20000 in
theorem ggX8_likely_X8_isHeight : GoodIn wsX8_likely wsX8_isHeight := goodIn_r _ [16, 17, 11, 12, 4, 13] (by decide +kernel) (by decide +kernel)
set_option maxRecDepth 20000 in
theorem gX8_likely_X8_isHeight : GoodIn wsX8_likely (va_wsS RX8 162 yX8_isHeight wsX8_isHeight) := goodIn_app (goodIn_of _ (by decide +kernel)) ggX8_likely_X8_isHeight
set_option maxRecDepth 20000 in
theorem ggX8_likely_X8_doesBy : GoodIn wsX8_likely wsX8_doesBy := goodIn_r _ [21, 22, 23, 24, 4, 25, 26, 27, 28, 29, 30, 31, 32, 33, 34, 35, 36, 37, 38, 39, 40, 41, 42, 43, 44, 45, 46, 47, 48, 49, 50, 51, 52, 53, 54, 55, 56, 57, 58, 59, 60, 61, 62, 63, 64, 65, 66, 67, 68, 69, 70, 71, 72, 73, 74, 75, 76, 77, 78, 79, 80, 81, 82] (by decide +kernel) (by decide +kernel)
set_option maxRecDepth 20000 in
theorem gX8_likely_X8_doesBy : GoodIn wsX8_likely (wsV RX8 264 RX8 yX8_doesBy wsX8_doesBy) := goodIn_app (goodIn_of _ (by decide +kernel)) ggX8_likely_X8_doesBy
theorem dX8_likely_0 : decode cX8_likely 0 = .ok (.aload_n 0, 1) := by decide +kernel
theorem dX8_likely_1 : decode cX8_likely 1 = .ok (.iload_n 1, 1) := by decide +kernel
theorem dX8_likely_2 : decode cX8_likely 2 = .ok (.invokevirtual 123, 3) := by decide +kernel
theorem dX8_likely_5 : decode cX8_likely 5 = .ok (.ifCond .ne 5, 3) := by decide +kernel
theorem dX8_likely_8 : decode cX8_likely 8 = .ok (.iconst (-1), 1) := by decide +kernel
theorem dX8_likely_9 : decode cX8_likely 9 = .ok (.ireturn, 1) := by decide +kernel
theorem dX8_likely_10 : decode cX8_likely 10 = .ok (.iload_n 2, 1) := by decide +kernel
theorem dX8_likely_11 : decode cX8_likely 11 = .ok (.invokestatic 162, 3) := by decide +kernel
theorem dX8_likely_14 : decode cX8_likely 14 = .ok (.ifCond .ne 6, 3) := by decide +kernel
theorem dX8_likely_17 : decode cX8_likely 17 = .ok (.bipush (-2), 2) := by decide +kernel
theorem dX8_likely_19 : decode cX8_likely 19 = .ok (.ireturn, 1) := by decide +kernel
theorem dX8_likely_20 : decode cX8_likely 20 = .ok (.iconst 0, 1) := by decide +kernel
theorem dX8_likely_21 : decode cX8_likely 21 = .ok (.istore_n 3, 1) := by decide +kernel
theorem dX8_likely_22 : decode cX8_likely 22 = .ok (.iconst 0, 1) := by decide +kernel
theorem dX8_likely_23 : decode cX8_likely 23 = .ok (.istore 4, 2) := by decide +kernel
theorem dX8_likely_25 : decode cX8_likely 25 = .ok (.iload 4, 2) := by decide +kernel
theorem dX8_likely_27 : decode cX8_likely 27 = .ok (.bipush 10, 2) := by decide +kernel
theorem dX8_likely_29 : decode cX8_likely 29 = .ok (.if_icmp .ge 28, 3) := by decide +kernel
theorem dX8_likely_32 : decode cX8_likely 32 = .ok (.iload_n 3, 1) := by decide +kernel
theorem dX8_likely_33 : decode cX8_likely 33 = .ok (.aload_n 0, 1) := by decide +kernel
theorem dX8_likely_34 : decode cX8_likely 34 = .ok (.iload_n 1, 1) := by decide +kernel
theorem dX8_likely_35 : decode cX8_likely 35 = .ok (.iload 4, 2) := by decide +kernel
theorem dX8_likely_37 : decode cX8_likely 37 = .ok (.iload_n 2, 1) := by decide +kernel
theorem dX8_likely_38 : decode cX8_likely 38 = .ok (.invokevirtual 264, 3) := by decide +kernel
theorem dX8_likely_41 : decode cX8_likely 41 = .ok (.ifCond .eq 7, 3) := by decide +kernel
theorem dX8_likely_44 : decode cX8_likely 44 = .ok (.iconst 1, 1) := by decide +kernel
theorem dX8_likely_45 : decode cX8_likely 45 = .ok (.goto 4, 3) := by decide +kernel
theorem dX8_likely_48 : decode cX8_likely 48 = .ok (.iconst 0, 1) := by decide +kernel
theorem dX8_likely_49 : decode cX8_likely 49 = .ok (.iadd, 1) := by decide +kernel
theorem dX8_likely_50 : decode cX8_likely 50 = .ok (.istore_n 3, 1) := by decide +kernel
theorem dX8_likely_51 : decode cX8_likely 51 = .ok (.iinc 4 1, 3) := by decide +kernel
theorem dX8_likely_54 : decode cX8_likely 54 = .ok (.goto (-29), 3) := by decide +kernel
theorem dX8_likely_57 : decode cX8_likely 57 = .ok (.iload_n 3, 1) := by decide +kernel
theorem dX8_likely_58 : decode cX8_likely 58 = .ok (.ireturn, 1) := by decide +kernel
set_option maxRecDepth 20000 in
theorem ggX8_seen_X8_isThere : GoodIn wsX8_seen wsX8_isThere := goodIn_r _ [9, 10, 11, 12, 8, 13, 14, 15, 16, 17, 22, 23, 24, 25, 26, 27, 28, 29, 30, 31, 32, 33, 34, 35, 36, 37, 38, 39, 40, 41, 42, 43, 44, 45, 46, 47, 48, 49, 50, 51, 52, 53, 54, 55, 56, 57, 58, 59, 60, 61, 62, 63, 64, 65, 66, 67] (by decide +kernel) (by decide +kernel)
set_option maxRecDepth 20000 in
theorem gX8_seen_X8_isThere : GoodIn wsX8_seen (wsV RX8 123 RX8 yX8_isThere wsX8_isThere) := goodIn_app (goodIn_of _ (by decide +kernel)) ggX8_seen_X8_isThere
set_option maxRecDepth 20000 in
theorem ggX8_seen_X8_isHeight : GoodIn wsX8_seen wsX8_isHeight := goodIn_r _ [20, 21, 15, 16, 8, 17] (by decide +kernel) (by decide +kernel)
set_option maxRecDepth 20000 in
theorem gX8_seen_X8_isHeight : GoodIn wsX8_seen (va_wsS RX8 162 yX8_isHeight wsX8_isHeight) := goodIn_app (goodIn_of _ (by decide +kernel)) ggX8_seen_X8_isHeight
set_option maxRecDepth 20000 in
theorem ggX8_seen_X8_in : GoodIn wsX8_seen wsX8_in := goodIn_r _ [17] (by decide +kernel) (by decide +kernel)
set_option maxRecDepth 20000 in
theorem gX8_seen_X8_in : GoodIn wsX8_seen (va_wsS RX8 101 yX8_in wsX8_in) := goodIn_app (goodIn_of _ (by decide +kernel)) ggX8_seen_X8_in
theorem dX8_seen_0 : decode cX8_seen 0 = .ok (.aload_n 0, 1) := by decide +kernel
theorem dX8_seen_1 : decode cX8_seen 1 = .ok (.iload_n 1, 1) := by decide +kernel
theorem dX8_seen_2 : decode cX8_seen 2 = .ok (.invokevirtual 123, 3) := by decide +kernel
theorem dX8_seen_5 : decode cX8_seen 5 = .ok (.ifCond .ne 5, 3) := by decide +kernel
theorem dX8_seen_8 : decode cX8_seen 8 = .ok (.iconst (-1), 1) := by decide +kernel
theorem dX8_seen_9 : decode cX8_seen 9 = .ok (.ireturn, 1) := by decide +kernel
theorem dX8_seen_10 : decode cX8_seen 10 = .ok (.iload_n 2, 1) := by decide +kernel
theorem dX8_seen_11 : decode cX8_seen 11 = .ok (.invokestatic 162, 3) := by decide +kernel
theorem dX8_seen_14 : decode cX8_seen 14 = .ok (.ifCond .eq 13, 3) := by decide +kernel
theorem dX8_seen_17 : decode cX8_seen 17 = .ok (.iload_n 3, 1) := by decide +kernel
theorem dX8_seen_18 : decode cX8_seen 18 = .ok (.i2l, 1) := by decide +kernel
theorem dX8_seen_19 : decode cX8_seen 19 = .ok (.lconst 0, 1) := by decide +kernel
theorem dX8_seen_20 : decode cX8_seen 20 = .ok (.lconst 1, 1) := by decide +kernel
theorem dX8_seen_21 : decode cX8_seen 21 = .ok (.invokestatic 101, 3) := by decide +kernel
theorem dX8_seen_24 : decode cX8_seen 24 = .ok (.ifCond .ne 6, 3) := by decide +kernel
theorem dX8_seen_27 : decode cX8_seen 27 = .ok (.bipush (-2), 2) := by decide +kernel
theorem dX8_seen_29 : decode cX8_seen 29 = .ok (.ireturn, 1) := by decide +kernel
theorem dX8_seen_30 : decode cX8_seen 30 = .ok (.aload_n 0, 1) := by decide +kernel
theorem dX8_seen_31 : decode cX8_seen 31 = .ok (.getfield 322, 3) := by decide +kernel
theorem dX8_seen_34 : decode cX8_seen 34 = .ok (.bipush 6, 2) := by decide +kernel
theorem dX8_seen_36 : decode cX8_seen 36 = .ok (.if_icmp .ne 6, 3) := by decide +kernel
theorem dX8_seen_39 : decode cX8_seen 39 = .ok (.bipush (-4), 2) := by decide +kernel
theorem dX8_seen_41 : decode cX8_seen 41 = .ok (.ireturn, 1) := by decide +kernel
theorem dX8_seen_42 : decode cX8_seen 42 = .ok (.aload_n 0, 1) := by decide +kernel
theorem dX8_seen_43 : decode cX8_seen 43 = .ok (.getfield 31, 3) := by decide +kernel
theorem dX8_seen_46 : decode cX8_seen 46 = .ok (.aload_n 0, 1) := by decide +kernel
theorem dX8_seen_47 : decode cX8_seen 47 = .ok (.getfield 322, 3) := by decide +kernel
theorem dX8_seen_50 : decode cX8_seen 50 = .ok (.iload_n 1, 1) := by decide +kernel
theorem dX8_seen_51 : decode cX8_seen 51 = .ok (.iastore, 1) := by decide +kernel
theorem dX8_seen_52 : decode cX8_seen 52 = .ok (.aload_n 0, 1) := by decide +kernel
theorem dX8_seen_53 : decode cX8_seen 53 = .ok (.getfield 34, 3) := by decide +kernel
theorem dX8_seen_56 : decode cX8_seen 56 = .ok (.aload_n 0, 1) := by decide +kernel
theorem dX8_seen_57 : decode cX8_seen 57 = .ok (.getfield 322, 3) := by decide +kernel
theorem dX8_seen_60 : decode cX8_seen 60 = .ok (.iload_n 2, 1) := by decide +kernel
theorem dX8_seen_61 : decode cX8_seen 61 = .ok (.iastore, 1) := by decide +kernel
theorem dX8_seen_62 : decode cX8_seen 62 = .ok (.aload_n 0, 1) := by decide +kernel
theorem dX8_seen_63 : decode cX8_seen 63 = .ok (.getfield 37, 3) := by decide +kernel
theorem dX8_seen_66 : decode cX8_seen 66 = .ok (.aload_n 0, 1) := by decide +kernel
theorem dX8_seen_67 : decode cX8_seen 67 = .ok (.getfield 322, 3) := by decide +kernel
theorem dX8_seen_70 : decode cX8_seen 70 = .ok (.iload_n 3, 1) := by decide +kernel
theorem dX8_seen_71 : decode cX8_seen 71 = .ok (.iastore, 1) := by decide +kernel
theorem dX8_seen_72 : decode cX8_seen 72 = .ok (.aload_n 0, 1) := by decide +kernel
theorem dX8_seen_73 : decode cX8_seen 73 = .ok (.dup, 1) := by decide +kernel
theorem dX8_seen_74 : decode cX8_seen 74 = .ok (.getfield 322, 3) := by decide +kernel
theorem dX8_seen_77 : decode cX8_seen 77 = .ok (.iconst 1, 1) := by decide +kernel
theorem dX8_seen_78 : decode cX8_seen 78 = .ok (.iadd, 1) := by decide +kernel
theorem dX8_seen_79 : decode cX8_seen 79 = .ok (.putfield 322, 3) := by decide +kernel
theorem dX8_seen_82 : decode cX8_seen 82 = .ok (.aload_n 0, 1) := by decide +kernel
theorem dX8_seen_83 : decode cX8_seen 83 = .ok (.getfield 322, 3) := by decide +kernel
theorem dX8_seen_86 : decode cX8_seen 86 = .ok (.ireturn, 1) := by decide +kernel
theorem dX8_forget_0 : decode cX8_forget 0 = .ok (.aload_n 0, 1) := by decide +kernel
theorem dX8_forget_1 : decode cX8_forget 1 = .ok (.getfield 322, 3) := by decide +kernel
theorem dX8_forget_4 : decode cX8_forget 4 = .ok (.istore_n 1, 1) := by decide +kernel
theorem dX8_forget_5 : decode cX8_forget 5 = .ok (.aload_n 0, 1) := by decide +kernel
theorem dX8_forget_6 : decode cX8_forget 6 = .ok (.iconst 0, 1) := by decide +kernel
theorem dX8_forget_7 : decode cX8_forget 7 = .ok (.putfield 322, 3) := by decide +kernel
theorem dX8_forget_10 : decode cX8_forget 10 = .ok (.iload_n 1, 1) := by decide +kernel
theorem dX8_forget_11 : decode cX8_forget 11 = .ok (.ireturn, 1) := by decide +kernel
set_option maxRecDepth 20000 in
theorem ggX8_holdsAll_X8_doesBy : GoodIn wsX8_holdsAll wsX8_doesBy := goodIn_r _ [9, 10, 11, 12, 8, 13, 14, 15, 16, 17, 18, 19, 20, 21, 22, 23, 24, 25, 26, 27, 28, 29, 30, 31, 32, 33, 34, 35, 36, 37, 38, 39, 40, 41, 42, 43, 44, 45, 46, 47, 48, 49, 50, 51, 52, 53, 54, 55, 56, 57, 58, 59, 60, 61, 62, 63, 64, 65, 66, 67, 68, 69, 70] (by decide +kernel) (by decide +kernel)
set_option maxRecDepth 20000 in
theorem gX8_holdsAll_X8_doesBy : GoodIn wsX8_holdsAll (wsV RX8 264 RX8 yX8_doesBy wsX8_doesBy) := goodIn_app (goodIn_of _ (by decide +kernel)) ggX8_holdsAll_X8_doesBy
theorem dX8_holdsAll_0 : decode cX8_holdsAll 0 = .ok (.iconst 1, 1) := by decide +kernel
theorem dX8_holdsAll_1 : decode cX8_holdsAll 1 = .ok (.istore_n 3, 1) := by decide +kernel
theorem dX8_holdsAll_2 : decode cX8_holdsAll 2 = .ok (.iconst 0, 1) := by decide +kernel
theorem dX8_holdsAll_3 : decode cX8_holdsAll 3 = .ok (.istore 4, 2) := by decide +kernel
theorem dX8_holdsAll_5 : decode cX8_holdsAll 5 = .ok (.iload 4, 2) := by decide +kernel
theorem dX8_holdsAll_7 : decode cX8_holdsAll 7 = .ok (.aload_n 0, 1) := by decide +kernel
theorem dX8_holdsAll_8 : decode cX8_holdsAll 8 = .ok (.getfield 322, 3) := by decide +kernel
theorem dX8_holdsAll_11 : decode cX8_holdsAll 11 = .ok (.if_icmp .ge 61, 3) := by decide +kernel
theorem dX8_holdsAll_14 : decode cX8_holdsAll 14 = .ok (.iload_n 3, 1) := by decide +kernel
theorem dX8_holdsAll_15 : decode cX8_holdsAll 15 = .ok (.ifCond .eq 49, 3) := by decide +kernel
theorem dX8_holdsAll_18 : decode cX8_holdsAll 18 = .ok (.aload_n 0, 1) := by decide +kernel
theorem dX8_holdsAll_19 : decode cX8_holdsAll 19 = .ok (.getfield 31, 3) := by decide +kernel
theorem dX8_holdsAll_22 : decode cX8_holdsAll 22 = .ok (.iload 4, 2) := by decide +kernel
theorem dX8_holdsAll_24 : decode cX8_holdsAll 24 = .ok (.iaload, 1) := by decide +kernel
theorem dX8_holdsAll_25 : decode cX8_holdsAll 25 = .ok (.iload_n 1, 1) := by decide +kernel
theorem dX8_holdsAll_26 : decode cX8_holdsAll 26 = .ok (.if_icmp .ne 34, 3) := by decide +kernel
theorem dX8_holdsAll_29 : decode cX8_holdsAll 29 = .ok (.aload_n 0, 1) := by decide +kernel
theorem dX8_holdsAll_30 : decode cX8_holdsAll 30 = .ok (.iload_n 1, 1) := by decide +kernel
theorem dX8_holdsAll_31 : decode cX8_holdsAll 31 = .ok (.iload_n 2, 1) := by decide +kernel
theorem dX8_holdsAll_32 : decode cX8_holdsAll 32 = .ok (.aload_n 0, 1) := by decide +kernel
theorem dX8_holdsAll_33 : decode cX8_holdsAll 33 = .ok (.getfield 34, 3) := by decide +kernel
theorem dX8_holdsAll_36 : decode cX8_holdsAll 36 = .ok (.iload 4, 2) := by decide +kernel
theorem dX8_holdsAll_38 : decode cX8_holdsAll 38 = .ok (.iaload, 1) := by decide +kernel
theorem dX8_holdsAll_39 : decode cX8_holdsAll 39 = .ok (.invokevirtual 264, 3) := by decide +kernel
theorem dX8_holdsAll_42 : decode cX8_holdsAll 42 = .ok (.ifCond .eq 7, 3) := by decide +kernel
theorem dX8_holdsAll_45 : decode cX8_holdsAll 45 = .ok (.iconst 1, 1) := by decide +kernel
theorem dX8_holdsAll_46 : decode cX8_holdsAll 46 = .ok (.goto 4, 3) := by decide +kernel
theorem dX8_holdsAll_49 : decode cX8_holdsAll 49 = .ok (.iconst 0, 1) := by decide +kernel
theorem dX8_holdsAll_50 : decode cX8_holdsAll 50 = .ok (.aload_n 0, 1) := by decide +kernel
theorem dX8_holdsAll_51 : decode cX8_holdsAll 51 = .ok (.getfield 37, 3) := by decide +kernel
theorem dX8_holdsAll_54 : decode cX8_holdsAll 54 = .ok (.iload 4, 2) := by decide +kernel
theorem dX8_holdsAll_56 : decode cX8_holdsAll 56 = .ok (.iaload, 1) := by decide +kernel
theorem dX8_holdsAll_57 : decode cX8_holdsAll 57 = .ok (.if_icmp .ne 7, 3) := by decide +kernel
theorem dX8_holdsAll_60 : decode cX8_holdsAll 60 = .ok (.iconst 1, 1) := by decide +kernel
theorem dX8_holdsAll_61 : decode cX8_holdsAll 61 = .ok (.goto 4, 3) := by decide +kernel
theorem dX8_holdsAll_64 : decode cX8_holdsAll 64 = .ok (.iconst 0, 1) := by decide +kernel
theorem dX8_holdsAll_65 : decode cX8_holdsAll 65 = .ok (.istore_n 3, 1) := by decide +kernel
theorem dX8_holdsAll_66 : decode cX8_holdsAll 66 = .ok (.iinc 4 1, 3) := by decide +kernel
theorem dX8_holdsAll_69 : decode cX8_holdsAll 69 = .ok (.goto (-64), 3) := by decide +kernel
theorem dX8_holdsAll_72 : decode cX8_holdsAll 72 = .ok (.iload_n 3, 1) := by decide +kernel
theorem dX8_holdsAll_73 : decode cX8_holdsAll 73 = .ok (.ireturn, 1) := by decide +kernel
set_option maxRecDepth 20000 in
theorem ggX8_prides_X8_isThere : GoodIn wsX8_prides wsX8_isThere := goodIn_r _ [6, 7, 8, 9, 5, 10, 11, 12, 13, 14, 42, 43, 44, 45, 46, 47, 48, 49, 50, 51, 52, 53, 54, 55, 56, 57, 58, 59, 60, 61, 62, 63, 64, 65, 66, 67, 68, 69, 70, 71, 72, 73, 74, 75, 76, 77, 78, 79, 80, 81, 82, 83, 84, 85, 86, 87] (by decide +kernel) (by decide +kernel)
set_option maxRecDepth 20000 in
theorem gX8_prides_X8_isThere : GoodIn wsX8_prides (wsV RX8 123 RX8 yX8_isThere wsX8_isThere) := goodIn_app (goodIn_of _ (by decide +kernel)) ggX8_prides_X8_isThere
set_option maxRecDepth 20000 in
theorem ggX8_prides_X8_in : GoodIn wsX8_prides wsX8_in := goodIn_r _ [14] (by decide +kernel) (by decide +kernel)
set_option maxRecDepth 20000 in
theorem gX8_prides_X8_in : GoodIn wsX8_prides (va_wsS RX8 101 yX8_in wsX8_in) := goodIn_app (goodIn_of _ (by decide +kernel)) ggX8_prides_X8_in
set_option maxRecDepth 20000 in
theorem ggX8_prides_X8_holdsAll : GoodIn wsX8_prides wsX8_holdsAll := goodIn_r _ [18, 19, 20, 21, 22, 23, 24, 25, 5, 26, 27, 28, 29, 30, 31, 32, 33, 34, 35, 36, 37, 38, 39, 40, 41, 42, 43, 44, 45, 46, 47, 48, 49, 50, 51, 52, 53, 54, 55, 56, 57, 58, 59, 60, 61, 62, 63, 64, 65, 66, 67, 68, 69, 70, 71, 72, 73, 74, 75, 76, 77, 78, 79, 80, 81, 82, 83, 84, 85, 86, 87] (by decide +kernel) (by decide +kernel)
set_option maxRecDepth 20000 in
theorem gX8_prides_X8_holdsAll : GoodIn wsX8_prides (wsV RX8 325 RX8 yX8_holdsAll wsX8_holdsAll) := goodIn_app (goodIn_of _ (by decide +kernel)) ggX8_prides_X8_holdsAll
theorem dX8_prides_0 : decode cX8_prides 0 = .ok (.aload_n 0, 1) := by decide +kernel
theorem dX8_prides_1 : decode cX8_prides 1 = .ok (.iload_n 1, 1) := by decide +kernel
theorem dX8_prides_2 : decode cX8_prides 2 = .ok (.invokevirtual 123, 3) := by decide +kernel
theorem dX8_prides_5 : decode cX8_prides 5 = .ok (.ifCond .ne 5, 3) := by decide +kernel
theorem dX8_prides_8 : decode cX8_prides 8 = .ok (.iconst (-1), 1) := by decide +kernel
theorem dX8_prides_9 : decode cX8_prides 9 = .ok (.ireturn, 1) := by decide +kernel
theorem dX8_prides_10 : decode cX8_prides 10 = .ok (.iload_n 2, 1) := by decide +kernel
theorem dX8_prides_11 : decode cX8_prides 11 = .ok (.i2l, 1) := by decide +kernel
theorem dX8_prides_12 : decode cX8_prides 12 = .ok (.lconst 0, 1) := by decide +kernel
theorem dX8_prides_13 : decode cX8_prides 13 = .ok (.ldc2_w 231, 3) := by decide +kernel
theorem dX8_prides_16 : decode cX8_prides 16 = .ok (.invokestatic 101, 3) := by decide +kernel
theorem dX8_prides_19 : decode cX8_prides 19 = .ok (.ifCond .ne 6, 3) := by decide +kernel
theorem dX8_prides_22 : decode cX8_prides 22 = .ok (.bipush (-2), 2) := by decide +kernel
theorem dX8_prides_24 : decode cX8_prides 24 = .ok (.ireturn, 1) := by decide +kernel
theorem dX8_prides_25 : decode cX8_prides 25 = .ok (.iconst 0, 1) := by decide +kernel
theorem dX8_prides_26 : decode cX8_prides 26 = .ok (.istore_n 3, 1) := by decide +kernel
theorem dX8_prides_27 : decode cX8_prides 27 = .ok (.bipush (-6), 2) := by decide +kernel
theorem dX8_prides_29 : decode cX8_prides 29 = .ok (.istore 4, 2) := by decide +kernel
theorem dX8_prides_31 : decode cX8_prides 31 = .ok (.bipush (-6), 2) := by decide +kernel
theorem dX8_prides_33 : decode cX8_prides 33 = .ok (.istore 5, 2) := by decide +kernel
theorem dX8_prides_35 : decode cX8_prides 35 = .ok (.iconst 0, 1) := by decide +kernel
theorem dX8_prides_36 : decode cX8_prides 36 = .ok (.istore 6, 2) := by decide +kernel
theorem dX8_prides_38 : decode cX8_prides 38 = .ok (.iload 6, 2) := by decide +kernel
theorem dX8_prides_40 : decode cX8_prides 40 = .ok (.bipush 10, 2) := by decide +kernel
theorem dX8_prides_42 : decode cX8_prides 42 = .ok (.if_icmp .ge 39, 3) := by decide +kernel
theorem dX8_prides_45 : decode cX8_prides 45 = .ok (.aload_n 0, 1) := by decide +kernel
theorem dX8_prides_46 : decode cX8_prides 46 = .ok (.iload_n 1, 1) := by decide +kernel
theorem dX8_prides_47 : decode cX8_prides 47 = .ok (.iload 6, 2) := by decide +kernel
theorem dX8_prides_49 : decode cX8_prides 49 = .ok (.invokevirtual 325, 3) := by decide +kernel
theorem dX8_prides_52 : decode cX8_prides 52 = .ok (.ifCond .eq 23, 3) := by decide +kernel
theorem dX8_prides_55 : decode cX8_prides 55 = .ok (.iload_n 3, 1) := by decide +kernel
theorem dX8_prides_56 : decode cX8_prides 56 = .ok (.ifCond .ne 8, 3) := by decide +kernel
theorem dX8_prides_59 : decode cX8_prides 59 = .ok (.iload 6, 2) := by decide +kernel
theorem dX8_prides_61 : decode cX8_prides 61 = .ok (.goto 5, 3) := by decide +kernel
theorem dX8_prides_64 : decode cX8_prides 64 = .ok (.iload 4, 2) := by decide +kernel
theorem dX8_prides_66 : decode cX8_prides 66 = .ok (.istore 4, 2) := by decide +kernel
theorem dX8_prides_68 : decode cX8_prides 68 = .ok (.iload 6, 2) := by decide +kernel
theorem dX8_prides_70 : decode cX8_prides 70 = .ok (.istore 5, 2) := by decide +kernel
theorem dX8_prides_72 : decode cX8_prides 72 = .ok (.iinc 3 1, 3) := by decide +kernel
theorem dX8_prides_75 : decode cX8_prides 75 = .ok (.iinc 6 1, 3) := by decide +kernel
theorem dX8_prides_78 : decode cX8_prides 78 = .ok (.goto (-40), 3) := by decide +kernel
theorem dX8_prides_81 : decode cX8_prides 81 = .ok (.iload_n 2, 1) := by decide +kernel
theorem dX8_prides_82 : decode cX8_prides 82 = .ok (.ifCond .ne 7, 3) := by decide +kernel
theorem dX8_prides_85 : decode cX8_prides 85 = .ok (.iload_n 3, 1) := by decide +kernel
theorem dX8_prides_86 : decode cX8_prides 86 = .ok (.goto 15, 3) := by decide +kernel
theorem dX8_prides_89 : decode cX8_prides 89 = .ok (.iload_n 2, 1) := by decide +kernel
theorem dX8_prides_90 : decode cX8_prides 90 = .ok (.iconst 1, 1) := by decide +kernel
theorem dX8_prides_91 : decode cX8_prides 91 = .ok (.if_icmp .ne 8, 3) := by decide +kernel
theorem dX8_prides_94 : decode cX8_prides 94 = .ok (.iload 4, 2) := by decide +kernel
theorem dX8_prides_96 : decode cX8_prides 96 = .ok (.goto 5, 3) := by decide +kernel
theorem dX8_prides_99 : decode cX8_prides 99 = .ok (.iload 5, 2) := by decide +kernel
theorem dX8_prides_101 : decode cX8_prides 101 = .ok (.ireturn, 1) := by decide +kernel
set_option maxRecDepth 20000 in
theorem ggX8_year_X8_in : GoodIn wsX8_year wsX8_in := goodIn_r _ [13] (by decide +kernel) (by decide +kernel)
set_option maxRecDepth 20000 in
theorem gX8_year_X8_in : GoodIn wsX8_year (va_wsS RX8 101 yX8_in wsX8_in) := goodIn_app (goodIn_of _ (by decide +kernel)) ggX8_year_X8_in
set_option maxRecDepth 20000 in
theorem ggX8_year_X8_keepNow : GoodIn wsX8_year wsX8_keepNow := goodIn_r _ [17, 18, 7, 19, 9, 20, 21, 22, 23, 82, 83, 84, 85, 86, 87, 88, 89, 90, 91, 92, 93, 94, 95, 96, 97, 98, 99, 100, 101, 102, 103, 104, 105, 106, 107, 108, 109, 110, 111, 112, 113, 114, 115, 116, 117, 118, 119, 120, 121, 122, 123, 124, 125, 126, 127] (by decide +kernel) (by decide +kernel)
set_option maxRecDepth 20000 in
theorem gX8_year_X8_keepNow : GoodIn wsX8_year (wsV RX8 222 RX8 yX8_keepNow wsX8_keepNow) := goodIn_app (goodIn_of _ (by decide +kernel)) ggX8_year_X8_keepNow
set_option maxRecDepth 20000 in
theorem ggX8_year_X8_whyNot : GoodIn wsX8_year wsX8_whyNot := goodIn_r _ [27, 21, 7, 8, 28, 29, 30, 12, 31, 32, 33, 34, 35, 36, 10, 11, 13, 82, 83, 84, 85, 86, 87, 88, 89, 90, 91, 92, 93, 94, 95, 96, 97, 98, 99, 100, 101, 102, 103, 104, 105, 106, 107, 108, 109, 110, 111, 112, 113, 114, 115, 116, 117, 118, 119, 120, 121, 122, 123, 124, 125, 126, 127] (by decide +kernel) (by decide +kernel)
set_option maxRecDepth 20000 in
theorem gX8_year_X8_whyNot : GoodIn wsX8_year (wsV RX8 209 RX8 yX8_whyNot wsX8_whyNot) := goodIn_app (goodIn_of _ (by decide +kernel)) ggX8_year_X8_whyNot
set_option maxRecDepth 20000 in
theorem ggX8_year_X8_doesIt : GoodIn wsX8_year wsX8_doesIt := goodIn_r _ [40, 41, 42, 43, 44, 12, 45, 46, 47, 48, 49, 50, 51, 52, 53, 54, 55, 56, 57, 58, 59, 60, 82, 83, 84, 85, 86, 87, 88, 89, 90, 91, 92, 93, 94, 95, 96, 97, 98, 99, 100, 101, 102, 103, 104, 105, 106, 107, 108, 109, 110, 111, 112, 113, 114, 115, 116, 117, 118, 119, 120, 121, 122, 123, 124, 125, 126, 127] (by decide +kernel) (by decide +kernel)
set_option maxRecDepth 20000 in
theorem gX8_year_X8_doesIt : GoodIn wsX8_year (wsV RX8 275 RX8 yX8_doesIt wsX8_doesIt) := goodIn_app (goodIn_of _ (by decide +kernel)) ggX8_year_X8_doesIt
set_option maxRecDepth 20000 in
theorem ggX8_year_X8_doIt : GoodIn wsX8_year wsX8_doIt := goodIn_r _ [64, 7, 9, 21, 65, 66, 67, 12, 68, 69, 70, 71, 72, 4, 22, 5, 6, 52, 53, 54, 55, 56, 57, 82, 83, 84, 85, 86, 87, 88, 89, 90, 91, 92, 93, 94, 95, 96, 97, 98, 99, 100, 101, 102, 103, 104, 105, 106, 107, 108, 109, 110, 111, 112, 113, 114, 115, 116, 117, 118, 119, 120, 121, 122, 123, 124, 125, 126, 127] (by decide +kernel) (by decide +kernel)
set_option maxRecDepth 20000 in
theorem gX8_year_X8_doIt : GoodIn wsX8_year (wsV RX8 185 RX8 yX8_doIt wsX8_doIt) := goodIn_app (goodIn_of _ (by decide +kernel)) ggX8_year_X8_doIt
set_option maxRecDepth 20000 in
theorem ggX8_year_X8_passNight : GoodIn wsX8_year wsX8_passNight := goodIn_r _ [76, 9, 77, 21, 66, 67, 12, 68, 82, 83, 84, 85, 86, 87, 88, 89, 90, 91, 92, 93, 94, 95, 96, 97, 98, 99, 100, 101, 102, 103, 104, 105, 106, 107, 108, 109, 110, 111, 112, 113, 114, 115, 116, 117, 118, 119, 120, 121, 122, 123, 124, 125, 126, 127] (by decide +kernel) (by decide +kernel)
set_option maxRecDepth 20000 in
theorem gX8_year_X8_passNight : GoodIn wsX8_year (wsV RX8 206 RX8 yX8_passNight wsX8_passNight) := goodIn_app (goodIn_of _ (by decide +kernel)) ggX8_year_X8_passNight
set_option maxRecDepth 20000 in
theorem ggX8_year_X8_putBack : GoodIn wsX8_year wsX8_putBack := goodIn_r _ [81, 7, 18, 9, 19, 21, 20, 23, 22, 82, 83, 84, 85, 86, 87, 88, 89, 90, 91, 92, 93, 94, 95, 96, 97, 98, 99, 100, 101, 102, 103, 104, 105, 106, 107, 108, 109, 110, 111, 112, 113, 114, 115, 116, 117, 118, 119, 120, 121, 122, 123, 124, 125, 126, 127] (by decide +kernel) (by decide +kernel)
set_option maxRecDepth 20000 in
theorem gX8_year_X8_putBack : GoodIn wsX8_year (wsV RX8 228 RX8 yX8_putBack wsX8_putBack) := goodIn_app (goodIn_of _ (by decide +kernel)) ggX8_year_X8_putBack
theorem dX8_year_0 : decode cX8_year 0 = .ok (.iload_n 1, 1) := by decide +kernel
theorem dX8_year_1 : decode cX8_year 1 = .ok (.i2l, 1) := by decide +kernel
theorem dX8_year_2 : decode cX8_year 2 = .ok (.lconst 0, 1) := by decide +kernel
theorem dX8_year_3 : decode cX8_year 3 = .ok (.ldc2_w 130, 3) := by decide +kernel
theorem dX8_year_6 : decode cX8_year 6 = .ok (.invokestatic 101, 3) := by decide +kernel
theorem dX8_year_9 : decode cX8_year 9 = .ok (.ifCond .eq 27, 3) := by decide +kernel
theorem dX8_year_12 : decode cX8_year 12 = .ok (.iload_n 2, 1) := by decide +kernel
theorem dX8_year_13 : decode cX8_year 13 = .ok (.i2l, 1) := by decide +kernel
theorem dX8_year_14 : decode cX8_year 14 = .ok (.lconst 1, 1) := by decide +kernel
theorem dX8_year_15 : decode cX8_year 15 = .ok (.ldc2_w 126, 3) := by decide +kernel
theorem dX8_year_18 : decode cX8_year 18 = .ok (.invokestatic 101, 3) := by decide +kernel
theorem dX8_year_21 : decode cX8_year 21 = .ok (.ifCond .eq 15, 3) := by decide +kernel
theorem dX8_year_24 : decode cX8_year 24 = .ok (.iload_n 3, 1) := by decide +kernel
theorem dX8_year_25 : decode cX8_year 25 = .ok (.i2l, 1) := by decide +kernel
theorem dX8_year_26 : decode cX8_year 26 = .ok (.lconst 0, 1) := by decide +kernel
theorem dX8_year_27 : decode cX8_year 27 = .ok (.ldc2_w 231, 3) := by decide +kernel
theorem dX8_year_30 : decode cX8_year 30 = .ok (.invokestatic 101, 3) := by decide +kernel
theorem dX8_year_33 : decode cX8_year 33 = .ok (.ifCond .ne 6, 3) := by decide +kernel
theorem dX8_year_36 : decode cX8_year 36 = .ok (.bipush (-2), 2) := by decide +kernel
theorem dX8_year_38 : decode cX8_year 38 = .ok (.ireturn, 1) := by decide +kernel
theorem dX8_year_39 : decode cX8_year 39 = .ok (.aload_n 0, 1) := by decide +kernel
theorem dX8_year_40 : decode cX8_year 40 = .ok (.invokevirtual 222, 3) := by decide +kernel
theorem dX8_year_43 : decode cX8_year 43 = .ok (.iload_n 1, 1) := by decide +kernel
theorem dX8_year_44 : decode cX8_year 44 = .ok (.istore 4, 2) := by decide +kernel
theorem dX8_year_46 : decode cX8_year 46 = .ok (.iconst 0, 1) := by decide +kernel
theorem dX8_year_47 : decode cX8_year 47 = .ok (.istore 5, 2) := by decide +kernel
theorem dX8_year_49 : decode cX8_year 49 = .ok (.iconst 0, 1) := by decide +kernel
theorem dX8_year_50 : decode cX8_year 50 = .ok (.istore 6, 2) := by decide +kernel
theorem dX8_year_52 : decode cX8_year 52 = .ok (.iconst 0, 1) := by decide +kernel
theorem dX8_year_53 : decode cX8_year 53 = .ok (.istore 7, 2) := by decide +kernel
theorem dX8_year_55 : decode cX8_year 55 = .ok (.iconst 1, 1) := by decide +kernel
theorem dX8_year_56 : decode cX8_year 56 = .ok (.istore 8, 2) := by decide +kernel
theorem dX8_year_58 : decode cX8_year 58 = .ok (.iload 8, 2) := by decide +kernel
theorem dX8_year_60 : decode cX8_year 60 = .ok (.iload_n 2, 1) := by decide +kernel
theorem dX8_year_61 : decode cX8_year 61 = .ok (.if_icmp .gt 159, 3) := by decide +kernel
theorem dX8_year_64 : decode cX8_year 64 = .ok (.ldc2_w 168, 3) := by decide +kernel
theorem dX8_year_67 : decode cX8_year 67 = .ok (.iload 4, 2) := by decide +kernel
theorem dX8_year_69 : decode cX8_year 69 = .ok (.i2l, 1) := by decide +kernel
theorem dX8_year_70 : decode cX8_year 70 = .ok (.lmul, 1) := by decide +kernel
theorem dX8_year_71 : decode cX8_year 71 = .ok (.ldc2_w 170, 3) := by decide +kernel
theorem dX8_year_74 : decode cX8_year 74 = .ok (.ladd, 1) := by decide +kernel
theorem dX8_year_75 : decode cX8_year 75 = .ok (.ldc2_w 172, 3) := by decide +kernel
theorem dX8_year_78 : decode cX8_year 78 = .ok (.lrem, 1) := by decide +kernel
theorem dX8_year_79 : decode cX8_year 79 = .ok (.l2i, 1) := by decide +kernel
theorem dX8_year_80 : decode cX8_year 80 = .ok (.istore 4, 2) := by decide +kernel
theorem dX8_year_82 : decode cX8_year 82 = .ok (.iload 4, 2) := by decide +kernel
theorem dX8_year_84 : decode cX8_year 84 = .ok (.bipush 6, 2) := by decide +kernel
theorem dX8_year_86 : decode cX8_year 86 = .ok (.irem, 1) := by decide +kernel
theorem dX8_year_87 : decode cX8_year 87 = .ok (.istore 9, 2) := by decide +kernel
theorem dX8_year_89 : decode cX8_year 89 = .ok (.iload 4, 2) := by decide +kernel
theorem dX8_year_91 : decode cX8_year 91 = .ok (.bipush 6, 2) := by decide +kernel
theorem dX8_year_93 : decode cX8_year 93 = .ok (.idiv, 1) := by decide +kernel
theorem dX8_year_94 : decode cX8_year 94 = .ok (.bipush 6, 2) := by decide +kernel
theorem dX8_year_96 : decode cX8_year 96 = .ok (.irem, 1) := by decide +kernel
theorem dX8_year_97 : decode cX8_year 97 = .ok (.istore 10, 2) := by decide +kernel
theorem dX8_year_99 : decode cX8_year 99 = .ok (.aload_n 0, 1) := by decide +kernel
theorem dX8_year_100 : decode cX8_year 100 = .ok (.getfield 22, 3) := by decide +kernel
theorem dX8_year_103 : decode cX8_year 103 = .ok (.iload 9, 2) := by decide +kernel
theorem dX8_year_105 : decode cX8_year 105 = .ok (.iaload, 1) := by decide +kernel
theorem dX8_year_106 : decode cX8_year 106 = .ok (.aload_n 0, 1) := by decide +kernel
theorem dX8_year_107 : decode cX8_year 107 = .ok (.getfield 80, 3) := by decide +kernel
theorem dX8_year_110 : decode cX8_year 110 = .ok (.iadd, 1) := by decide +kernel
theorem dX8_year_111 : decode cX8_year 111 = .ok (.bipush 15, 2) := by decide +kernel
theorem dX8_year_113 : decode cX8_year 113 = .ok (.if_icmp .ge 18, 3) := by decide +kernel
theorem dX8_year_116 : decode cX8_year 116 = .ok (.aload_n 0, 1) := by decide +kernel
theorem dX8_year_117 : decode cX8_year 117 = .ok (.getfield 22, 3) := by decide +kernel
theorem dX8_year_120 : decode cX8_year 120 = .ok (.iload 9, 2) := by decide +kernel
theorem dX8_year_122 : decode cX8_year 122 = .ok (.iaload, 1) := by decide +kernel
theorem dX8_year_123 : decode cX8_year 123 = .ok (.aload_n 0, 1) := by decide +kernel
theorem dX8_year_124 : decode cX8_year 124 = .ok (.getfield 80, 3) := by decide +kernel
theorem dX8_year_127 : decode cX8_year 127 = .ok (.iadd, 1) := by decide +kernel
theorem dX8_year_128 : decode cX8_year 128 = .ok (.goto 5, 3) := by decide +kernel
theorem dX8_year_131 : decode cX8_year 131 = .ok (.bipush 15, 2) := by decide +kernel
theorem dX8_year_133 : decode cX8_year 133 = .ok (.istore 11, 2) := by decide +kernel
theorem dX8_year_135 : decode cX8_year 135 = .ok (.aload_n 0, 1) := by decide +kernel
theorem dX8_year_136 : decode cX8_year 136 = .ok (.iload 9, 2) := by decide +kernel
theorem dX8_year_138 : decode cX8_year 138 = .ok (.iload 10, 2) := by decide +kernel
theorem dX8_year_140 : decode cX8_year 140 = .ok (.iload 11, 2) := by decide +kernel
theorem dX8_year_142 : decode cX8_year 142 = .ok (.invokevirtual 209, 3) := by decide +kernel
theorem dX8_year_145 : decode cX8_year 145 = .ok (.ifCond .ne 58, 3) := by decide +kernel
theorem dX8_year_148 : decode cX8_year 148 = .ok (.aload_n 0, 1) := by decide +kernel
theorem dX8_year_149 : decode cX8_year 149 = .ok (.iload 10, 2) := by decide +kernel
theorem dX8_year_151 : decode cX8_year 151 = .ok (.iload 11, 2) := by decide +kernel
theorem dX8_year_153 : decode cX8_year 153 = .ok (.invokevirtual 275, 3) := by decide +kernel
theorem dX8_year_156 : decode cX8_year 156 = .ok (.ifCond .eq 30, 3) := by decide +kernel
theorem dX8_year_159 : decode cX8_year 159 = .ok (.iinc 5 1, 3) := by decide +kernel
theorem dX8_year_162 : decode cX8_year 162 = .ok (.iload 7, 2) := by decide +kernel
theorem dX8_year_164 : decode cX8_year 164 = .ok (.aload_n 0, 1) := by decide +kernel
theorem dX8_year_165 : decode cX8_year 165 = .ok (.iload 10, 2) := by decide +kernel
theorem dX8_year_167 : decode cX8_year 167 = .ok (.iload 11, 2) := by decide +kernel
theorem dX8_year_169 : decode cX8_year 169 = .ok (.invokevirtual 185, 3) := by decide +kernel
theorem dX8_year_172 : decode cX8_year 172 = .ok (.ifCond .eq 7, 3) := by decide +kernel
theorem dX8_year_175 : decode cX8_year 175 = .ok (.iconst 0, 1) := by decide +kernel
theorem dX8_year_176 : decode cX8_year 176 = .ok (.goto 4, 3) := by decide +kernel
theorem dX8_year_179 : decode cX8_year 179 = .ok (.iconst 1, 1) := by decide +kernel
theorem dX8_year_180 : decode cX8_year 180 = .ok (.iadd, 1) := by decide +kernel
theorem dX8_year_181 : decode cX8_year 181 = .ok (.istore 7, 2) := by decide +kernel
theorem dX8_year_183 : decode cX8_year 183 = .ok (.goto 20, 3) := by decide +kernel
theorem dX8_year_186 : decode cX8_year 186 = .ok (.aload_n 0, 1) := by decide +kernel
theorem dX8_year_187 : decode cX8_year 187 = .ok (.getfield 25, 3) := by decide +kernel
theorem dX8_year_190 : decode cX8_year 190 = .ok (.iload 10, 2) := by decide +kernel
theorem dX8_year_192 : decode cX8_year 192 = .ok (.dup2, 1) := by decide +kernel
theorem dX8_year_193 : decode cX8_year 193 = .ok (.iaload, 1) := by decide +kernel
theorem dX8_year_194 : decode cX8_year 194 = .ok (.iload 11, 2) := by decide +kernel
theorem dX8_year_196 : decode cX8_year 196 = .ok (.iconst 2, 1) := by decide +kernel
theorem dX8_year_197 : decode cX8_year 197 = .ok (.idiv, 1) := by decide +kernel
theorem dX8_year_198 : decode cX8_year 198 = .ok (.isub, 1) := by decide +kernel
theorem dX8_year_199 : decode cX8_year 199 = .ok (.iastore, 1) := by decide +kernel
theorem dX8_year_200 : decode cX8_year 200 = .ok (.iinc 6 1, 3) := by decide +kernel
theorem dX8_year_203 : decode cX8_year 203 = .ok (.iload 8, 2) := by decide +kernel
theorem dX8_year_205 : decode cX8_year 205 = .ok (.iconst 3, 1) := by decide +kernel
theorem dX8_year_206 : decode cX8_year 206 = .ok (.irem, 1) := by decide +kernel
theorem dX8_year_207 : decode cX8_year 207 = .ok (.ifCond .ne 7, 3) := by decide +kernel
theorem dX8_year_210 : decode cX8_year 210 = .ok (.aload_n 0, 1) := by decide +kernel
theorem dX8_year_211 : decode cX8_year 211 = .ok (.invokevirtual 206, 3) := by decide +kernel
theorem dX8_year_214 : decode cX8_year 214 = .ok (.iinc 8 1, 3) := by decide +kernel
theorem dX8_year_217 : decode cX8_year 217 = .ok (.goto (-159), 3) := by decide +kernel
theorem dX8_year_220 : decode cX8_year 220 = .ok (.aload_n 0, 1) := by decide +kernel
theorem dX8_year_221 : decode cX8_year 221 = .ok (.invokevirtual 228, 3) := by decide +kernel
theorem dX8_year_224 : decode cX8_year 224 = .ok (.iload_n 3, 1) := by decide +kernel
theorem dX8_year_225 : decode cX8_year 225 = .ok (.ifCond .ne 8, 3) := by decide +kernel
theorem dX8_year_228 : decode cX8_year 228 = .ok (.iload 5, 2) := by decide +kernel
theorem dX8_year_230 : decode cX8_year 230 = .ok (.goto 15, 3) := by decide +kernel
theorem dX8_year_233 : decode cX8_year 233 = .ok (.iload_n 3, 1) := by decide +kernel
theorem dX8_year_234 : decode cX8_year 234 = .ok (.iconst 1, 1) := by decide +kernel
theorem dX8_year_235 : decode cX8_year 235 = .ok (.if_icmp .ne 8, 3) := by decide +kernel
theorem dX8_year_238 : decode cX8_year 238 = .ok (.iload 6, 2) := by decide +kernel
theorem dX8_year_240 : decode cX8_year 240 = .ok (.goto 5, 3) := by decide +kernel
theorem dX8_year_243 : decode cX8_year 243 = .ok (.iload 7, 2) := by decide +kernel
theorem dX8_year_245 : decode cX8_year 245 = .ok (.ireturn, 1) := by decide +kernel
theorem dX8_pass_0 : decode cX8_pass 0 = .ok (.aload_n 0, 1) := by decide +kernel
theorem dX8_pass_1 : decode cX8_pass 1 = .ok (.getfield 328, 3) := by decide +kernel
theorem dX8_pass_4 : decode cX8_pass 4 = .ok (.ifCond .eq 7, 3) := by decide +kernel
theorem dX8_pass_7 : decode cX8_pass 7 = .ok (.iload_n 1, 1) := by decide +kernel
theorem dX8_pass_8 : decode cX8_pass 8 = .ok (.goto 12, 3) := by decide +kernel
theorem dX8_pass_11 : decode cX8_pass 11 = .ok (.aload_n 0, 1) := by decide +kernel
theorem dX8_pass_12 : decode cX8_pass 12 = .ok (.getfield 73, 3) := by decide +kernel
theorem dX8_pass_15 : decode cX8_pass 15 = .ok (.aload_n 0, 1) := by decide +kernel
theorem dX8_pass_16 : decode cX8_pass 16 = .ok (.getfield 332, 3) := by decide +kernel
theorem dX8_pass_19 : decode cX8_pass 19 = .ok (.iaload, 1) := by decide +kernel
theorem dX8_pass_20 : decode cX8_pass 20 = .ok (.istore_n 2, 1) := by decide +kernel
theorem dX8_pass_21 : decode cX8_pass 21 = .ok (.aload_n 0, 1) := by decide +kernel
theorem dX8_pass_22 : decode cX8_pass 22 = .ok (.getfield 73, 3) := by decide +kernel
theorem dX8_pass_25 : decode cX8_pass 25 = .ok (.aload_n 0, 1) := by decide +kernel
theorem dX8_pass_26 : decode cX8_pass 26 = .ok (.getfield 332, 3) := by decide +kernel
theorem dX8_pass_29 : decode cX8_pass 29 = .ok (.iload_n 2, 1) := by decide +kernel
theorem dX8_pass_30 : decode cX8_pass 30 = .ok (.iastore, 1) := by decide +kernel
theorem dX8_pass_31 : decode cX8_pass 31 = .ok (.aload_n 0, 1) := by decide +kernel
theorem dX8_pass_32 : decode cX8_pass 32 = .ok (.dup, 1) := by decide +kernel
theorem dX8_pass_33 : decode cX8_pass 33 = .ok (.getfield 332, 3) := by decide +kernel
theorem dX8_pass_36 : decode cX8_pass 36 = .ok (.iconst 1, 1) := by decide +kernel
theorem dX8_pass_37 : decode cX8_pass 37 = .ok (.iadd, 1) := by decide +kernel
theorem dX8_pass_38 : decode cX8_pass 38 = .ok (.putfield 332, 3) := by decide +kernel
theorem dX8_pass_41 : decode cX8_pass 41 = .ok (.iload_n 2, 1) := by decide +kernel
theorem dX8_pass_42 : decode cX8_pass 42 = .ok (.ireturn, 1) := by decide +kernel
set_option maxRecDepth 20000 in
theorem ggX8_passAll_X8_pass : GoodIn wsX8_passAll wsX8_pass := goodIn_r _ [24, 25, 26, 27, 28, 29, 30, 31, 32, 33, 34, 35, 36, 37, 38, 39, 40, 41, 42, 43, 44, 45, 46, 47, 48, 49, 50, 51, 52, 53, 54, 55, 56, 57, 58, 59, 60, 61, 62, 63, 64, 65, 66, 67, 68, 69, 70, 71, 72, 73] (by decide +kernel) (by decide +kernel)
set_option maxRecDepth 20000 in
theorem gX8_passAll_X8_pass : GoodIn wsX8_passAll (wsV RX8 335 RX8 yX8_pass wsX8_pass) := goodIn_app (goodIn_of _ (by decide +kernel)) ggX8_passAll_X8_pass
theorem dX8_passAll_0 : decode cX8_passAll 0 = .ok (.aload_n 0, 1) := by decide +kernel
theorem dX8_passAll_1 : decode cX8_passAll 1 = .ok (.aload_n 0, 1) := by decide +kernel
theorem dX8_passAll_2 : decode cX8_passAll 2 = .ok (.aload_n 0, 1) := by decide +kernel
theorem dX8_passAll_3 : decode cX8_passAll 3 = .ok (.getfield 109, 3) := by decide +kernel
theorem dX8_passAll_6 : decode cX8_passAll 6 = .ok (.invokevirtual 335, 3) := by decide +kernel
theorem dX8_passAll_9 : decode cX8_passAll 9 = .ok (.putfield 109, 3) := by decide +kernel
theorem dX8_passAll_12 : decode cX8_passAll 12 = .ok (.aload_n 0, 1) := by decide +kernel
theorem dX8_passAll_13 : decode cX8_passAll 13 = .ok (.aload_n 0, 1) := by decide +kernel
theorem dX8_passAll_14 : decode cX8_passAll 14 = .ok (.aload_n 0, 1) := by decide +kernel
theorem dX8_passAll_15 : decode cX8_passAll 15 = .ok (.getfield 80, 3) := by decide +kernel
theorem dX8_passAll_18 : decode cX8_passAll 18 = .ok (.invokevirtual 335, 3) := by decide +kernel
theorem dX8_passAll_21 : decode cX8_passAll 21 = .ok (.putfield 80, 3) := by decide +kernel
theorem dX8_passAll_24 : decode cX8_passAll 24 = .ok (.aload_n 0, 1) := by decide +kernel
theorem dX8_passAll_25 : decode cX8_passAll 25 = .ok (.aload_n 0, 1) := by decide +kernel
theorem dX8_passAll_26 : decode cX8_passAll 26 = .ok (.aload_n 0, 1) := by decide +kernel
theorem dX8_passAll_27 : decode cX8_passAll 27 = .ok (.getfield 84, 3) := by decide +kernel
theorem dX8_passAll_30 : decode cX8_passAll 30 = .ok (.invokevirtual 335, 3) := by decide +kernel
theorem dX8_passAll_33 : decode cX8_passAll 33 = .ok (.putfield 84, 3) := by decide +kernel
theorem dX8_passAll_36 : decode cX8_passAll 36 = .ok (.aload_n 0, 1) := by decide +kernel
theorem dX8_passAll_37 : decode cX8_passAll 37 = .ok (.aload_n 0, 1) := by decide +kernel
theorem dX8_passAll_38 : decode cX8_passAll 38 = .ok (.aload_n 0, 1) := by decide +kernel
theorem dX8_passAll_39 : decode cX8_passAll 39 = .ok (.getfield 87, 3) := by decide +kernel
theorem dX8_passAll_42 : decode cX8_passAll 42 = .ok (.invokevirtual 335, 3) := by decide +kernel
theorem dX8_passAll_45 : decode cX8_passAll 45 = .ok (.putfield 87, 3) := by decide +kernel
theorem dX8_passAll_48 : decode cX8_passAll 48 = .ok (.aload_n 0, 1) := by decide +kernel
theorem dX8_passAll_49 : decode cX8_passAll 49 = .ok (.aload_n 0, 1) := by decide +kernel
theorem dX8_passAll_50 : decode cX8_passAll 50 = .ok (.aload_n 0, 1) := by decide +kernel
theorem dX8_passAll_51 : decode cX8_passAll 51 = .ok (.getfield 90, 3) := by decide +kernel
theorem dX8_passAll_54 : decode cX8_passAll 54 = .ok (.invokevirtual 335, 3) := by decide +kernel
theorem dX8_passAll_57 : decode cX8_passAll 57 = .ok (.putfield 90, 3) := by decide +kernel
theorem dX8_passAll_60 : decode cX8_passAll 60 = .ok (.aload_n 0, 1) := by decide +kernel
theorem dX8_passAll_61 : decode cX8_passAll 61 = .ok (.aload_n 0, 1) := by decide +kernel
theorem dX8_passAll_62 : decode cX8_passAll 62 = .ok (.aload_n 0, 1) := by decide +kernel
theorem dX8_passAll_63 : decode cX8_passAll 63 = .ok (.getfield 93, 3) := by decide +kernel
theorem dX8_passAll_66 : decode cX8_passAll 66 = .ok (.invokevirtual 335, 3) := by decide +kernel
theorem dX8_passAll_69 : decode cX8_passAll 69 = .ok (.putfield 93, 3) := by decide +kernel
theorem dX8_passAll_72 : decode cX8_passAll 72 = .ok (.aload_n 0, 1) := by decide +kernel
theorem dX8_passAll_73 : decode cX8_passAll 73 = .ok (.aload_n 0, 1) := by decide +kernel
theorem dX8_passAll_74 : decode cX8_passAll 74 = .ok (.aload_n 0, 1) := by decide +kernel
theorem dX8_passAll_75 : decode cX8_passAll 75 = .ok (.getfield 132, 3) := by decide +kernel
theorem dX8_passAll_78 : decode cX8_passAll 78 = .ok (.invokevirtual 335, 3) := by decide +kernel
theorem dX8_passAll_81 : decode cX8_passAll 81 = .ok (.putfield 132, 3) := by decide +kernel
theorem dX8_passAll_84 : decode cX8_passAll 84 = .ok (.aload_n 0, 1) := by decide +kernel
theorem dX8_passAll_85 : decode cX8_passAll 85 = .ok (.aload_n 0, 1) := by decide +kernel
theorem dX8_passAll_86 : decode cX8_passAll 86 = .ok (.aload_n 0, 1) := by decide +kernel
theorem dX8_passAll_87 : decode cX8_passAll 87 = .ok (.getfield 96, 3) := by decide +kernel
theorem dX8_passAll_90 : decode cX8_passAll 90 = .ok (.invokevirtual 335, 3) := by decide +kernel
theorem dX8_passAll_93 : decode cX8_passAll 93 = .ok (.putfield 96, 3) := by decide +kernel
theorem dX8_passAll_96 : decode cX8_passAll 96 = .ok (.aload_n 0, 1) := by decide +kernel
theorem dX8_passAll_97 : decode cX8_passAll 97 = .ok (.aload_n 0, 1) := by decide +kernel
theorem dX8_passAll_98 : decode cX8_passAll 98 = .ok (.aload_n 0, 1) := by decide +kernel
theorem dX8_passAll_99 : decode cX8_passAll 99 = .ok (.getfield 322, 3) := by decide +kernel
theorem dX8_passAll_102 : decode cX8_passAll 102 = .ok (.invokevirtual 335, 3) := by decide +kernel
theorem dX8_passAll_105 : decode cX8_passAll 105 = .ok (.putfield 322, 3) := by decide +kernel
theorem dX8_passAll_108 : decode cX8_passAll 108 = .ok (.iconst 0, 1) := by decide +kernel
theorem dX8_passAll_109 : decode cX8_passAll 109 = .ok (.istore_n 1, 1) := by decide +kernel
theorem dX8_passAll_110 : decode cX8_passAll 110 = .ok (.iload_n 1, 1) := by decide +kernel
theorem dX8_passAll_111 : decode cX8_passAll 111 = .ok (.bipush 6, 2) := by decide +kernel
theorem dX8_passAll_113 : decode cX8_passAll 113 = .ok (.if_icmp .ge 169, 3) := by decide +kernel
theorem dX8_passAll_116 : decode cX8_passAll 116 = .ok (.aload_n 0, 1) := by decide +kernel
theorem dX8_passAll_117 : decode cX8_passAll 117 = .ok (.getfield 7, 3) := by decide +kernel
theorem dX8_passAll_120 : decode cX8_passAll 120 = .ok (.iload_n 1, 1) := by decide +kernel
theorem dX8_passAll_121 : decode cX8_passAll 121 = .ok (.aload_n 0, 1) := by decide +kernel
theorem dX8_passAll_122 : decode cX8_passAll 122 = .ok (.aload_n 0, 1) := by decide +kernel
theorem dX8_passAll_123 : decode cX8_passAll 123 = .ok (.getfield 7, 3) := by decide +kernel
theorem dX8_passAll_126 : decode cX8_passAll 126 = .ok (.iload_n 1, 1) := by decide +kernel
theorem dX8_passAll_127 : decode cX8_passAll 127 = .ok (.iaload, 1) := by decide +kernel
theorem dX8_passAll_128 : decode cX8_passAll 128 = .ok (.invokevirtual 335, 3) := by decide +kernel
theorem dX8_passAll_131 : decode cX8_passAll 131 = .ok (.iastore, 1) := by decide +kernel
theorem dX8_passAll_132 : decode cX8_passAll 132 = .ok (.aload_n 0, 1) := by decide +kernel
theorem dX8_passAll_133 : decode cX8_passAll 133 = .ok (.getfield 13, 3) := by decide +kernel
theorem dX8_passAll_136 : decode cX8_passAll 136 = .ok (.iload_n 1, 1) := by decide +kernel
theorem dX8_passAll_137 : decode cX8_passAll 137 = .ok (.aload_n 0, 1) := by decide +kernel
theorem dX8_passAll_138 : decode cX8_passAll 138 = .ok (.aload_n 0, 1) := by decide +kernel
theorem dX8_passAll_139 : decode cX8_passAll 139 = .ok (.getfield 13, 3) := by decide +kernel
theorem dX8_passAll_142 : decode cX8_passAll 142 = .ok (.iload_n 1, 1) := by decide +kernel
theorem dX8_passAll_143 : decode cX8_passAll 143 = .ok (.iaload, 1) := by decide +kernel
theorem dX8_passAll_144 : decode cX8_passAll 144 = .ok (.invokevirtual 335, 3) := by decide +kernel
theorem dX8_passAll_147 : decode cX8_passAll 147 = .ok (.iastore, 1) := by decide +kernel
theorem dX8_passAll_148 : decode cX8_passAll 148 = .ok (.aload_n 0, 1) := by decide +kernel
theorem dX8_passAll_149 : decode cX8_passAll 149 = .ok (.getfield 16, 3) := by decide +kernel
theorem dX8_passAll_152 : decode cX8_passAll 152 = .ok (.iload_n 1, 1) := by decide +kernel
theorem dX8_passAll_153 : decode cX8_passAll 153 = .ok (.aload_n 0, 1) := by decide +kernel
theorem dX8_passAll_154 : decode cX8_passAll 154 = .ok (.aload_n 0, 1) := by decide +kernel
theorem dX8_passAll_155 : decode cX8_passAll 155 = .ok (.getfield 16, 3) := by decide +kernel
theorem dX8_passAll_158 : decode cX8_passAll 158 = .ok (.iload_n 1, 1) := by decide +kernel
theorem dX8_passAll_159 : decode cX8_passAll 159 = .ok (.iaload, 1) := by decide +kernel
theorem dX8_passAll_160 : decode cX8_passAll 160 = .ok (.invokevirtual 335, 3) := by decide +kernel
theorem dX8_passAll_163 : decode cX8_passAll 163 = .ok (.iastore, 1) := by decide +kernel
theorem dX8_passAll_164 : decode cX8_passAll 164 = .ok (.aload_n 0, 1) := by decide +kernel
theorem dX8_passAll_165 : decode cX8_passAll 165 = .ok (.getfield 19, 3) := by decide +kernel
theorem dX8_passAll_168 : decode cX8_passAll 168 = .ok (.iload_n 1, 1) := by decide +kernel
theorem dX8_passAll_169 : decode cX8_passAll 169 = .ok (.aload_n 0, 1) := by decide +kernel
theorem dX8_passAll_170 : decode cX8_passAll 170 = .ok (.aload_n 0, 1) := by decide +kernel
theorem dX8_passAll_171 : decode cX8_passAll 171 = .ok (.getfield 19, 3) := by decide +kernel
theorem dX8_passAll_174 : decode cX8_passAll 174 = .ok (.iload_n 1, 1) := by decide +kernel
theorem dX8_passAll_175 : decode cX8_passAll 175 = .ok (.iaload, 1) := by decide +kernel
theorem dX8_passAll_176 : decode cX8_passAll 176 = .ok (.invokevirtual 335, 3) := by decide +kernel
theorem dX8_passAll_179 : decode cX8_passAll 179 = .ok (.iastore, 1) := by decide +kernel
theorem dX8_passAll_180 : decode cX8_passAll 180 = .ok (.aload_n 0, 1) := by decide +kernel
theorem dX8_passAll_181 : decode cX8_passAll 181 = .ok (.getfield 22, 3) := by decide +kernel
theorem dX8_passAll_184 : decode cX8_passAll 184 = .ok (.iload_n 1, 1) := by decide +kernel
theorem dX8_passAll_185 : decode cX8_passAll 185 = .ok (.aload_n 0, 1) := by decide +kernel
theorem dX8_passAll_186 : decode cX8_passAll 186 = .ok (.aload_n 0, 1) := by decide +kernel
theorem dX8_passAll_187 : decode cX8_passAll 187 = .ok (.getfield 22, 3) := by decide +kernel
theorem dX8_passAll_190 : decode cX8_passAll 190 = .ok (.iload_n 1, 1) := by decide +kernel
theorem dX8_passAll_191 : decode cX8_passAll 191 = .ok (.iaload, 1) := by decide +kernel
theorem dX8_passAll_192 : decode cX8_passAll 192 = .ok (.invokevirtual 335, 3) := by decide +kernel
theorem dX8_passAll_195 : decode cX8_passAll 195 = .ok (.iastore, 1) := by decide +kernel
theorem dX8_passAll_196 : decode cX8_passAll 196 = .ok (.aload_n 0, 1) := by decide +kernel
theorem dX8_passAll_197 : decode cX8_passAll 197 = .ok (.getfield 25, 3) := by decide +kernel
theorem dX8_passAll_200 : decode cX8_passAll 200 = .ok (.iload_n 1, 1) := by decide +kernel
theorem dX8_passAll_201 : decode cX8_passAll 201 = .ok (.aload_n 0, 1) := by decide +kernel
theorem dX8_passAll_202 : decode cX8_passAll 202 = .ok (.aload_n 0, 1) := by decide +kernel
theorem dX8_passAll_203 : decode cX8_passAll 203 = .ok (.getfield 25, 3) := by decide +kernel
theorem dX8_passAll_206 : decode cX8_passAll 206 = .ok (.iload_n 1, 1) := by decide +kernel
theorem dX8_passAll_207 : decode cX8_passAll 207 = .ok (.iaload, 1) := by decide +kernel
theorem dX8_passAll_208 : decode cX8_passAll 208 = .ok (.invokevirtual 335, 3) := by decide +kernel
theorem dX8_passAll_211 : decode cX8_passAll 211 = .ok (.iastore, 1) := by decide +kernel
theorem dX8_passAll_212 : decode cX8_passAll 212 = .ok (.aload_n 0, 1) := by decide +kernel
theorem dX8_passAll_213 : decode cX8_passAll 213 = .ok (.getfield 28, 3) := by decide +kernel
theorem dX8_passAll_216 : decode cX8_passAll 216 = .ok (.iload_n 1, 1) := by decide +kernel
theorem dX8_passAll_217 : decode cX8_passAll 217 = .ok (.aload_n 0, 1) := by decide +kernel
theorem dX8_passAll_218 : decode cX8_passAll 218 = .ok (.aload_n 0, 1) := by decide +kernel
theorem dX8_passAll_219 : decode cX8_passAll 219 = .ok (.getfield 28, 3) := by decide +kernel
theorem dX8_passAll_222 : decode cX8_passAll 222 = .ok (.iload_n 1, 1) := by decide +kernel
theorem dX8_passAll_223 : decode cX8_passAll 223 = .ok (.iaload, 1) := by decide +kernel
theorem dX8_passAll_224 : decode cX8_passAll 224 = .ok (.invokevirtual 335, 3) := by decide +kernel
theorem dX8_passAll_227 : decode cX8_passAll 227 = .ok (.iastore, 1) := by decide +kernel
theorem dX8_passAll_228 : decode cX8_passAll 228 = .ok (.aload_n 0, 1) := by decide +kernel
theorem dX8_passAll_229 : decode cX8_passAll 229 = .ok (.getfield 31, 3) := by decide +kernel
theorem dX8_passAll_232 : decode cX8_passAll 232 = .ok (.iload_n 1, 1) := by decide +kernel
theorem dX8_passAll_233 : decode cX8_passAll 233 = .ok (.aload_n 0, 1) := by decide +kernel
theorem dX8_passAll_234 : decode cX8_passAll 234 = .ok (.aload_n 0, 1) := by decide +kernel
theorem dX8_passAll_235 : decode cX8_passAll 235 = .ok (.getfield 31, 3) := by decide +kernel
theorem dX8_passAll_238 : decode cX8_passAll 238 = .ok (.iload_n 1, 1) := by decide +kernel
theorem dX8_passAll_239 : decode cX8_passAll 239 = .ok (.iaload, 1) := by decide +kernel
theorem dX8_passAll_240 : decode cX8_passAll 240 = .ok (.invokevirtual 335, 3) := by decide +kernel
theorem dX8_passAll_243 : decode cX8_passAll 243 = .ok (.iastore, 1) := by decide +kernel
theorem dX8_passAll_244 : decode cX8_passAll 244 = .ok (.aload_n 0, 1) := by decide +kernel
theorem dX8_passAll_245 : decode cX8_passAll 245 = .ok (.getfield 34, 3) := by decide +kernel
theorem dX8_passAll_248 : decode cX8_passAll 248 = .ok (.iload_n 1, 1) := by decide +kernel
theorem dX8_passAll_249 : decode cX8_passAll 249 = .ok (.aload_n 0, 1) := by decide +kernel
theorem dX8_passAll_250 : decode cX8_passAll 250 = .ok (.aload_n 0, 1) := by decide +kernel
theorem dX8_passAll_251 : decode cX8_passAll 251 = .ok (.getfield 34, 3) := by decide +kernel
theorem dX8_passAll_254 : decode cX8_passAll 254 = .ok (.iload_n 1, 1) := by decide +kernel
theorem dX8_passAll_255 : decode cX8_passAll 255 = .ok (.iaload, 1) := by decide +kernel
theorem dX8_passAll_256 : decode cX8_passAll 256 = .ok (.invokevirtual 335, 3) := by decide +kernel
theorem dX8_passAll_259 : decode cX8_passAll 259 = .ok (.iastore, 1) := by decide +kernel
theorem dX8_passAll_260 : decode cX8_passAll 260 = .ok (.aload_n 0, 1) := by decide +kernel
theorem dX8_passAll_261 : decode cX8_passAll 261 = .ok (.getfield 37, 3) := by decide +kernel
theorem dX8_passAll_264 : decode cX8_passAll 264 = .ok (.iload_n 1, 1) := by decide +kernel
theorem dX8_passAll_265 : decode cX8_passAll 265 = .ok (.aload_n 0, 1) := by decide +kernel
theorem dX8_passAll_266 : decode cX8_passAll 266 = .ok (.aload_n 0, 1) := by decide +kernel
theorem dX8_passAll_267 : decode cX8_passAll 267 = .ok (.getfield 37, 3) := by decide +kernel
theorem dX8_passAll_270 : decode cX8_passAll 270 = .ok (.iload_n 1, 1) := by decide +kernel
theorem dX8_passAll_271 : decode cX8_passAll 271 = .ok (.iaload, 1) := by decide +kernel
theorem dX8_passAll_272 : decode cX8_passAll 272 = .ok (.invokevirtual 335, 3) := by decide +kernel
theorem dX8_passAll_275 : decode cX8_passAll 275 = .ok (.iastore, 1) := by decide +kernel
theorem dX8_passAll_276 : decode cX8_passAll 276 = .ok (.iinc 1 1, 3) := by decide +kernel
theorem dX8_passAll_279 : decode cX8_passAll 279 = .ok (.goto (-169), 3) := by decide +kernel
theorem dX8_passAll_282 : decode cX8_passAll 282 = .ok (.return_, 1) := by decide +kernel
set_option maxRecDepth 20000 in
theorem ggX8_image_X8_in : GoodIn wsX8_image wsX8_in := goodIn_r _ [7] (by decide +kernel) (by decide +kernel)
set_option maxRecDepth 20000 in
theorem gX8_image_X8_in : GoodIn wsX8_image (va_wsS RX8 101 yX8_in wsX8_in) := goodIn_app (goodIn_of _ (by decide +kernel)) ggX8_image_X8_in
set_option maxRecDepth 20000 in
theorem ggX8_image_X8_passAll : GoodIn wsX8_image wsX8_passAll := goodIn_r _ [11, 12, 13, 14, 15, 16, 17, 18, 19, 20, 21, 22, 23, 24, 25, 26, 27, 28, 29, 30, 31, 32, 33, 6, 34, 2, 35, 1, 36, 37, 38, 39, 40, 41, 42, 43, 44, 45, 46, 47, 48, 49, 50, 51, 52, 53, 54, 55, 56, 57, 58, 59, 60, 61, 62, 63, 64, 65, 66, 67, 68, 69, 70, 71, 72, 73, 74, 75, 76, 77, 78, 79, 80, 81] (by decide +kernel) (by decide +kernel)
set_option maxRecDepth 20000 in
theorem gX8_image_X8_passAll : GoodIn wsX8_image (wsV RX8 338 RX8 yX8_passAll wsX8_passAll) := goodIn_app (goodIn_of _ (by decide +kernel)) ggX8_image_X8_passAll
theorem dX8_image_0 : decode cX8_image 0 = .ok (.iload_n 1, 1) := by decide +kernel
theorem dX8_image_1 : decode cX8_image 1 = .ok (.i2l, 1) := by decide +kernel
theorem dX8_image_2 : decode cX8_image 2 = .ok (.lconst 0, 1) := by decide +kernel
theorem dX8_image_3 : decode cX8_image 3 = .ok (.lconst 1, 1) := by decide +kernel
theorem dX8_image_4 : decode cX8_image 4 = .ok (.invokestatic 101, 3) := by decide +kernel
theorem dX8_image_7 : decode cX8_image 7 = .ok (.ifCond .ne 6, 3) := by decide +kernel
theorem dX8_image_10 : decode cX8_image 10 = .ok (.bipush (-2), 2) := by decide +kernel
theorem dX8_image_12 : decode cX8_image 12 = .ok (.ireturn, 1) := by decide +kernel
theorem dX8_image_13 : decode cX8_image 13 = .ok (.aload_n 0, 1) := by decide +kernel
theorem dX8_image_14 : decode cX8_image 14 = .ok (.bipush 100, 2) := by decide +kernel
theorem dX8_image_16 : decode cX8_image 16 = .ok (.iload_n 1, 1) := by decide +kernel
theorem dX8_image_17 : decode cX8_image 17 = .ok (.imul, 1) := by decide +kernel
theorem dX8_image_18 : decode cX8_image 18 = .ok (.putfield 332, 3) := by decide +kernel
theorem dX8_image_21 : decode cX8_image 21 = .ok (.aload_n 0, 1) := by decide +kernel
theorem dX8_image_22 : decode cX8_image 22 = .ok (.iconst 1, 1) := by decide +kernel
theorem dX8_image_23 : decode cX8_image 23 = .ok (.putfield 328, 3) := by decide +kernel
theorem dX8_image_26 : decode cX8_image 26 = .ok (.aload_n 0, 1) := by decide +kernel
theorem dX8_image_27 : decode cX8_image 27 = .ok (.invokevirtual 338, 3) := by decide +kernel
theorem dX8_image_30 : decode cX8_image 30 = .ok (.aload_n 0, 1) := by decide +kernel
theorem dX8_image_31 : decode cX8_image 31 = .ok (.getfield 76, 3) := by decide +kernel
theorem dX8_image_34 : decode cX8_image 34 = .ok (.iload_n 1, 1) := by decide +kernel
theorem dX8_image_35 : decode cX8_image 35 = .ok (.iconst 1, 1) := by decide +kernel
theorem dX8_image_36 : decode cX8_image 36 = .ok (.bastore, 1) := by decide +kernel
theorem dX8_image_37 : decode cX8_image 37 = .ok (.iconst 1, 1) := by decide +kernel
theorem dX8_image_38 : decode cX8_image 38 = .ok (.ireturn, 1) := by decide +kernel
set_option maxRecDepth 20000 in
theorem ggX8_restore_X8_in : GoodIn wsX8_restore wsX8_in := goodIn_r _ [7] (by decide +kernel) (by decide +kernel)
set_option maxRecDepth 20000 in
theorem gX8_restore_X8_in : GoodIn wsX8_restore (va_wsS RX8 101 yX8_in wsX8_in) := goodIn_app (goodIn_of _ (by decide +kernel)) ggX8_restore_X8_in
set_option maxRecDepth 20000 in
theorem ggX8_restore_X8_passAll : GoodIn wsX8_restore wsX8_passAll := goodIn_r _ [11, 12, 13, 14, 15, 16, 17, 18, 19, 20, 21, 22, 23, 24, 25, 26, 27, 28, 29, 30, 31, 32, 33, 6, 34, 3, 35, 2, 36, 37, 38, 39, 40, 41, 42, 43, 44, 45, 46, 47, 48, 49, 50, 51, 52, 53, 54, 55, 56, 57, 58, 59, 60, 61, 62, 63, 64, 65, 66, 67, 68, 69, 70, 71, 72, 73, 74, 75, 76, 77, 78, 79, 80, 81] (by decide +kernel) (by decide +kernel)
set_option maxRecDepth 20000 in
theorem gX8_restore_X8_passAll : GoodIn wsX8_restore (wsV RX8 338 RX8 yX8_passAll wsX8_passAll) := goodIn_app (goodIn_of _ (by decide +kernel)) ggX8_restore_X8_passAll
theorem dX8_restore_0 : decode cX8_restore 0 = .ok (.iload_n 1, 1) := by decide +kernel
theorem dX8_restore_1 : decode cX8_restore 1 = .ok (.i2l, 1) := by decide +kernel
theorem dX8_restore_2 : decode cX8_restore 2 = .ok (.lconst 0, 1) := by decide +kernel
theorem dX8_restore_3 : decode cX8_restore 3 = .ok (.lconst 1, 1) := by decide +kernel
theorem dX8_restore_4 : decode cX8_restore 4 = .ok (.invokestatic 101, 3) := by decide +kernel
theorem dX8_restore_7 : decode cX8_restore 7 = .ok (.ifCond .ne 6, 3) := by decide +kernel
theorem dX8_restore_10 : decode cX8_restore 10 = .ok (.bipush (-2), 2) := by decide +kernel
theorem dX8_restore_12 : decode cX8_restore 12 = .ok (.ireturn, 1) := by decide +kernel
theorem dX8_restore_13 : decode cX8_restore 13 = .ok (.aload_n 0, 1) := by decide +kernel
theorem dX8_restore_14 : decode cX8_restore 14 = .ok (.getfield 76, 3) := by decide +kernel
theorem dX8_restore_17 : decode cX8_restore 17 = .ok (.iload_n 1, 1) := by decide +kernel
theorem dX8_restore_18 : decode cX8_restore 18 = .ok (.baload, 1) := by decide +kernel
theorem dX8_restore_19 : decode cX8_restore 19 = .ok (.ifCond .ne 6, 3) := by decide +kernel
theorem dX8_restore_22 : decode cX8_restore 22 = .ok (.bipush (-3), 2) := by decide +kernel
theorem dX8_restore_24 : decode cX8_restore 24 = .ok (.ireturn, 1) := by decide +kernel
theorem dX8_restore_25 : decode cX8_restore 25 = .ok (.aload_n 0, 1) := by decide +kernel
theorem dX8_restore_26 : decode cX8_restore 26 = .ok (.bipush 100, 2) := by decide +kernel
theorem dX8_restore_28 : decode cX8_restore 28 = .ok (.iload_n 1, 1) := by decide +kernel
theorem dX8_restore_29 : decode cX8_restore 29 = .ok (.imul, 1) := by decide +kernel
theorem dX8_restore_30 : decode cX8_restore 30 = .ok (.putfield 332, 3) := by decide +kernel
theorem dX8_restore_33 : decode cX8_restore 33 = .ok (.aload_n 0, 1) := by decide +kernel
theorem dX8_restore_34 : decode cX8_restore 34 = .ok (.iconst 0, 1) := by decide +kernel
theorem dX8_restore_35 : decode cX8_restore 35 = .ok (.putfield 328, 3) := by decide +kernel
theorem dX8_restore_38 : decode cX8_restore 38 = .ok (.aload_n 0, 1) := by decide +kernel
theorem dX8_restore_39 : decode cX8_restore 39 = .ok (.invokevirtual 338, 3) := by decide +kernel
theorem dX8_restore_42 : decode cX8_restore 42 = .ok (.iconst 1, 1) := by decide +kernel
theorem dX8_restore_43 : decode cX8_restore 43 = .ok (.ireturn, 1) := by decide +kernel
set_option maxRecDepth 20000 in
theorem ggX8_told_X8_in : GoodIn wsX8_told wsX8_in := goodIn_r _ [15] (by decide +kernel) (by decide +kernel)
set_option maxRecDepth 20000 in
theorem gX8_told_X8_in : GoodIn wsX8_told (va_wsS RX8 101 yX8_in wsX8_in) := goodIn_app (goodIn_of _ (by decide +kernel)) ggX8_told_X8_in
set_option maxRecDepth 20000 in
theorem ggX8_told_X8_isThere : GoodIn wsX8_told wsX8_isThere := goodIn_r _ [19, 10, 20, 21, 14, 22, 23, 12, 13, 15, 35, 36, 37, 38, 39, 40, 41, 42, 43, 44, 45, 46, 47, 48, 49, 50, 51, 52, 53, 54, 55, 56, 57, 58, 59, 60, 61, 62, 63, 64, 65, 66, 67, 68, 69, 70, 71, 72, 73, 74, 75, 76, 77, 78, 79, 80] (by decide +kernel) (by decide +kernel)
set_option maxRecDepth 20000 in
theorem gX8_told_X8_isThere : GoodIn wsX8_told (wsV RX8 123 RX8 yX8_isThere wsX8_isThere) := goodIn_app (goodIn_of _ (by decide +kernel)) ggX8_told_X8_isThere
set_option maxRecDepth 20000 in
theorem ggX8_told_X8_toldSet : GoodIn wsX8_told wsX8_toldSet := goodIn_r _ [27, 28, 29, 30, 31, 32, 33, 34, 35, 36, 37, 38, 39, 40, 41, 42, 43, 44, 45, 46, 47, 48, 49, 50, 51, 52, 53, 54, 55, 56, 57, 58, 59, 60, 61, 62, 63, 64, 65, 66, 67, 68, 69, 70, 71, 72, 73, 74, 75, 76, 77, 78, 79, 80] (by decide +kernel) (by decide +kernel)
set_option maxRecDepth 20000 in
theorem gX8_told_X8_toldSet : GoodIn wsX8_told (wsV RX8 139 RX8 yX8_toldSet wsX8_toldSet) := goodIn_app (goodIn_of _ (by decide +kernel)) ggX8_told_X8_toldSet
theorem dX8_told_0 : decode cX8_told 0 = .ok (.iload_n 1, 1) := by decide +kernel
theorem dX8_told_1 : decode cX8_told 1 = .ok (.i2l, 1) := by decide +kernel
theorem dX8_told_2 : decode cX8_told 2 = .ok (.ldc2_w 242, 3) := by decide +kernel
theorem dX8_told_5 : decode cX8_told 5 = .ok (.ldc2_w 341, 3) := by decide +kernel
theorem dX8_told_8 : decode cX8_told 8 = .ok (.invokestatic 101, 3) := by decide +kernel
theorem dX8_told_11 : decode cX8_told 11 = .ok (.ifCond .eq 86, 3) := by decide +kernel
theorem dX8_told_14 : decode cX8_told 14 = .ok (.iload_n 1, 1) := by decide +kernel
theorem dX8_told_15 : decode cX8_told 15 = .ok (.bipush 10, 2) := by decide +kernel
theorem dX8_told_17 : decode cX8_told 17 = .ok (.idiv, 1) := by decide +kernel
theorem dX8_told_18 : decode cX8_told 18 = .ok (.iconst 1, 1) := by decide +kernel
theorem dX8_told_19 : decode cX8_told 19 = .ok (.isub, 1) := by decide +kernel
theorem dX8_told_20 : decode cX8_told 20 = .ok (.istore_n 2, 1) := by decide +kernel
theorem dX8_told_21 : decode cX8_told 21 = .ok (.iload_n 1, 1) := by decide +kernel
theorem dX8_told_22 : decode cX8_told 22 = .ok (.bipush 10, 2) := by decide +kernel
theorem dX8_told_24 : decode cX8_told 24 = .ok (.irem, 1) := by decide +kernel
theorem dX8_told_25 : decode cX8_told 25 = .ok (.istore_n 3, 1) := by decide +kernel
theorem dX8_told_26 : decode cX8_told 26 = .ok (.aload_n 0, 1) := by decide +kernel
theorem dX8_told_27 : decode cX8_told 27 = .ok (.iload_n 2, 1) := by decide +kernel
theorem dX8_told_28 : decode cX8_told 28 = .ok (.invokevirtual 123, 3) := by decide +kernel
theorem dX8_told_31 : decode cX8_told 31 = .ok (.ifCond .ne 8, 3) := by decide +kernel
theorem dX8_told_34 : decode cX8_told 34 = .ok (.bipush (-2), 2) := by decide +kernel
theorem dX8_told_36 : decode cX8_told 36 = .ok (.goto 60, 3) := by decide +kernel
theorem dX8_told_39 : decode cX8_told 39 = .ok (.iload_n 3, 1) := by decide +kernel
theorem dX8_told_40 : decode cX8_told 40 = .ok (.ifCond .ne 12, 3) := by decide +kernel
theorem dX8_told_43 : decode cX8_told 43 = .ok (.aload_n 0, 1) := by decide +kernel
theorem dX8_told_44 : decode cX8_told 44 = .ok (.getfield 7, 3) := by decide +kernel
theorem dX8_told_47 : decode cX8_told 47 = .ok (.iload_n 2, 1) := by decide +kernel
theorem dX8_told_48 : decode cX8_told 48 = .ok (.iaload, 1) := by decide +kernel
theorem dX8_told_49 : decode cX8_told 49 = .ok (.goto 47, 3) := by decide +kernel
theorem dX8_told_52 : decode cX8_told 52 = .ok (.iload_n 3, 1) := by decide +kernel
theorem dX8_told_53 : decode cX8_told 53 = .ok (.iconst 1, 1) := by decide +kernel
theorem dX8_told_54 : decode cX8_told 54 = .ok (.if_icmp .ne 12, 3) := by decide +kernel
theorem dX8_told_57 : decode cX8_told 57 = .ok (.aload_n 0, 1) := by decide +kernel
theorem dX8_told_58 : decode cX8_told 58 = .ok (.getfield 13, 3) := by decide +kernel
theorem dX8_told_61 : decode cX8_told 61 = .ok (.iload_n 2, 1) := by decide +kernel
theorem dX8_told_62 : decode cX8_told 62 = .ok (.iaload, 1) := by decide +kernel
theorem dX8_told_63 : decode cX8_told 63 = .ok (.goto 33, 3) := by decide +kernel
theorem dX8_told_66 : decode cX8_told 66 = .ok (.iload_n 3, 1) := by decide +kernel
theorem dX8_told_67 : decode cX8_told 67 = .ok (.iconst 2, 1) := by decide +kernel
theorem dX8_told_68 : decode cX8_told 68 = .ok (.if_icmp .ne 12, 3) := by decide +kernel
theorem dX8_told_71 : decode cX8_told 71 = .ok (.aload_n 0, 1) := by decide +kernel
theorem dX8_told_72 : decode cX8_told 72 = .ok (.getfield 16, 3) := by decide +kernel
theorem dX8_told_75 : decode cX8_told 75 = .ok (.iload_n 2, 1) := by decide +kernel
theorem dX8_told_76 : decode cX8_told 76 = .ok (.iaload, 1) := by decide +kernel
theorem dX8_told_77 : decode cX8_told 77 = .ok (.goto 19, 3) := by decide +kernel
theorem dX8_told_80 : decode cX8_told 80 = .ok (.iload_n 3, 1) := by decide +kernel
theorem dX8_told_81 : decode cX8_told 81 = .ok (.iconst 3, 1) := by decide +kernel
theorem dX8_told_82 : decode cX8_told 82 = .ok (.if_icmp .ne 12, 3) := by decide +kernel
theorem dX8_told_85 : decode cX8_told 85 = .ok (.aload_n 0, 1) := by decide +kernel
theorem dX8_told_86 : decode cX8_told 86 = .ok (.getfield 19, 3) := by decide +kernel
theorem dX8_told_89 : decode cX8_told 89 = .ok (.iload_n 2, 1) := by decide +kernel
theorem dX8_told_90 : decode cX8_told 90 = .ok (.iaload, 1) := by decide +kernel
theorem dX8_told_91 : decode cX8_told 91 = .ok (.goto 5, 3) := by decide +kernel
theorem dX8_told_94 : decode cX8_told 94 = .ok (.bipush (-2), 2) := by decide +kernel
theorem dX8_told_96 : decode cX8_told 96 = .ok (.ireturn, 1) := by decide +kernel
theorem dX8_told_97 : decode cX8_told 97 = .ok (.iload_n 1, 1) := by decide +kernel
theorem dX8_told_98 : decode cX8_told 98 = .ok (.i2l, 1) := by decide +kernel
theorem dX8_told_99 : decode cX8_told 99 = .ok (.ldc2_w 231, 3) := by decide +kernel
theorem dX8_told_102 : decode cX8_told 102 = .ok (.ldc2_w 343, 3) := by decide +kernel
theorem dX8_told_105 : decode cX8_told 105 = .ok (.invokestatic 101, 3) := by decide +kernel
theorem dX8_told_108 : decode cX8_told 108 = .ok (.ifCond .eq 11, 3) := by decide +kernel
theorem dX8_told_111 : decode cX8_told 111 = .ok (.aload_n 0, 1) := by decide +kernel
theorem dX8_told_112 : decode cX8_told 112 = .ok (.iload_n 1, 1) := by decide +kernel
theorem dX8_told_113 : decode cX8_told 113 = .ok (.iconst 2, 1) := by decide +kernel
theorem dX8_told_114 : decode cX8_told 114 = .ok (.isub, 1) := by decide +kernel
theorem dX8_told_115 : decode cX8_told 115 = .ok (.invokevirtual 139, 3) := by decide +kernel
theorem dX8_told_118 : decode cX8_told 118 = .ok (.ireturn, 1) := by decide +kernel
theorem dX8_told_119 : decode cX8_told 119 = .ok (.iload_n 1, 1) := by decide +kernel
theorem dX8_told_120 : decode cX8_told 120 = .ok (.ifCond .ne 10, 3) := by decide +kernel
theorem dX8_told_123 : decode cX8_told 123 = .ok (.aload_n 0, 1) := by decide +kernel
theorem dX8_told_124 : decode cX8_told 124 = .ok (.getfield 146, 3) := by decide +kernel
theorem dX8_told_127 : decode cX8_told 127 = .ok (.goto 30, 3) := by decide +kernel
theorem dX8_told_130 : decode cX8_told 130 = .ok (.iload_n 1, 1) := by decide +kernel
theorem dX8_told_131 : decode cX8_told 131 = .ok (.iconst 1, 1) := by decide +kernel
theorem dX8_told_132 : decode cX8_told 132 = .ok (.if_icmp .ne 10, 3) := by decide +kernel
theorem dX8_told_135 : decode cX8_told 135 = .ok (.aload_n 0, 1) := by decide +kernel
theorem dX8_told_136 : decode cX8_told 136 = .ok (.getfield 109, 3) := by decide +kernel
theorem dX8_told_139 : decode cX8_told 139 = .ok (.goto 18, 3) := by decide +kernel
theorem dX8_told_142 : decode cX8_told 142 = .ok (.iload_n 1, 1) := by decide +kernel
theorem dX8_told_143 : decode cX8_told 143 = .ok (.bipush 9, 2) := by decide +kernel
theorem dX8_told_145 : decode cX8_told 145 = .ok (.if_icmp .ne 10, 3) := by decide +kernel
theorem dX8_told_148 : decode cX8_told 148 = .ok (.aload_n 0, 1) := by decide +kernel
theorem dX8_told_149 : decode cX8_told 149 = .ok (.getfield 322, 3) := by decide +kernel
theorem dX8_told_152 : decode cX8_told 152 = .ok (.goto 5, 3) := by decide +kernel
theorem dX8_told_155 : decode cX8_told 155 = .ok (.bipush (-2), 2) := by decide +kernel
theorem dX8_told_157 : decode cX8_told 157 = .ok (.ireturn, 1) := by decide +kernel
theorem dJ6_bitCount_0f7a4_0 : decode cJ6_bitCount_0f7a4 0 = .ok (.iload_n 0, 1) := by decide +kernel
theorem dJ6_bitCount_0f7a4_1 : decode cJ6_bitCount_0f7a4 1 = .ok (.iload_n 0, 1) := by decide +kernel
theorem dJ6_bitCount_0f7a4_2 : decode cJ6_bitCount_0f7a4 2 = .ok (.iconst 1, 1) := by decide +kernel
theorem dJ6_bitCount_0f7a4_3 : decode cJ6_bitCount_0f7a4 3 = .ok (.iushr, 1) := by decide +kernel
theorem dJ6_bitCount_0f7a4_4 : decode cJ6_bitCount_0f7a4 4 = .ok (.ldc_w 265, 3) := by decide +kernel
theorem dJ6_bitCount_0f7a4_7 : decode cJ6_bitCount_0f7a4 7 = .ok (.iand, 1) := by decide +kernel
theorem dJ6_bitCount_0f7a4_8 : decode cJ6_bitCount_0f7a4 8 = .ok (.isub, 1) := by decide +kernel
theorem dJ6_bitCount_0f7a4_9 : decode cJ6_bitCount_0f7a4 9 = .ok (.istore_n 0, 1) := by decide +kernel
theorem dJ6_bitCount_0f7a4_10 : decode cJ6_bitCount_0f7a4 10 = .ok (.iload_n 0, 1) := by decide +kernel
theorem dJ6_bitCount_0f7a4_11 : decode cJ6_bitCount_0f7a4 11 = .ok (.ldc_w 266, 3) := by decide +kernel
theorem dJ6_bitCount_0f7a4_14 : decode cJ6_bitCount_0f7a4 14 = .ok (.iand, 1) := by decide +kernel
theorem dJ6_bitCount_0f7a4_15 : decode cJ6_bitCount_0f7a4 15 = .ok (.iload_n 0, 1) := by decide +kernel
theorem dJ6_bitCount_0f7a4_16 : decode cJ6_bitCount_0f7a4 16 = .ok (.iconst 2, 1) := by decide +kernel
theorem dJ6_bitCount_0f7a4_17 : decode cJ6_bitCount_0f7a4 17 = .ok (.iushr, 1) := by decide +kernel
theorem dJ6_bitCount_0f7a4_18 : decode cJ6_bitCount_0f7a4 18 = .ok (.ldc_w 266, 3) := by decide +kernel
theorem dJ6_bitCount_0f7a4_21 : decode cJ6_bitCount_0f7a4 21 = .ok (.iand, 1) := by decide +kernel
theorem dJ6_bitCount_0f7a4_22 : decode cJ6_bitCount_0f7a4 22 = .ok (.iadd, 1) := by decide +kernel
theorem dJ6_bitCount_0f7a4_23 : decode cJ6_bitCount_0f7a4 23 = .ok (.istore_n 0, 1) := by decide +kernel
theorem dJ6_bitCount_0f7a4_24 : decode cJ6_bitCount_0f7a4 24 = .ok (.iload_n 0, 1) := by decide +kernel
theorem dJ6_bitCount_0f7a4_25 : decode cJ6_bitCount_0f7a4 25 = .ok (.iload_n 0, 1) := by decide +kernel
theorem dJ6_bitCount_0f7a4_26 : decode cJ6_bitCount_0f7a4 26 = .ok (.iconst 4, 1) := by decide +kernel
theorem dJ6_bitCount_0f7a4_27 : decode cJ6_bitCount_0f7a4 27 = .ok (.iushr, 1) := by decide +kernel
theorem dJ6_bitCount_0f7a4_28 : decode cJ6_bitCount_0f7a4 28 = .ok (.iadd, 1) := by decide +kernel
theorem dJ6_bitCount_0f7a4_29 : decode cJ6_bitCount_0f7a4 29 = .ok (.ldc_w 267, 3) := by decide +kernel
theorem dJ6_bitCount_0f7a4_32 : decode cJ6_bitCount_0f7a4 32 = .ok (.iand, 1) := by decide +kernel
theorem dJ6_bitCount_0f7a4_33 : decode cJ6_bitCount_0f7a4 33 = .ok (.istore_n 0, 1) := by decide +kernel
theorem dJ6_bitCount_0f7a4_34 : decode cJ6_bitCount_0f7a4 34 = .ok (.iload_n 0, 1) := by decide +kernel
theorem dJ6_bitCount_0f7a4_35 : decode cJ6_bitCount_0f7a4 35 = .ok (.iload_n 0, 1) := by decide +kernel
theorem dJ6_bitCount_0f7a4_36 : decode cJ6_bitCount_0f7a4 36 = .ok (.bipush 8, 2) := by decide +kernel
theorem dJ6_bitCount_0f7a4_38 : decode cJ6_bitCount_0f7a4 38 = .ok (.iushr, 1) := by decide +kernel
theorem dJ6_bitCount_0f7a4_39 : decode cJ6_bitCount_0f7a4 39 = .ok (.iadd, 1) := by decide +kernel
theorem dJ6_bitCount_0f7a4_40 : decode cJ6_bitCount_0f7a4 40 = .ok (.istore_n 0, 1) := by decide +kernel
theorem dJ6_bitCount_0f7a4_41 : decode cJ6_bitCount_0f7a4 41 = .ok (.iload_n 0, 1) := by decide +kernel
theorem dJ6_bitCount_0f7a4_42 : decode cJ6_bitCount_0f7a4 42 = .ok (.iload_n 0, 1) := by decide +kernel
theorem dJ6_bitCount_0f7a4_43 : decode cJ6_bitCount_0f7a4 43 = .ok (.bipush 16, 2) := by decide +kernel
theorem dJ6_bitCount_0f7a4_45 : decode cJ6_bitCount_0f7a4 45 = .ok (.iushr, 1) := by decide +kernel
theorem dJ6_bitCount_0f7a4_46 : decode cJ6_bitCount_0f7a4 46 = .ok (.iadd, 1) := by decide +kernel
theorem dJ6_bitCount_0f7a4_47 : decode cJ6_bitCount_0f7a4 47 = .ok (.istore_n 0, 1) := by decide +kernel
theorem dJ6_bitCount_0f7a4_48 : decode cJ6_bitCount_0f7a4 48 = .ok (.iload_n 0, 1) := by decide +kernel
theorem dJ6_bitCount_0f7a4_49 : decode cJ6_bitCount_0f7a4 49 = .ok (.bipush 63, 2) := by decide +kernel
theorem dJ6_bitCount_0f7a4_51 : decode cJ6_bitCount_0f7a4 51 = .ok (.iand, 1) := by decide +kernel
theorem dJ6_bitCount_0f7a4_52 : decode cJ6_bitCount_0f7a4 52 = .ok (.ireturn, 1) := by decide +kernel
theorem dJ9_max_7cf53_0 : decode cJ9_max_7cf53 0 = .ok (.iload_n 0, 1) := by decide +kernel
theorem dJ9_max_7cf53_1 : decode cJ9_max_7cf53 1 = .ok (.iload_n 1, 1) := by decide +kernel
theorem dJ9_max_7cf53_2 : decode cJ9_max_7cf53 2 = .ok (.if_icmp .lt 7, 3) := by decide +kernel
theorem dJ9_max_7cf53_5 : decode cJ9_max_7cf53 5 = .ok (.iload_n 0, 1) := by decide +kernel
theorem dJ9_max_7cf53_6 : decode cJ9_max_7cf53 6 = .ok (.goto 4, 3) := by decide +kernel
theorem dJ9_max_7cf53_9 : decode cJ9_max_7cf53 9 = .ok (.iload_n 1, 1) := by decide +kernel
theorem dJ9_max_7cf53_10 : decode cJ9_max_7cf53 10 = .ok (.ireturn, 1) := by decide +kernel
theorem dJ9_min_7cf53_0 : decode cJ9_min_7cf53 0 = .ok (.iload_n 0, 1) := by decide +kernel
theorem dJ9_min_7cf53_1 : decode cJ9_min_7cf53 1 = .ok (.iload_n 1, 1) := by decide +kernel
theorem dJ9_min_7cf53_2 : decode cJ9_min_7cf53 2 = .ok (.if_icmp .gt 7, 3) := by decide +kernel
theorem dJ9_min_7cf53_5 : decode cJ9_min_7cf53 5 = .ok (.iload_n 0, 1) := by decide +kernel
theorem dJ9_min_7cf53_6 : decode cJ9_min_7cf53 6 = .ok (.goto 4, 3) := by decide +kernel
theorem dJ9_min_7cf53_9 : decode cJ9_min_7cf53 9 = .ok (.iload_n 1, 1) := by decide +kernel
end
section
/-! my base: the tables and statics that every method may use; worlds as lists of cells; calls over the whole world -/
def xg_nest : List Cond := [.fieldLinkNest "DareBridge$Town" 52 "DareBridge" "RULE_FIRST" "[I" "DareBridge", .methodLinkNest "DareBridge$Town" 55 ⟨"DareBridge", "copyRow", "([I[I)V"⟩ "DareBridge", .methodLinkNest "DareBridge" 31 ⟨"DareBridge$Pad", "<init>", "()V"⟩ "DareBridge", .methodLinkNest "DareBridge" 38 ⟨"DareBridge$Summer", "<init>", "()V"⟩ "DareBridge", .methodLinkNest "DareBridge$Summer" 24 ⟨"DareBridge$Chance", "<init>", "()V"⟩ "DareBridge", .methodLinkNest "DareBridge" 45 ⟨"DareBridge$Climb", "<init>", "()V"⟩ "DareBridge", .methodLinkNest "DareBridge$Climb" 11 ⟨"DareBridge$Chance", "<init>", "()V"⟩ "DareBridge", .methodLinkNest "DareBridge" 52 ⟨"DareBridge$Game", "<init>", "()V"⟩ "DareBridge", .methodLinkNest "DareBridge" 59 ⟨"DareBridge$Year", "<init>", "()V"⟩ "DareBridge", .methodLinkNest "DareBridge$Town" 63 ⟨"DareBridge", "put", "([III)V"⟩ "DareBridge", .methodLinkNest "DareBridge$Town" 59 ⟨"DareBridge", "at", "([II)I"⟩ "DareBridge", .methodLinkNest "DareBridge$Pad" 19 ⟨"DareBridge", "put", "([III)V"⟩ "DareBridge", .methodLinkNest "DareBridge$Pad" 23 ⟨"DareBridge", "at", "([II)I"⟩ "DareBridge", .methodLinkNest "DareBridge$Pad" 35 ⟨"DareBridge", "within", "(III)Z"⟩ "DareBridge", .methodLinkNest "DareBridge$Summer" 62 ⟨"DareBridge", "put", "([III)V"⟩ "DareBridge", .methodLinkNest "DareBridge$Summer" 42 ⟨"DareBridge", "at", "([II)I"⟩ "DareBridge", .methodLinkNest "DareBridge$Town" 94 ⟨"DareBridge", "drawAfter", "(I)I"⟩ "DareBridge", .methodLinkNest "DareBridge$Year" 32 ⟨"DareBridge", "drawAfter", "(I)I"⟩ "DareBridge", .methodLinkNest "DareBridge$Year" 47 ⟨"DareBridge", "at", "([II)I"⟩ "DareBridge"]
theorem xg_nest_kind : ∀ w ∈ xg_nest, (∃ a i x h, w = Cond.methodLinkNest a i x h) ∨ (∃ a i b n d h, w = Cond.fieldLinkNest a i b n d h) := by
  intro w hw
  simp only [xg_nest, List.mem_cons, List.not_mem_nil, or_false] at hw
  rcases hw with rfl | rfl | rfl | rfl | rfl | rfl | rfl | rfl | rfl | rfl | rfl | rfl | rfl | rfl | rfl | rfl | rfl | rfl | rfl
  all_goals first | exact Or.inl ⟨_, _, _, _, rfl⟩ | exact Or.inr ⟨_, _, _, _, _, _, rfl⟩
theorem xg_nest_warm {w : Cond} (hw : w ∈ xg_nest) {s U : State} (hW : s.WarmedH U.vm) (h : va_Nw w s) : va_Nw w U := by
  rcases xg_nest_kind w hw with ⟨a, i, x, q, rfl⟩ | ⟨a, i, b, n, d, q, rfl⟩
  · exact va_Nw.warmM hW h
  · exact va_Nw.warmF hW h
theorem xg_nest_same {w : Cond} (hw : w ∈ xg_nest) {u U : State} (hv : u.vm = U.vm) (h : va_Nw w u) : va_Nw w U := by
  rcases xg_nest_kind w hw with ⟨a, i, x, q, rfl⟩ | ⟨a, i, b, n, d, q, rfl⟩
  · exact va_Nw.same rfl hv h
  · exact va_Nw.same rfl hv h
theorem xg_nest_0 : (.fieldLinkNest "DareBridge$Town" 52 "DareBridge" "RULE_FIRST" "[I" "DareBridge" : Cond) ∈ xg_nest := List.mem_of_getElem? (i := 0) rfl
theorem xg_nest_1 : (.methodLinkNest "DareBridge$Town" 55 ⟨"DareBridge", "copyRow", "([I[I)V"⟩ "DareBridge" : Cond) ∈ xg_nest := List.mem_of_getElem? (i := 1) rfl
theorem xg_nest_2 : (.methodLinkNest "DareBridge" 31 ⟨"DareBridge$Pad", "<init>", "()V"⟩ "DareBridge" : Cond) ∈ xg_nest := List.mem_of_getElem? (i := 2) rfl
theorem xg_nest_3 : (.methodLinkNest "DareBridge" 38 ⟨"DareBridge$Summer", "<init>", "()V"⟩ "DareBridge" : Cond) ∈ xg_nest := List.mem_of_getElem? (i := 3) rfl
theorem xg_nest_4 : (.methodLinkNest "DareBridge$Summer" 24 ⟨"DareBridge$Chance", "<init>", "()V"⟩ "DareBridge" : Cond) ∈ xg_nest := List.mem_of_getElem? (i := 4) rfl
theorem xg_nest_5 : (.methodLinkNest "DareBridge" 45 ⟨"DareBridge$Climb", "<init>", "()V"⟩ "DareBridge" : Cond) ∈ xg_nest := List.mem_of_getElem? (i := 5) rfl
theorem xg_nest_6 : (.methodLinkNest "DareBridge$Climb" 11 ⟨"DareBridge$Chance", "<init>", "()V"⟩ "DareBridge" : Cond) ∈ xg_nest := List.mem_of_getElem? (i := 6) rfl
theorem xg_nest_7 : (.methodLinkNest "DareBridge" 52 ⟨"DareBridge$Game", "<init>", "()V"⟩ "DareBridge" : Cond) ∈ xg_nest := List.mem_of_getElem? (i := 7) rfl
theorem xg_nest_8 : (.methodLinkNest "DareBridge" 59 ⟨"DareBridge$Year", "<init>", "()V"⟩ "DareBridge" : Cond) ∈ xg_nest := List.mem_of_getElem? (i := 8) rfl
theorem xg_nest_9 : (.methodLinkNest "DareBridge$Town" 63 ⟨"DareBridge", "put", "([III)V"⟩ "DareBridge" : Cond) ∈ xg_nest := List.mem_of_getElem? (i := 9) rfl
theorem xg_nest_10 : (.methodLinkNest "DareBridge$Town" 59 ⟨"DareBridge", "at", "([II)I"⟩ "DareBridge" : Cond) ∈ xg_nest := List.mem_of_getElem? (i := 10) rfl
theorem xg_nest_11 : (.methodLinkNest "DareBridge$Pad" 19 ⟨"DareBridge", "put", "([III)V"⟩ "DareBridge" : Cond) ∈ xg_nest := List.mem_of_getElem? (i := 11) rfl
theorem xg_nest_12 : (.methodLinkNest "DareBridge$Pad" 23 ⟨"DareBridge", "at", "([II)I"⟩ "DareBridge" : Cond) ∈ xg_nest := List.mem_of_getElem? (i := 12) rfl
theorem xg_nest_13 : (.methodLinkNest "DareBridge$Pad" 35 ⟨"DareBridge", "within", "(III)Z"⟩ "DareBridge" : Cond) ∈ xg_nest := List.mem_of_getElem? (i := 13) rfl
theorem xg_nest_14 : (.methodLinkNest "DareBridge$Summer" 62 ⟨"DareBridge", "put", "([III)V"⟩ "DareBridge" : Cond) ∈ xg_nest := List.mem_of_getElem? (i := 14) rfl
theorem xg_nest_15 : (.methodLinkNest "DareBridge$Summer" 42 ⟨"DareBridge", "at", "([II)I"⟩ "DareBridge" : Cond) ∈ xg_nest := List.mem_of_getElem? (i := 15) rfl
theorem xg_nest_16 : (.methodLinkNest "DareBridge$Town" 94 ⟨"DareBridge", "drawAfter", "(I)I"⟩ "DareBridge" : Cond) ∈ xg_nest := List.mem_of_getElem? (i := 16) rfl
theorem xg_nest_17 : (.methodLinkNest "DareBridge$Year" 32 ⟨"DareBridge", "drawAfter", "(I)I"⟩ "DareBridge" : Cond) ∈ xg_nest := List.mem_of_getElem? (i := 17) rfl
theorem xg_nest_18 : (.methodLinkNest "DareBridge$Year" 47 ⟨"DareBridge", "at", "([II)I"⟩ "DareBridge" : Cond) ∈ xg_nest := List.mem_of_getElem? (i := 18) rfl
def xg_A (bs : Nat) : Nat → Prop := fun q => bs ≤ q
def xg_f0 : Nat → Int32 := fun k => match k with
  | 0 => 2
  | 1 => 3
  | 2 => 20
  | 3 => 1
  | 4 => 6
  | 5 => 0
  | _ => 1
def xg_f1 : Nat → Int32 := fun k => match k with
  | 0 => 1
  | 4 => 1
  | _ => 0
def xg_f2 : Nat → Int32 := fun k => match k with
  | 0 => 9
  | 1 => 9
  | 2 => 99
  | 3 => 9
  | 4 => 42
  | 5 => 1
  | _ => 9999
/-- a static row of the class, that nobody writes -/
def xg_St (bs : Nat) (n : String) (f : Nat → Int32) (U : State) : Prop := ∃ r : Nat, r < bs ∧ va_Z "DareBridge" n "[I" (.ref r) (xg_A bs) U U.heap ∧ va_X r 7 f U U.heap
/-- what the tables and the static rows say; the world's cells begin at bs -/
def xg_K (D : va_G) (cI cZ : ClassId) (bs : Nat) (U : State) : Prop := va_K D vwCl [(cI, .int), (cZ, .boolean)] U ∧ (∀ w ∈ xg_nest, va_Nw w U) ∧ bs ≤ U.heap.size ∧ xg_St bs "RULE_FIRST" xg_f0 U ∧ xg_St bs "RULE_LEAST" xg_f1 U ∧ xg_St bs "RULE_MOST" xg_f2 U
theorem xg_St.to {bs : Nat} {n : String} {f : Nat → Int32} {s U : State} (hW : s.vm.Alike U.vm) (hq : ∀ q : Nat, q < bs → U.heap[q]? = s.heap[q]?) (h : xg_St bs n f s) : xg_St bs n f U := by
  obtain ⟨r, hr, hz, hx⟩ := h
  exact ⟨r, hr, (hz.kept (fun a _ hA => hq a (Nat.not_le.mp hA))).moved hW, (hx.kept (hq r hr)).moved hW⟩
theorem xg_K.warm {D : va_G} {cI cZ : ClassId} {bs : Nat} {s U : State} (hW : s.WarmedH U.vm) (hz : bs ≤ U.heap.size) (hq : ∀ q : Nat, q < bs → U.heap[q]? = s.heap[q]?) (h : xg_K D cI cZ bs s) : xg_K D cI cZ bs U := by
  obtain ⟨h1, h2, h3, h4, h5, h6⟩ := h
  exact ⟨h1.moved hW.alike, fun w hw => xg_nest_warm hw hW (h2 w hw), hz, h4.to hW.alike hq, h5.to hW.alike hq, h6.to hW.alike hq⟩
theorem xg_K.same {D : va_G} {cI cZ : ClassId} {bs : Nat} {s U : State} (hv : s.vm = U.vm) (hh : U.heap = s.heap) (h : xg_K D cI cZ bs s) : xg_K D cI cZ bs U := by
  obtain ⟨h1, h2, h3, h4, h5, h6⟩ := h
  have ha : s.vm.Alike U.vm := by rw [hv]; exact Vm.Alike.refl _
  exact ⟨h1.moved ha, fun w hw => xg_nest_same hw hv (h2 w hw), by rw [hh]; exact h3, h4.to ha (fun q _ => by rw [hh]), h5.to ha (fun q _ => by rw [hh]), h6.to ha (fun q _ => by rw [hh])⟩
/-- the world at a method's start or end -/
def xg_W (D : va_G) (cI cZ : ClassId) (bs : Nat) (ws : va_W) (U : State) : Prop := xg_K D cI cZ bs U ∧ va_P D vwCl ws U.heap ∧ va_D (xg_A bs) ws
/-- the world within a method -/
def xg_H (D : va_G) (bs : Nat) (ws : va_W) (H0 H : Heap) (locs : List Loc) : Prop := va_P D vwCl ws H ∧ va_D (xg_A bs) ws ∧ va_S (xg_A bs) H0 H locs
theorem xg_blind {D : va_G} {cI cZ : ClassId} {bs : Nat} {ws : va_W} {As : List Value} : FrameBlind (va_Pc As (fun U => xg_W D cI cZ bs ws U)) := fun a U g mk h => ⟨h.1, xg_K.same (s := U) (U := U.calling g mk a) rfl rfl h.2.1, h.2.2⟩
theorem xg_blindK {D : va_G} {cI cZ : ClassId} {bs : Nat} {As : List Value} : FrameBlind (va_Pc As (fun U => xg_K D cI cZ bs U)) := fun a U g mk h => ⟨h.1, xg_K.same (s := U) (U := U.calling g mk a) rfl rfl h.2⟩
theorem xg_start {D : va_G} {cI cZ : ClassId} {bs : Nat} {ws : va_W} {s : State} (h : xg_W D cI cZ bs ws s) : xg_H D bs ws s.heap s.heap [] := ⟨h.2.1, h.2.2, va_S.rf⟩
theorem xg_preK {D : va_G} {cI cZ : ClassId} {bs : Nat} {H : Heap} {locs : List Loc} {s U : State} (hK : xg_K D cI cZ bs s) (hS : va_S (xg_A bs) s.heap H locs) (hU : U.heap = H) (hW : s.WarmedH U.vm) : xg_K D cI cZ bs U :=
  xg_K.warm hW (by rw [hU]; exact Nat.le_trans hK.2.2.1 hS.1) (fun q hq => by rw [hU]; exact hS.2.1 q (Nat.lt_of_lt_of_le hq hK.2.2.1) (Nat.not_le.mpr hq)) hK
theorem xg_pre {D : va_G} {cI cZ : ClassId} {bs : Nat} {ws : va_W} {H : Heap} {locs : List Loc} {s U : State} (hK : xg_K D cI cZ bs s) (hG : xg_H D bs ws s.heap H locs) (hU : U.heap = H) (hW : s.WarmedH U.vm) : xg_W D cI cZ bs ws U :=
  ⟨xg_preK hK hG.2.2 hU hW, by rw [hU]; exact hG.1, hG.2.1⟩
/-- methods that only read -/
def xg_Ri (post : Int32 → Prop) : Array Value → State → Outcome → State → Prop := fun _ st oc t => ∃ r : Int32, oc = .returned (some (.int r)) ∧ post r ∧ t.heap = st.heap
def xg_Rl (post : Int64 → Prop) : Array Value → State → Outcome → State → Prop := fun _ st oc t => ∃ r : Int64, oc = .returned (some (.long r)) ∧ post r ∧ t.heap = st.heap
abbrev xg_F : Nat → Prop := fun _ => False
theorem xg_weak {l : Launch} {y : MethodName} {ws : List Cond} {rm : Room} {Pc Pc' : Array Value → State → Prop} {Qc : Array Value → State → Outcome → State → Prop} {mc ms : Nat} {free : Addr → Prop} (hM : Met l y ws rm Pc Qc mc ms free) (h : ∀ a U, Pc' a U → Pc a U) : Met l y ws rm Pc' Qc mc ms free :=
  fun p e h1 h2 h3 s m args below h4 h5 h6 h7 => hM p e h1 h2 h3 s m args below h4 h5 (h _ _ h6) h7
section XGC
variable {p : Program} {l : Launch} {e : Env} {R : Room} {s : State} {m : MethodId} {args : Array Value} {below : List Frame} {meth : Method} {c : Code} {H : Heap} {locs : List Loc} {cells slots : Nat} {Q : State → Prop}
variable {pc : Nat} {ls : Array Slot} {rest st0 : List Value} {a : Array Value} {mc ms : Nat}
variable {D : va_G} {cI cZ : ClassId} {bs : Nat} {ws : va_W}
theorem xg_ri {post : Int32 → Prop} (hr : va_Run p l e R s m args below meth c H locs cells slots 0 0 (F0 m pc ls st0) rest (xg_Ri post a) xg_F)
    (kk : ∀ r : Int32, post r → W p l e R s m args below meth c H locs cells slots Q (F0 m (pc + 3) ls (.int r :: rest))) : W p l e R s m args below meth c H locs cells slots Q (F0 m pc ls st0) := by
  intro T hT X
  obtain ⟨v, st₀, t, T', L, h0, X', hL, e1, -, ⟨r, hv, hp, hh⟩, st⟩ := hr T hT X
  cases hv
  obtain ⟨t2, a1, b1⟩ := kk r hp T' (by rw [e1, hh, h0]) (Stand.forget X' (fun q h => (hL q h).elim))
  exact ⟨t2, st t2 a1, b1⟩
theorem xg_rl {post : Int64 → Prop} (hr : va_Run p l e R s m args below meth c H locs cells slots 0 0 (F0 m pc ls st0) rest (xg_Rl post a) xg_F)
    (kk : ∀ r : Int64, post r → W p l e R s m args below meth c H locs cells slots Q (F0 m (pc + 3) ls (.long r :: rest))) : W p l e R s m args below meth c H locs cells slots Q (F0 m pc ls st0) := by
  intro T hT X
  obtain ⟨v, st₀, t, T', L, h0, X', hL, e1, -, ⟨r, hv, hp, hh⟩, st⟩ := hr T hT X
  cases hv
  obtain ⟨t2, a1, b1⟩ := kk r hp T' (by rw [e1, hh, h0]) (Stand.forget X' (fun q h => (hL q h).elim))
  exact ⟨t2, st t2 a1, b1⟩
theorem xg_mi {post : Int32 → va_W → Prop} (hr : va_Run p l e R s m args below meth c H locs cells slots mc ms (F0 m pc ls st0) rest (va_Qi post (fun w t => xg_W D cI cZ bs w t) (xg_A bs) a) (xg_A bs)) (hG : xg_H D bs ws s.heap H locs)
    (kk : ∀ (r : Int32) (w : va_W) (H1 : Heap) (locs1 : List Loc), post r w → xg_H D bs w s.heap H1 locs1 → W p l e R s m args below meth c H1 locs1 (cells + mc) (slots + ms) Q (F0 m (pc + 3) ls (.int r :: rest))) : W p l e R s m args below meth c H locs cells slots Q (F0 m pc ls st0) :=
  va_calli hr hG.2.2 (fun _ _ h => h) (fun _ h => h) (fun r u t H1 locs1 ht _ hp hB _ _ hS => kk r u H1 locs1 hp ⟨ht ▸ hB.2.1, hB.2.2, hS⟩)
theorem xg_ml {post : Int64 → va_W → Prop} (hr : va_Run p l e R s m args below meth c H locs cells slots mc ms (F0 m pc ls st0) rest (va_Ql post (fun w t => xg_W D cI cZ bs w t) (xg_A bs) a) (xg_A bs)) (hG : xg_H D bs ws s.heap H locs)
    (kk : ∀ (r : Int64) (w : va_W) (H1 : Heap) (locs1 : List Loc), post r w → xg_H D bs w s.heap H1 locs1 → W p l e R s m args below meth c H1 locs1 (cells + mc) (slots + ms) Q (F0 m (pc + 3) ls (.long r :: rest))) : W p l e R s m args below meth c H locs cells slots Q (F0 m pc ls st0) :=
  va_calll hr hG.2.2 (fun _ _ h => h) (fun _ h => h) (fun r u t H1 locs1 ht _ hp hB _ _ hS => kk r u H1 locs1 hp ⟨ht ▸ hB.2.1, hB.2.2, hS⟩)
theorem xg_mv {post : va_W → Prop} (hr : va_Run p l e R s m args below meth c H locs cells slots mc ms (F0 m pc ls st0) rest (va_Qv post (fun w t => xg_W D cI cZ bs w t) (xg_A bs) a) (xg_A bs)) (hG : xg_H D bs ws s.heap H locs)
    (kk : ∀ (w : va_W) (H1 : Heap) (locs1 : List Loc), post w → xg_H D bs w s.heap H1 locs1 → W p l e R s m args below meth c H1 locs1 (cells + mc) (slots + ms) Q (F0 m (pc + 3) ls rest)) : W p l e R s m args below meth c H locs cells slots Q (F0 m pc ls st0) :=
  va_callv hr hG.2.2 (fun _ _ h => h) (fun _ h => h) (fun u t H1 locs1 ht _ hp hB _ _ hS => kk u H1 locs1 hp ⟨ht ▸ hB.2.1, hB.2.2, hS⟩)
theorem xg_preV {b : Nat} {As : List Value} {C : String} (hK : xg_K D cI cZ bs s) (hG : xg_H D bs ws s.heap H locs) (q0 : Nat) {ci : Nat} {fs : List Value} {q : vw_C} (he : ws[q0]? = some (b, .inr (ci, fs))) (hc : vwCl[ci]? = some q) (hC : q.1 = C) : PreV s H C b (va_Pc (.ref b :: As) (fun U => xg_W D cI cZ bs ws U)) As :=
  ⟨xg_blind, by rw [← hC]; exact va_recv hK.1 hG.1 hc he, fun _ hU hW => ⟨rfl, xg_pre hK hG hU hW⟩⟩
theorem xg_preVK {b : Nat} {As : List Value} {C : String} (hK : xg_K D cI cZ bs s) (hG : xg_H D bs ws s.heap H locs) (q0 : Nat) {ci : Nat} {fs : List Value} {q : vw_C} (he : ws[q0]? = some (b, .inr (ci, fs))) (hc : vwCl[ci]? = some q) (hC : q.1 = C) : PreV s H C b (va_Pc (.ref b :: As) (fun U => xg_K D cI cZ bs U)) As :=
  ⟨xg_blindK, by rw [← hC]; exact va_recv hK.1 hG.1 hc he, fun _ hU hW => ⟨rfl, xg_preK hK hG.2.2 hU hW⟩⟩
theorem xg_preS {As : List Value} (hK : xg_K D cI cZ bs s) (hG : xg_H D bs ws s.heap H locs) : PreS s H (va_Pc As (fun U => xg_W D cI cZ bs ws U)) As :=
  ⟨xg_blind, fun _ hU hW => ⟨rfl, xg_pre hK hG hU hW⟩⟩
theorem xg_preSK {As : List Value} (hK : xg_K D cI cZ bs s) (hG : xg_H D bs ws s.heap H locs) : PreS s H (va_Pc As (fun U => xg_K D cI cZ bs U)) As :=
  ⟨xg_blindK, fun _ hU hW => ⟨rfl, xg_preK hK hG.2.2 hU hW⟩⟩
variable {cc : ByteArray} {nL : Nat} {Ts : List Cond} {own : String}
theorem xg_get (S : CallFix p m c cc nL s args Ts own) (hK : xg_K D cI cZ bs s) (hG : xg_H D bs ws s.heap H locs) {ref C : String} {T : u_T} {N ci index a : Nat} (hin : ∀ w ∈ u_ws C T N, w ∈ Ts) (q0 : Nat) {fs : List Value} (he : ws[q0]? = some (a, .inr (ci, fs))) (hc : vwCl[ci]? = some (C, T, N)) (k : Nat) (hk : k < N) (hlink : (Cond.fieldLink own index ref (T k).2.1 (T k).2.2.1).before args s = true) (hsame : ∀ x, s.fieldFound? (T k).1 (T k).2.1 (T k).2.2.1 = some x → s.fieldFound? ref (T k).2.1 (T k).2.2.1 = some x) {v : Value} (hv : fs[k]? = some v) (hdg : decode cc pc = .ok (.getfield index, 3))
    (kk : W p l e R s m args below meth c H locs cells slots Q (F0 m (pc + 3) ls (v :: rest))) : W p l e R s m args below meth c H locs cells slots Q (F0 m pc ls (.ref a :: rest)) :=
  va_get S.1 S.2.1 S.2.2.2.2 hin S.2.2.2.1 hK.1 hG.1 q0 he hc k hk hlink hsame hv hdg kk
theorem xg_put (S : CallFix p m c cc nL s args Ts own) (hK : xg_K D cI cZ bs s) (hG : xg_H D bs ws s.heap H locs) {ref C : String} {T : u_T} {N ci index a : Nat} (hin : ∀ w ∈ u_ws C T N, w ∈ Ts) (ty0 : Nat → FieldType) (hty : ∀ k, k < N → parseFieldDescriptor (T k).2.2.1 = some (ty0 k)) (hnm : ∀ a, a < N → ∀ b, b < N → a ≠ b → (T a).2.1 ≠ (T b).2.1) (q0 : Nat) {fs : List Value} (he : ws[q0]? = some (a, .inr (ci, fs))) (hc : vwCl[ci]? = some (C, T, N)) (k : Nat) (hk : k < N) (hlink : (Cond.fieldLink own index ref (T k).2.1 (T k).2.2.1).before args s = true) (hsame : ∀ x, s.fieldFound? (T k).1 (T k).2.1 (T k).2.2.1 = some x → s.fieldFound? ref (T k).2.1 (T k).2.2.1 = some x) (hfin : (T k).2.2.2 = false) {ty : FieldType} {v : Value} (hd : parseFieldDescriptor (T k).2.2.1 = some ty) (hn : narrow ty v = v) (hfit : fits ty v = true) (hl : k < fs.length)
    (hdg : decode cc pc = .ok (.putfield index, 3)) (kk : ∀ (H1 : Heap) (locs1 : List Loc), xg_H D bs (ws.set q0 (a, .inr (ci, fs.set k v))) s.heap H1 locs1 → W p l e R s m args below meth c H1 locs1 cells slots Q (F0 m (pc + 3) ls rest)) : W p l e R s m args below meth c H locs cells slots Q (F0 m pc ls (v :: .ref a :: rest)) :=
  va_put S.1 S.2.1 S.2.2.2.2 hin ty0 hty hnm S.2.2.2.1 hK.1 hG.1 hG.2.1 hG.2.2 q0 he hc k hk hlink hsame hfin hd hn hfit hl hdg (fun H1 locs1 h1 h2 h3 => kk H1 locs1 ⟨h1, h2, h3⟩)
theorem xg_ald (S : CallFix p m c cc nL s args Ts own) (hK : xg_K D cI cZ bs s) (hG : xg_H D bs ws s.heap H locs) (q0 : Nat) {a n : Nat} {f : Nat → Int32} (he : ws[q0]? = some (a, .inl (cI, n, .inl f))) {i : Int32} (hin : vp_in i n) (hdg : decode cc pc = .ok (.iaload, 1))
    (kk : W p l e R s m args below meth c H locs cells slots Q (F0 m (pc + 1) ls (.int (f i.toNatClampNeg) :: rest))) : W p l e R s m args below meth c H locs cells slots Q (F0 m pc ls (.int i :: .ref a :: rest)) :=
  va_iald S.1 S.2.1 hK.1 hG.1 q0 0 he rfl hin hdg kk
theorem xg_ast (S : CallFix p m c cc nL s args Ts own) (hK : xg_K D cI cZ bs s) (hG : xg_H D bs ws s.heap H locs) (q0 : Nat) {a n : Nat} {f : Nat → Int32} (he : ws[q0]? = some (a, .inl (cI, n, .inl f))) {i x : Int32} (hin : vp_in i n) (hdg : decode cc pc = .ok (.iastore, 1))
    (kk : ∀ (H1 : Heap) (locs1 : List Loc), xg_H D bs (ws.set q0 (a, .inl (cI, n, .inl (upd f i.toNatClampNeg x)))) s.heap H1 locs1 → W p l e R s m args below meth c H1 locs1 cells slots Q (F0 m (pc + 1) ls rest)) : W p l e R s m args below meth c H locs cells slots Q (F0 m pc ls (.int x :: .int i :: .ref a :: rest)) :=
  va_iast S.1 S.2.1 hK.1 hG.1 hG.2.1 hG.2.2 q0 0 he rfl hin hdg (fun H1 locs1 h1 h2 h3 => kk H1 locs1 ⟨h1, h2, h3⟩)
theorem xg_zld (S : CallFix p m c cc nL s args Ts own) (hK : xg_K D cI cZ bs s) (hG : xg_H D bs ws s.heap H locs) (q0 : Nat) {a n : Nat} {f : Nat → Int32} (he : ws[q0]? = some (a, .inl (cZ, n, .inl f))) {i : Int32} (hin : vp_in i n) (hdg : decode cc pc = .ok (.baload, 1))
    (kk : W p l e R s m args below meth c H locs cells slots Q (F0 m (pc + 1) ls (.int (f i.toNatClampNeg) :: rest))) : W p l e R s m args below meth c H locs cells slots Q (F0 m pc ls (.int i :: .ref a :: rest)) :=
  va_zald S.1 S.2.1 hK.1 hG.1 q0 1 he rfl hin hdg kk
theorem xg_zst (S : CallFix p m c cc nL s args Ts own) (hK : xg_K D cI cZ bs s) (hG : xg_H D bs ws s.heap H locs) (q0 : Nat) {a n : Nat} {f : Nat → Int32} (he : ws[q0]? = some (a, .inl (cZ, n, .inl f))) {i x : Int32} (hin : vp_in i n) (hdg : decode cc pc = .ok (.bastore, 1))
    (kk : ∀ (H1 : Heap) (locs1 : List Loc), xg_H D bs (ws.set q0 (a, .inl (cZ, n, .inl (upd f i.toNatClampNeg (vp_nar .boolean x))))) s.heap H1 locs1 → W p l e R s m args below meth c H1 locs1 cells slots Q (F0 m (pc + 1) ls rest)) : W p l e R s m args below meth c H locs cells slots Q (F0 m pc ls (.int x :: .int i :: .ref a :: rest)) :=
  va_zast S.1 S.2.1 hK.1 hG.1 hG.2.1 hG.2.2 q0 1 he rfl hin hdg (fun H1 locs1 h1 h2 h3 => kk H1 locs1 ⟨h1, h2, h3⟩)
theorem xg_len (S : CallFix p m c cc nL s args Ts own) (hK : xg_K D cI cZ bs s) (hG : xg_H D bs ws s.heap H locs) (q0 : Nat) {a n : Nat} {f : Nat → Int32} (he : ws[q0]? = some (a, .inl (cI, n, .inl f))) (hdg : decode cc pc = .ok (.arraylength, 1))
    (kk : W p l e R s m args below meth c H locs cells slots Q (F0 m (pc + 1) ls (.int (nI n) :: rest))) : W p l e R s m args below meth c H locs cells slots Q (F0 m pc ls (.ref a :: rest)) :=
  va_alen S.1 S.2.1 hK.1 hG.1 q0 0 he (ty := .int) rfl rfl hdg kk
/-- the ends -/
theorem xg_eri {post : Int32 → Prop} {v : Int32} (S : CallFix p m c cc nL s args Ts own) (hr : meth.sig.returnType = some .int) (hlk : meth.locks = false) (hp : post v) (hdg : decode cc pc = .ok (.ireturn, 1)) : W p l e R s m args below meth c s.heap [] cells slots (MQ below (xg_Ri post) args s cells slots xg_F) (F0 m pc ls [.int v]) :=
  W.iret S.1 S.2.1 hr (fun _ ht _ => ⟨v, rfl, hp, ht⟩) (fun q h => by cases h) hdg hlk
theorem xg_erz {post : Int32 → Prop} {v : Int32} (S : CallFix p m c cc nL s args Ts own) (hr : meth.sig.returnType = some .boolean) (hlk : meth.locks = false) (hn : narrow .boolean (.int v) = .int v) (hp : post v) (hdg : decode cc pc = .ok (.ireturn, 1)) : W p l e R s m args below meth c s.heap [] cells slots (MQ below (xg_Ri post) args s cells slots xg_F) (F0 m pc ls [.int v]) :=
  W.zret S.1 S.2.1 hr hn (fun _ ht _ => ⟨v, rfl, hp, ht⟩) (fun q h => by cases h) hdg hlk
theorem xg_erl {post : Int64 → Prop} {v : Int64} (S : CallFix p m c cc nL s args Ts own) (hr : meth.sig.returnType = some .long) (hlk : meth.locks = false) (hp : post v) (hdg : decode cc pc = .ok (.lreturn, 1)) : W p l e R s m args below meth c s.heap [] cells slots (MQ below (xg_Rl post) args s cells slots xg_F) (F0 m pc ls [.long v]) :=
  W.lret S.1 S.2.1 hr (fun _ ht _ => ⟨v, rfl, hp, ht⟩) (fun q h => by cases h) hdg hlk
theorem xg_emi {post : Int32 → va_W → Prop} {v : Int32} (S : CallFix p m c cc nL s args Ts own) (hr : meth.sig.returnType = some .int) (hlk : meth.locks = false) (hK : xg_K D cI cZ bs s) (hG : xg_H D bs ws s.heap H locs) (hp : post v ws) (hdg : decode cc pc = .ok (.ireturn, 1)) : W p l e R s m args below meth c H locs cells slots (MQ below (va_Qi post (fun w t => xg_W D cI cZ bs w t) (xg_A bs)) args s cells slots (xg_A bs)) (F0 m pc ls [.int v]) :=
  W.iret S.1 S.2.1 hr (fun _ ht hW => ⟨⟨v, ws, rfl, hp, xg_pre hK hG ht hW⟩, hG.2.2.F ht⟩) hG.2.2.2.2 hdg hlk
theorem xg_emz {post : Int32 → va_W → Prop} {v : Int32} (S : CallFix p m c cc nL s args Ts own) (hr : meth.sig.returnType = some .boolean) (hlk : meth.locks = false) (hn : narrow .boolean (.int v) = .int v) (hK : xg_K D cI cZ bs s) (hG : xg_H D bs ws s.heap H locs) (hp : post v ws) (hdg : decode cc pc = .ok (.ireturn, 1)) : W p l e R s m args below meth c H locs cells slots (MQ below (va_Qi post (fun w t => xg_W D cI cZ bs w t) (xg_A bs)) args s cells slots (xg_A bs)) (F0 m pc ls [.int v]) :=
  W.zret S.1 S.2.1 hr hn (fun _ ht hW => ⟨⟨v, ws, rfl, hp, xg_pre hK hG ht hW⟩, hG.2.2.F ht⟩) hG.2.2.2.2 hdg hlk
theorem xg_eml {post : Int64 → va_W → Prop} {v : Int64} (S : CallFix p m c cc nL s args Ts own) (hr : meth.sig.returnType = some .long) (hlk : meth.locks = false) (hK : xg_K D cI cZ bs s) (hG : xg_H D bs ws s.heap H locs) (hp : post v ws) (hdg : decode cc pc = .ok (.lreturn, 1)) : W p l e R s m args below meth c H locs cells slots (MQ below (va_Ql post (fun w t => xg_W D cI cZ bs w t) (xg_A bs)) args s cells slots (xg_A bs)) (F0 m pc ls [.long v]) :=
  W.lret S.1 S.2.1 hr (fun _ ht hW => ⟨⟨v, ws, rfl, hp, xg_pre hK hG ht hW⟩, hG.2.2.F ht⟩) hG.2.2.2.2 hdg hlk
theorem xg_emv {post : va_W → Prop} (S : CallFix p m c cc nL s args Ts own) (hr : meth.sig.returnType = none) (hlk : meth.locks = false) (hK : xg_K D cI cZ bs s) (hG : xg_H D bs ws s.heap H locs) (hp : post ws) (hdg : decode cc pc = .ok (.return_, 1)) : W p l e R s m args below meth c H locs cells slots (MQ below (va_Qv post (fun w t => xg_W D cI cZ bs w t) (xg_A bs)) args s cells slots (xg_A bs)) (F0 m pc ls []) :=
  W.vret S.1 S.2.1 hr (fun _ ht hW => ⟨⟨ws, rfl, hp, xg_pre hK hG ht hW⟩, hG.2.2.F ht⟩) hG.2.2.2.2 hdg hlk
end XGC
/-- a contract, from the method's entry -/
theorem xg_met {l : Launch} {y : MethodName} {wy wy' : List Cond} {rm : Room} {Qc : Array Value → State → Outcome → State → Prop} {mc ms : Nat} {free : Addr → Prop} {As : List Value} {Bd : State → Prop} (cc : ByteArray) (maxL : Nat) (ret : Option FieldType) (own : String) (hy : plainName y.cls = true) (hw : wy = Cond.code y cc maxL ret :: wy') (hown : y.cls = own) (hn : (lg_sl As).length ≤ maxL)
    (body : ∀ (p : Program) (e : Env) (s : State) (m : MethodId) (below : List Frame) (meth : Method) (c : Code) (ls : Array Slot), CallFix p m c cc maxL s As.toArray wy own → meth.sig.returnType = ret → meth.locks = false → meth.name = y.name → Bd s → lv_has ls maxL (lv_args 0 As) → W p l e rm s m As.toArray below meth c s.heap [] 0 0 (MQ below Qc As.toArray s mc ms free) (F0 m 0 ls [])) : Met l y wy rm (va_Pc As Bd) Qc mc ms free := by
  refine Met.ofW (cc := cc) (maxL := maxL) (ret := ret) hy hw ?_
  intro p e s m args below meth c s₁ B hml hv
  obtain ⟨rfl, hB⟩ := hv
  have hts := atoms_spec (ws := wy) B.pre
  have hl := lv_entry As (n := maxL) hn
  rw [lg_entry_eq]
  exact body p e s m below meth c _ ⟨B.exec, B.bytes, hml, by rw [← hown]; exact findClass_of_methodNamed B.named, hts⟩ B.returns B.notSynchronized (name_of_methodNamed B.named B.method).1 hB hl
end
