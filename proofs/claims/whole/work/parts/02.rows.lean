theorem inJ6 : ∀ w ∈ wsJ60, w ∈ lw_tbl := by decide +kernel
theorem inJ9 : ∀ w ∈ wsJ90, w ∈ lw_tbl := by decide +kernel
theorem dX0_init_0 : decode cX0_init 0 = .ok (.aload_n 0, 1) := by decide +kernel
theorem dX0_init_1 : decode cX0_init 1 = .ok (.invokespecial 1, 3) := by decide +kernel
theorem dX0_init_4 : decode cX0_init 4 = .ok (.aload_n 0, 1) := by decide +kernel
theorem dX0_init_5 : decode cX0_init 5 = .ok (.lconst 1, 1) := by decide +kernel
theorem dX0_init_6 : decode cX0_init 6 = .ok (.putfield 7, 3) := by decide +kernel
theorem dX0_init_9 : decode cX0_init 9 = .ok (.aload_n 0, 1) := by decide +kernel
theorem dX0_init_10 : decode cX0_init 10 = .ok (.lconst 1, 1) := by decide +kernel
theorem dX0_init_11 : decode cX0_init 11 = .ok (.putfield 13, 3) := by decide +kernel
theorem dX0_init_14 : decode cX0_init 14 = .ok (.return_, 1) := by decide +kernel
theorem dX0_begin_0 : decode cX0_begin 0 = .ok (.aload_n 0, 1) := by decide +kernel
theorem dX0_begin_1 : decode cX0_begin 1 = .ok (.lconst 1, 1) := by decide +kernel
theorem dX0_begin_2 : decode cX0_begin 2 = .ok (.putfield 7, 3) := by decide +kernel
theorem dX0_begin_5 : decode cX0_begin 5 = .ok (.aload_n 0, 1) := by decide +kernel
theorem dX0_begin_6 : decode cX0_begin 6 = .ok (.lconst 1, 1) := by decide +kernel
theorem dX0_begin_7 : decode cX0_begin 7 = .ok (.putfield 13, 3) := by decide +kernel
theorem dX0_begin_10 : decode cX0_begin 10 = .ok (.return_, 1) := by decide +kernel
theorem dX0_goesWell_0 : decode cX0_goesWell 0 = .ok (.aload_n 0, 1) := by decide +kernel
theorem dX0_goesWell_1 : decode cX0_goesWell 1 = .ok (.dup, 1) := by decide +kernel
theorem dX0_goesWell_2 : decode cX0_goesWell 2 = .ok (.getfield 7, 3) := by decide +kernel
theorem dX0_goesWell_5 : decode cX0_goesWell 5 = .ok (.bipush 10, 2) := by decide +kernel
theorem dX0_goesWell_7 : decode cX0_goesWell 7 = .ok (.iload_n 1, 1) := by decide +kernel
theorem dX0_goesWell_8 : decode cX0_goesWell 8 = .ok (.isub, 1) := by decide +kernel
theorem dX0_goesWell_9 : decode cX0_goesWell 9 = .ok (.i2l, 1) := by decide +kernel
theorem dX0_goesWell_10 : decode cX0_goesWell 10 = .ok (.lmul, 1) := by decide +kernel
theorem dX0_goesWell_11 : decode cX0_goesWell 11 = .ok (.putfield 7, 3) := by decide +kernel
theorem dX0_goesWell_14 : decode cX0_goesWell 14 = .ok (.aload_n 0, 1) := by decide +kernel
theorem dX0_goesWell_15 : decode cX0_goesWell 15 = .ok (.dup, 1) := by decide +kernel
theorem dX0_goesWell_16 : decode cX0_goesWell 16 = .ok (.getfield 13, 3) := by decide +kernel
theorem dX0_goesWell_19 : decode cX0_goesWell 19 = .ok (.ldc2_w 16, 3) := by decide +kernel
theorem dX0_goesWell_22 : decode cX0_goesWell 22 = .ok (.lmul, 1) := by decide +kernel
theorem dX0_goesWell_23 : decode cX0_goesWell 23 = .ok (.putfield 13, 3) := by decide +kernel
theorem dX0_goesWell_26 : decode cX0_goesWell 26 = .ok (.return_, 1) := by decide +kernel
theorem dX0_isAtLeast_0 : decode cX0_isAtLeast 0 = .ok (.aload_n 0, 1) := by decide +kernel
theorem dX0_isAtLeast_1 : decode cX0_isAtLeast 1 = .ok (.getfield 7, 3) := by decide +kernel
theorem dX0_isAtLeast_4 : decode cX0_isAtLeast 4 = .ok (.iload_n 2, 1) := by decide +kernel
theorem dX0_isAtLeast_5 : decode cX0_isAtLeast 5 = .ok (.i2l, 1) := by decide +kernel
theorem dX0_isAtLeast_6 : decode cX0_isAtLeast 6 = .ok (.lmul, 1) := by decide +kernel
theorem dX0_isAtLeast_7 : decode cX0_isAtLeast 7 = .ok (.iload_n 1, 1) := by decide +kernel
theorem dX0_isAtLeast_8 : decode cX0_isAtLeast 8 = .ok (.i2l, 1) := by decide +kernel
theorem dX0_isAtLeast_9 : decode cX0_isAtLeast 9 = .ok (.aload_n 0, 1) := by decide +kernel
theorem dX0_isAtLeast_10 : decode cX0_isAtLeast 10 = .ok (.getfield 13, 3) := by decide +kernel
theorem dX0_isAtLeast_13 : decode cX0_isAtLeast 13 = .ok (.lmul, 1) := by decide +kernel
theorem dX0_isAtLeast_14 : decode cX0_isAtLeast 14 = .ok (.lcmp, 1) := by decide +kernel
theorem dX0_isAtLeast_15 : decode cX0_isAtLeast 15 = .ok (.ifCond .lt 7, 3) := by decide +kernel
theorem dX0_isAtLeast_18 : decode cX0_isAtLeast 18 = .ok (.iconst 1, 1) := by decide +kernel
theorem dX0_isAtLeast_19 : decode cX0_isAtLeast 19 = .ok (.goto 4, 3) := by decide +kernel
theorem dX0_isAtLeast_22 : decode cX0_isAtLeast 22 = .ok (.iconst 0, 1) := by decide +kernel
theorem dX0_isAtLeast_23 : decode cX0_isAtLeast 23 = .ok (.ireturn, 1) := by decide +kernel
theorem dX0_lowest_0 : decode cX0_lowest 0 = .ok (.aload_n 0, 1) := by decide +kernel
theorem dX0_lowest_1 : decode cX0_lowest 1 = .ok (.getfield 13, 3) := by decide +kernel
theorem dX0_lowest_4 : decode cX0_lowest 4 = .ok (.lstore_n 2, 1) := by decide +kernel
theorem dX0_lowest_5 : decode cX0_lowest 5 = .ok (.aload_n 0, 1) := by decide +kernel
theorem dX0_lowest_6 : decode cX0_lowest 6 = .ok (.getfield 7, 3) := by decide +kernel
theorem dX0_lowest_9 : decode cX0_lowest 9 = .ok (.lstore 4, 2) := by decide +kernel
theorem dX0_lowest_11 : decode cX0_lowest 11 = .ok (.iconst 0, 1) := by decide +kernel
theorem dX0_lowest_12 : decode cX0_lowest 12 = .ok (.istore 6, 2) := by decide +kernel
theorem dX0_lowest_14 : decode cX0_lowest 14 = .ok (.iload 6, 2) := by decide +kernel
theorem dX0_lowest_16 : decode cX0_lowest 16 = .ok (.bipush 100, 2) := by decide +kernel
theorem dX0_lowest_18 : decode cX0_lowest 18 = .ok (.if_icmp .ge 29, 3) := by decide +kernel
theorem dX0_lowest_21 : decode cX0_lowest 21 = .ok (.lload 4, 2) := by decide +kernel
theorem dX0_lowest_23 : decode cX0_lowest 23 = .ok (.lconst 0, 1) := by decide +kernel
theorem dX0_lowest_24 : decode cX0_lowest 24 = .ok (.lcmp, 1) := by decide +kernel
theorem dX0_lowest_25 : decode cX0_lowest 25 = .ok (.ifCond .eq 22, 3) := by decide +kernel
theorem dX0_lowest_28 : decode cX0_lowest 28 = .ok (.lload_n 2, 1) := by decide +kernel
theorem dX0_lowest_29 : decode cX0_lowest 29 = .ok (.lload 4, 2) := by decide +kernel
theorem dX0_lowest_31 : decode cX0_lowest 31 = .ok (.lrem, 1) := by decide +kernel
theorem dX0_lowest_32 : decode cX0_lowest 32 = .ok (.lstore 7, 2) := by decide +kernel
theorem dX0_lowest_34 : decode cX0_lowest 34 = .ok (.lload 4, 2) := by decide +kernel
theorem dX0_lowest_36 : decode cX0_lowest 36 = .ok (.lstore_n 2, 1) := by decide +kernel
theorem dX0_lowest_37 : decode cX0_lowest 37 = .ok (.lload 7, 2) := by decide +kernel
theorem dX0_lowest_39 : decode cX0_lowest 39 = .ok (.lstore 4, 2) := by decide +kernel
theorem dX0_lowest_41 : decode cX0_lowest 41 = .ok (.iinc 6 1, 3) := by decide +kernel
theorem dX0_lowest_44 : decode cX0_lowest 44 = .ok (.goto (-30), 3) := by decide +kernel
theorem dX0_lowest_47 : decode cX0_lowest 47 = .ok (.iload_n 1, 1) := by decide +kernel
theorem dX0_lowest_48 : decode cX0_lowest 48 = .ok (.ifCond .ne 10, 3) := by decide +kernel
theorem dX0_lowest_51 : decode cX0_lowest 51 = .ok (.aload_n 0, 1) := by decide +kernel
theorem dX0_lowest_52 : decode cX0_lowest 52 = .ok (.getfield 7, 3) := by decide +kernel
theorem dX0_lowest_55 : decode cX0_lowest 55 = .ok (.goto 7, 3) := by decide +kernel
theorem dX0_lowest_58 : decode cX0_lowest 58 = .ok (.aload_n 0, 1) := by decide +kernel
theorem dX0_lowest_59 : decode cX0_lowest 59 = .ok (.getfield 13, 3) := by decide +kernel
theorem dX0_lowest_62 : decode cX0_lowest 62 = .ok (.lstore 6, 2) := by decide +kernel
theorem dX0_lowest_64 : decode cX0_lowest 64 = .ok (.lload_n 2, 1) := by decide +kernel
theorem dX0_lowest_65 : decode cX0_lowest 65 = .ok (.lconst 0, 1) := by decide +kernel
theorem dX0_lowest_66 : decode cX0_lowest 66 = .ok (.lcmp, 1) := by decide +kernel
theorem dX0_lowest_67 : decode cX0_lowest 67 = .ok (.ifCond .ne 8, 3) := by decide +kernel
theorem dX0_lowest_70 : decode cX0_lowest 70 = .ok (.lload 6, 2) := by decide +kernel
theorem dX0_lowest_72 : decode cX0_lowest 72 = .ok (.goto 7, 3) := by decide +kernel
theorem dX0_lowest_75 : decode cX0_lowest 75 = .ok (.lload 6, 2) := by decide +kernel
theorem dX0_lowest_77 : decode cX0_lowest 77 = .ok (.lload_n 2, 1) := by decide +kernel
theorem dX0_lowest_78 : decode cX0_lowest 78 = .ok (.ldiv, 1) := by decide +kernel
theorem dX0_lowest_79 : decode cX0_lowest 79 = .ok (.lreturn, 1) := by decide +kernel
set_option maxRecDepth 20000 in
theorem ggX1_init_X0_init : GoodIn wsX1_init wsX0_init := goodIn_r _ [9, 10, 2, 3, 11, 12, 13, 14] (by decide +kernel) (by decide +kernel)
set_option maxRecDepth 20000 in
theorem gX1_init_X0_init_n11 : GoodIn wsX1_init (wsX0_init) := ggX1_init_X0_init
theorem dX1_init_0 : decode cX1_init 0 = .ok (.aload_n 0, 1) := by decide +kernel
theorem dX1_init_1 : decode cX1_init 1 = .ok (.invokespecial 3, 3) := by decide +kernel
theorem dX1_init_4 : decode cX1_init 4 = .ok (.aload_n 0, 1) := by decide +kernel
theorem dX1_init_5 : decode cX1_init 5 = .ok (.new 9, 3) := by decide +kernel
theorem dX1_init_8 : decode cX1_init 8 = .ok (.dup, 1) := by decide +kernel
theorem dX1_init_9 : decode cX1_init 9 = .ok (.invokespecial 11, 3) := by decide +kernel
theorem dX1_init_12 : decode cX1_init 12 = .ok (.putfield 12, 3) := by decide +kernel
theorem dX1_init_15 : decode cX1_init 15 = .ok (.return_, 1) := by decide +kernel
set_option maxRecDepth 20000 in
theorem ggX1_go_X0_begin : GoodIn wsX1_go wsX0_begin := goodIn_r _ [13, 14, 15, 61, 62] (by decide +kernel) (by decide +kernel)
set_option maxRecDepth 20000 in
theorem gX1_go_X0_begin : GoodIn wsX1_go (wsV RX1 18 RX0 yX0_begin wsX0_begin) := goodIn_app (goodIn_of _ (by decide +kernel)) ggX1_go_X0_begin
set_option maxRecDepth 20000 in
theorem ggX1_go_X5_rule : GoodIn wsX1_go wsX5_rule := goodIn_r _ [20, 21, 22, 23, 24, 63, 64, 65, 66, 67, 68, 69, 70, 71, 72, 73, 74, 75] (by decide +kernel) (by decide +kernel)
set_option maxRecDepth 20000 in
theorem gX1_go_X5_rule : GoodIn wsX1_go (wsV RX1 31 RX5 yX5_rule wsX5_rule) := goodIn_app (goodIn_of _ (by decide +kernel)) ggX1_go_X5_rule
set_option maxRecDepth 20000 in
theorem ggX1_go_X5_prideOf : GoodIn wsX1_go wsX5_prideOf := goodIn_r _ [28, 29, 22, 23, 24, 63, 64, 65, 66, 67, 68, 69, 70, 71, 72, 73, 74, 75] (by decide +kernel) (by decide +kernel)
set_option maxRecDepth 20000 in
theorem gX1_go_X5_prideOf : GoodIn wsX1_go (wsV RX1 43 RX5 yX5_prideOf wsX5_prideOf) := goodIn_app (goodIn_of _ (by decide +kernel)) ggX1_go_X5_prideOf
set_option maxRecDepth 20000 in
theorem ggX1_go_X5_dares : GoodIn wsX1_go wsX5_dares := goodIn_r _ [33, 34, 35, 36, 19, 37, 21, 38, 22, 23, 24, 39, 40, 41, 42, 43, 44, 45, 7, 46, 47, 6, 8, 48, 49, 50, 63, 64, 65, 66, 67, 68, 69, 70, 71, 72, 73, 74, 75] (by decide +kernel) (by decide +kernel)
set_option maxRecDepth 20000 in
theorem gX1_go_X5_dares : GoodIn wsX1_go (wsV RX1 46 RX5 yX5_dares wsX5_dares) := goodIn_app (goodIn_of _ (by decide +kernel)) ggX1_go_X5_dares
set_option maxRecDepth 20000 in
theorem ggX1_go_X5_oddsOf : GoodIn wsX1_go wsX5_oddsOf := goodIn_r _ [42, 21, 43, 44, 45, 7, 46, 47, 6, 8, 22, 23, 24, 63, 64, 65, 66, 67, 68, 69, 70, 71, 72, 73, 74, 75] (by decide +kernel) (by decide +kernel)
set_option maxRecDepth 20000 in
theorem gX1_go_X5_oddsOf : GoodIn wsX1_go (wsV RX1 50 RX5 yX5_oddsOf wsX5_oddsOf) := goodIn_app (goodIn_of _ (by decide +kernel)) ggX1_go_X5_oddsOf
set_option maxRecDepth 20000 in
theorem ggX1_go_X0_goesWell : GoodIn wsX1_go wsX0_goesWell := goodIn_r _ [55, 14, 15, 56, 61, 62] (by decide +kernel) (by decide +kernel)
set_option maxRecDepth 20000 in
theorem gX1_go_X0_goesWell : GoodIn wsX1_go (wsV RX1 53 RX0 yX0_goesWell wsX0_goesWell) := goodIn_app (goodIn_of _ (by decide +kernel)) ggX1_go_X0_goesWell
theorem dX1_go_0 : decode cX1_go 0 = .ok (.aload_n 0, 1) := by decide +kernel
theorem dX1_go_1 : decode cX1_go 1 = .ok (.getfield 12, 3) := by decide +kernel
theorem dX1_go_4 : decode cX1_go 4 = .ok (.invokevirtual 18, 3) := by decide +kernel
theorem dX1_go_7 : decode cX1_go 7 = .ok (.aload_n 0, 1) := by decide +kernel
theorem dX1_go_8 : decode cX1_go 8 = .ok (.iconst 0, 1) := by decide +kernel
theorem dX1_go_9 : decode cX1_go 9 = .ok (.putfield 21, 3) := by decide +kernel
theorem dX1_go_12 : decode cX1_go 12 = .ok (.aload_n 0, 1) := by decide +kernel
theorem dX1_go_13 : decode cX1_go 13 = .ok (.iload 4, 2) := by decide +kernel
theorem dX1_go_15 : decode cX1_go 15 = .ok (.putfield 25, 3) := by decide +kernel
theorem dX1_go_18 : decode cX1_go 18 = .ok (.aload_n 0, 1) := by decide +kernel
theorem dX1_go_19 : decode cX1_go 19 = .ok (.bipush (-6), 2) := by decide +kernel
theorem dX1_go_21 : decode cX1_go 21 = .ok (.putfield 28, 3) := by decide +kernel
theorem dX1_go_24 : decode cX1_go 24 = .ok (.aload_n 1, 1) := by decide +kernel
theorem dX1_go_25 : decode cX1_go 25 = .ok (.ifnonnull 4, 3) := by decide +kernel
theorem dX1_go_28 : decode cX1_go 28 = .ok (.return_, 1) := by decide +kernel
theorem dX1_go_29 : decode cX1_go 29 = .ok (.iconst 1, 1) := by decide +kernel
theorem dX1_go_30 : decode cX1_go 30 = .ok (.aload_n 1, 1) := by decide +kernel
theorem dX1_go_31 : decode cX1_go 31 = .ok (.iconst 0, 1) := by decide +kernel
theorem dX1_go_32 : decode cX1_go 32 = .ok (.invokevirtual 31, 3) := by decide +kernel
theorem dX1_go_35 : decode cX1_go 35 = .ok (.invokestatic 37, 3) := by decide +kernel
theorem dX1_go_38 : decode cX1_go 38 = .ok (.istore 6, 2) := by decide +kernel
theorem dX1_go_40 : decode cX1_go 40 = .ok (.iload_n 3, 1) := by decide +kernel
theorem dX1_go_41 : decode cX1_go 41 = .ok (.istore 7, 2) := by decide +kernel
theorem dX1_go_43 : decode cX1_go 43 = .ok (.iload 4, 2) := by decide +kernel
theorem dX1_go_45 : decode cX1_go 45 = .ok (.istore 8, 2) := by decide +kernel
theorem dX1_go_47 : decode cX1_go 47 = .ok (.iload 8, 2) := by decide +kernel
theorem dX1_go_49 : decode cX1_go 49 = .ok (.iload 5, 2) := by decide +kernel
theorem dX1_go_51 : decode cX1_go 51 = .ok (.if_icmp .gt 81, 3) := by decide +kernel
theorem dX1_go_54 : decode cX1_go 54 = .ok (.aload_n 0, 1) := by decide +kernel
theorem dX1_go_55 : decode cX1_go 55 = .ok (.iload 8, 2) := by decide +kernel
theorem dX1_go_57 : decode cX1_go 57 = .ok (.putfield 25, 3) := by decide +kernel
theorem dX1_go_60 : decode cX1_go 60 = .ok (.aload_n 1, 1) := by decide +kernel
theorem dX1_go_61 : decode cX1_go 61 = .ok (.iload 7, 2) := by decide +kernel
theorem dX1_go_63 : decode cX1_go 63 = .ok (.iload 8, 2) := by decide +kernel
theorem dX1_go_65 : decode cX1_go 65 = .ok (.aload_n 1, 1) := by decide +kernel
theorem dX1_go_66 : decode cX1_go 66 = .ok (.iload 7, 2) := by decide +kernel
theorem dX1_go_68 : decode cX1_go 68 = .ok (.invokevirtual 43, 3) := by decide +kernel
theorem dX1_go_71 : decode cX1_go 71 = .ok (.invokevirtual 46, 3) := by decide +kernel
theorem dX1_go_74 : decode cX1_go 74 = .ok (.ifCond .ne 10, 3) := by decide +kernel
theorem dX1_go_77 : decode cX1_go 77 = .ok (.aload_n 0, 1) := by decide +kernel
theorem dX1_go_78 : decode cX1_go 78 = .ok (.iload 7, 2) := by decide +kernel
theorem dX1_go_80 : decode cX1_go 80 = .ok (.putfield 28, 3) := by decide +kernel
theorem dX1_go_83 : decode cX1_go 83 = .ok (.return_, 1) := by decide +kernel
theorem dX1_go_84 : decode cX1_go 84 = .ok (.aload_n 0, 1) := by decide +kernel
theorem dX1_go_85 : decode cX1_go 85 = .ok (.dup, 1) := by decide +kernel
theorem dX1_go_86 : decode cX1_go 86 = .ok (.getfield 21, 3) := by decide +kernel
theorem dX1_go_89 : decode cX1_go 89 = .ok (.iconst 1, 1) := by decide +kernel
theorem dX1_go_90 : decode cX1_go 90 = .ok (.iadd, 1) := by decide +kernel
theorem dX1_go_91 : decode cX1_go 91 = .ok (.putfield 21, 3) := by decide +kernel
theorem dX1_go_94 : decode cX1_go 94 = .ok (.aload_n 0, 1) := by decide +kernel
theorem dX1_go_95 : decode cX1_go 95 = .ok (.getfield 12, 3) := by decide +kernel
theorem dX1_go_98 : decode cX1_go 98 = .ok (.aload_n 1, 1) := by decide +kernel
theorem dX1_go_99 : decode cX1_go 99 = .ok (.iload 7, 2) := by decide +kernel
theorem dX1_go_101 : decode cX1_go 101 = .ok (.iload 8, 2) := by decide +kernel
theorem dX1_go_103 : decode cX1_go 103 = .ok (.invokevirtual 50, 3) := by decide +kernel
theorem dX1_go_106 : decode cX1_go 106 = .ok (.invokevirtual 53, 3) := by decide +kernel
theorem dX1_go_109 : decode cX1_go 109 = .ok (.iload 7, 2) := by decide +kernel
theorem dX1_go_111 : decode cX1_go 111 = .ok (.iload_n 3, 1) := by decide +kernel
theorem dX1_go_112 : decode cX1_go 112 = .ok (.if_icmp .ne 7, 3) := by decide +kernel
theorem dX1_go_115 : decode cX1_go 115 = .ok (.iload_n 2, 1) := by decide +kernel
theorem dX1_go_116 : decode cX1_go 116 = .ok (.goto 4, 3) := by decide +kernel
theorem dX1_go_119 : decode cX1_go 119 = .ok (.iload_n 3, 1) := by decide +kernel
theorem dX1_go_120 : decode cX1_go 120 = .ok (.istore 7, 2) := by decide +kernel
theorem dX1_go_122 : decode cX1_go 122 = .ok (.iload 8, 2) := by decide +kernel
theorem dX1_go_124 : decode cX1_go 124 = .ok (.iload 6, 2) := by decide +kernel
theorem dX1_go_126 : decode cX1_go 126 = .ok (.iadd, 1) := by decide +kernel
theorem dX1_go_127 : decode cX1_go 127 = .ok (.istore 8, 2) := by decide +kernel
theorem dX1_go_129 : decode cX1_go 129 = .ok (.goto (-82), 3) := by decide +kernel
theorem dX1_go_132 : decode cX1_go 132 = .ok (.return_, 1) := by decide +kernel
theorem dX2_init_0 : decode cX2_init 0 = .ok (.aload_n 0, 1) := by decide +kernel
theorem dX2_init_1 : decode cX2_init 1 = .ok (.invokespecial 3, 3) := by decide +kernel
theorem dX2_init_4 : decode cX2_init 4 = .ok (.return_, 1) := by decide +kernel
set_option maxRecDepth 20000 in
theorem ggX2_solve_X5_rule : GoodIn wsX2_solve wsX5_rule := goodIn_r _ [12, 13, 14, 15, 16, 51, 52, 53, 54, 55, 56, 57, 58, 59, 60, 61, 62, 63] (by decide +kernel) (by decide +kernel)
set_option maxRecDepth 20000 in
theorem gX2_solve_X5_rule : GoodIn wsX2_solve (wsV RX2 21 RX5 yX5_rule wsX5_rule) := goodIn_app (goodIn_of _ (by decide +kernel)) ggX2_solve_X5_rule
set_option maxRecDepth 20000 in
theorem ggX2_solve_X2_settle : GoodIn wsX2_solve wsX2_settle := goodIn_r _ [21, 3, 2, 22, 23, 24, 11, 25, 26, 14, 15, 16, 27, 28, 29, 30, 13, 31, 32, 33, 34, 35, 36, 37, 38, 6, 39, 40, 5, 7, 41, 42, 43, 44, 45, 46, 20, 47, 1, 48, 49, 50, 51, 52, 53, 54, 55, 56, 57, 58, 59, 60, 61, 62, 63] (by decide +kernel) (by decide +kernel)
set_option maxRecDepth 20000 in
theorem gX2_solve_X2_settle : GoodIn wsX2_solve (wsV RX2 33 RX2 yX2_settle wsX2_settle) := goodIn_app (goodIn_of _ (by decide +kernel)) ggX2_solve_X2_settle
theorem dX2_solve_0 : decode cX2_solve 0 = .ok (.aload_n 0, 1) := by decide +kernel
theorem dX2_solve_1 : decode cX2_solve 1 = .ok (.iconst 0, 1) := by decide +kernel
theorem dX2_solve_2 : decode cX2_solve 2 = .ok (.putfield 9, 3) := by decide +kernel
theorem dX2_solve_5 : decode cX2_solve 5 = .ok (.aload_n 0, 1) := by decide +kernel
theorem dX2_solve_6 : decode cX2_solve 6 = .ok (.iconst 0, 1) := by decide +kernel
theorem dX2_solve_7 : decode cX2_solve 7 = .ok (.putfield 15, 3) := by decide +kernel
theorem dX2_solve_10 : decode cX2_solve 10 = .ok (.aload_n 0, 1) := by decide +kernel
theorem dX2_solve_11 : decode cX2_solve 11 = .ok (.iconst 0, 1) := by decide +kernel
theorem dX2_solve_12 : decode cX2_solve 12 = .ok (.putfield 18, 3) := by decide +kernel
theorem dX2_solve_15 : decode cX2_solve 15 = .ok (.aload_n 1, 1) := by decide +kernel
theorem dX2_solve_16 : decode cX2_solve 16 = .ok (.ifnonnull 4, 3) := by decide +kernel
theorem dX2_solve_19 : decode cX2_solve 19 = .ok (.return_, 1) := by decide +kernel
theorem dX2_solve_20 : decode cX2_solve 20 = .ok (.iconst 1, 1) := by decide +kernel
theorem dX2_solve_21 : decode cX2_solve 21 = .ok (.aload_n 1, 1) := by decide +kernel
theorem dX2_solve_22 : decode cX2_solve 22 = .ok (.iconst 0, 1) := by decide +kernel
theorem dX2_solve_23 : decode cX2_solve 23 = .ok (.invokevirtual 21, 3) := by decide +kernel
theorem dX2_solve_26 : decode cX2_solve 26 = .ok (.invokestatic 27, 3) := by decide +kernel
theorem dX2_solve_29 : decode cX2_solve 29 = .ok (.istore 6, 2) := by decide +kernel
theorem dX2_solve_31 : decode cX2_solve 31 = .ok (.bipush 15, 2) := by decide +kernel
theorem dX2_solve_33 : decode cX2_solve 33 = .ok (.istore 7, 2) := by decide +kernel
theorem dX2_solve_35 : decode cX2_solve 35 = .ok (.iload 7, 2) := by decide +kernel
theorem dX2_solve_37 : decode cX2_solve 37 = .ok (.ifCond .lt 67, 3) := by decide +kernel
theorem dX2_solve_40 : decode cX2_solve 40 = .ok (.iload 4, 2) := by decide +kernel
theorem dX2_solve_42 : decode cX2_solve 42 = .ok (.iload 7, 2) := by decide +kernel
theorem dX2_solve_44 : decode cX2_solve 44 = .ok (.iload 6, 2) := by decide +kernel
theorem dX2_solve_46 : decode cX2_solve 46 = .ok (.imul, 1) := by decide +kernel
theorem dX2_solve_47 : decode cX2_solve 47 = .ok (.iadd, 1) := by decide +kernel
theorem dX2_solve_48 : decode cX2_solve 48 = .ok (.istore 8, 2) := by decide +kernel
theorem dX2_solve_50 : decode cX2_solve 50 = .ok (.iload 8, 2) := by decide +kernel
theorem dX2_solve_52 : decode cX2_solve 52 = .ok (.iload 5, 2) := by decide +kernel
theorem dX2_solve_54 : decode cX2_solve 54 = .ok (.if_icmp .gt 44, 3) := by decide +kernel
theorem dX2_solve_57 : decode cX2_solve 57 = .ok (.iload 7, 2) := by decide +kernel
theorem dX2_solve_59 : decode cX2_solve 59 = .ok (.iconst 2, 1) := by decide +kernel
theorem dX2_solve_60 : decode cX2_solve 60 = .ok (.irem, 1) := by decide +kernel
theorem dX2_solve_61 : decode cX2_solve 61 = .ok (.ifCond .ne 7, 3) := by decide +kernel
theorem dX2_solve_64 : decode cX2_solve 64 = .ok (.iconst 1, 1) := by decide +kernel
theorem dX2_solve_65 : decode cX2_solve 65 = .ok (.goto 4, 3) := by decide +kernel
theorem dX2_solve_68 : decode cX2_solve 68 = .ok (.iconst 0, 1) := by decide +kernel
theorem dX2_solve_69 : decode cX2_solve 69 = .ok (.istore 9, 2) := by decide +kernel
theorem dX2_solve_71 : decode cX2_solve 71 = .ok (.aload_n 0, 1) := by decide +kernel
theorem dX2_solve_72 : decode cX2_solve 72 = .ok (.aload_n 1, 1) := by decide +kernel
theorem dX2_solve_73 : decode cX2_solve 73 = .ok (.iload 9, 2) := by decide +kernel
theorem dX2_solve_75 : decode cX2_solve 75 = .ok (.ifCond .eq 7, 3) := by decide +kernel
theorem dX2_solve_78 : decode cX2_solve 78 = .ok (.iload_n 2, 1) := by decide +kernel
theorem dX2_solve_79 : decode cX2_solve 79 = .ok (.goto 4, 3) := by decide +kernel
theorem dX2_solve_82 : decode cX2_solve 82 = .ok (.iload_n 3, 1) := by decide +kernel
theorem dX2_solve_83 : decode cX2_solve 83 = .ok (.iload 9, 2) := by decide +kernel
theorem dX2_solve_85 : decode cX2_solve 85 = .ok (.ifCond .eq 7, 3) := by decide +kernel
theorem dX2_solve_88 : decode cX2_solve 88 = .ok (.iload_n 3, 1) := by decide +kernel
theorem dX2_solve_89 : decode cX2_solve 89 = .ok (.goto 4, 3) := by decide +kernel
theorem dX2_solve_92 : decode cX2_solve 92 = .ok (.iload_n 2, 1) := by decide +kernel
theorem dX2_solve_93 : decode cX2_solve 93 = .ok (.iload 8, 2) := by decide +kernel
theorem dX2_solve_95 : decode cX2_solve 95 = .ok (.invokevirtual 33, 3) := by decide +kernel
theorem dX2_solve_98 : decode cX2_solve 98 = .ok (.iinc 7 (-1), 3) := by decide +kernel
theorem dX2_solve_101 : decode cX2_solve 101 = .ok (.goto (-66), 3) := by decide +kernel
theorem dX2_solve_104 : decode cX2_solve 104 = .ok (.return_, 1) := by decide +kernel
set_option maxRecDepth 20000 in
theorem ggX2_settle_X5_prideOf : GoodIn wsX2_settle wsX5_prideOf := goodIn_r _ [7, 8, 9, 10, 11, 42, 43, 44, 45, 46, 47, 48, 49, 50, 51, 52, 53, 54] (by decide +kernel) (by decide +kernel)
set_option maxRecDepth 20000 in
theorem gX2_settle_X5_prideOf : GoodIn wsX2_settle (wsV RX2 37 RX5 yX5_prideOf wsX5_prideOf) := goodIn_app (goodIn_of _ (by decide +kernel)) ggX2_settle_X5_prideOf
set_option maxRecDepth 20000 in
theorem ggX2_settle_X5_worthDone : GoodIn wsX2_settle wsX5_worthDone := goodIn_r _ [15, 16, 17, 9, 10, 11, 18, 19, 20, 6, 21, 22, 23, 24, 25, 26, 27, 28, 29, 42, 43, 44, 45, 46, 47, 48, 49, 50, 51, 52, 53, 54] (by decide +kernel) (by decide +kernel)
set_option maxRecDepth 20000 in
theorem gX2_settle_X5_worthDone : GoodIn wsX2_settle (wsV RX2 40 RX5 yX5_worthDone wsX5_worthDone) := goodIn_app (goodIn_of _ (by decide +kernel)) ggX2_settle_X5_worthDone
set_option maxRecDepth 20000 in
theorem ggX2_settle_X5_worthRefused : GoodIn wsX2_settle wsX5_worthRefused := goodIn_r _ [32] (by decide +kernel) (by decide +kernel)
set_option maxRecDepth 20000 in
theorem gX2_settle_X5_worthRefused : GoodIn wsX2_settle (va_wsS RX2 44 yX5_worthRefused wsX5_worthRefused) := goodIn_app (goodIn_of _ (by decide +kernel)) ggX2_settle_X5_worthRefused
set_option maxRecDepth 20000 in
theorem ggX2_settle_X2_settleFor : GoodIn wsX2_settle wsX2_settleFor := goodIn_r _ [37, 38, 2, 1, 39, 40, 41] (by decide +kernel) (by decide +kernel)
set_option maxRecDepth 20000 in
theorem gX2_settle_X2_settleFor : GoodIn wsX2_settle (wsV RX2 47 RX2 yX2_settleFor wsX2_settleFor) := goodIn_app (goodIn_of _ (by decide +kernel)) ggX2_settle_X2_settleFor
theorem dX2_settle_0 : decode cX2_settle 0 = .ok (.aload_n 1, 1) := by decide +kernel
theorem dX2_settle_1 : decode cX2_settle 1 = .ok (.ifnonnull 4, 3) := by decide +kernel
theorem dX2_settle_4 : decode cX2_settle 4 = .ok (.return_, 1) := by decide +kernel
theorem dX2_settle_5 : decode cX2_settle 5 = .ok (.aload_n 1, 1) := by decide +kernel
theorem dX2_settle_6 : decode cX2_settle 6 = .ok (.iload_n 3, 1) := by decide +kernel
theorem dX2_settle_7 : decode cX2_settle 7 = .ok (.invokevirtual 37, 3) := by decide +kernel
theorem dX2_settle_10 : decode cX2_settle 10 = .ok (.istore 5, 2) := by decide +kernel
theorem dX2_settle_12 : decode cX2_settle 12 = .ok (.aload_n 1, 1) := by decide +kernel
theorem dX2_settle_13 : decode cX2_settle 13 = .ok (.iload_n 3, 1) := by decide +kernel
theorem dX2_settle_14 : decode cX2_settle 14 = .ok (.iload 4, 2) := by decide +kernel
theorem dX2_settle_16 : decode cX2_settle 16 = .ok (.iload 5, 2) := by decide +kernel
theorem dX2_settle_18 : decode cX2_settle 18 = .ok (.invokevirtual 40, 3) := by decide +kernel
theorem dX2_settle_21 : decode cX2_settle 21 = .ok (.aload_n 0, 1) := by decide +kernel
theorem dX2_settle_22 : decode cX2_settle 22 = .ok (.getfield 18, 3) := by decide +kernel
theorem dX2_settle_25 : decode cX2_settle 25 = .ok (.iadd, 1) := by decide +kernel
theorem dX2_settle_26 : decode cX2_settle 26 = .ok (.istore 6, 2) := by decide +kernel
theorem dX2_settle_28 : decode cX2_settle 28 = .ok (.aload_n 0, 1) := by decide +kernel
theorem dX2_settle_29 : decode cX2_settle 29 = .ok (.getfield 15, 3) := by decide +kernel
theorem dX2_settle_32 : decode cX2_settle 32 = .ok (.istore 7, 2) := by decide +kernel
theorem dX2_settle_34 : decode cX2_settle 34 = .ok (.iload 4, 2) := by decide +kernel
theorem dX2_settle_36 : decode cX2_settle 36 = .ok (.iload 5, 2) := by decide +kernel
theorem dX2_settle_38 : decode cX2_settle 38 = .ok (.invokestatic 44, 3) := by decide +kernel
theorem dX2_settle_41 : decode cX2_settle 41 = .ok (.istore 8, 2) := by decide +kernel
theorem dX2_settle_43 : decode cX2_settle 43 = .ok (.aload_n 1, 1) := by decide +kernel
theorem dX2_settle_44 : decode cX2_settle 44 = .ok (.iload_n 2, 1) := by decide +kernel
theorem dX2_settle_45 : decode cX2_settle 45 = .ok (.iload 4, 2) := by decide +kernel
theorem dX2_settle_47 : decode cX2_settle 47 = .ok (.aload_n 1, 1) := by decide +kernel
theorem dX2_settle_48 : decode cX2_settle 48 = .ok (.iload_n 2, 1) := by decide +kernel
theorem dX2_settle_49 : decode cX2_settle 49 = .ok (.invokevirtual 37, 3) := by decide +kernel
theorem dX2_settle_52 : decode cX2_settle 52 = .ok (.invokevirtual 40, 3) := by decide +kernel
theorem dX2_settle_55 : decode cX2_settle 55 = .ok (.aload_n 0, 1) := by decide +kernel
theorem dX2_settle_56 : decode cX2_settle 56 = .ok (.getfield 15, 3) := by decide +kernel
theorem dX2_settle_59 : decode cX2_settle 59 = .ok (.iadd, 1) := by decide +kernel
theorem dX2_settle_60 : decode cX2_settle 60 = .ok (.istore 9, 2) := by decide +kernel
theorem dX2_settle_62 : decode cX2_settle 62 = .ok (.bipush (-10), 2) := by decide +kernel
theorem dX2_settle_64 : decode cX2_settle 64 = .ok (.aload_n 1, 1) := by decide +kernel
theorem dX2_settle_65 : decode cX2_settle 65 = .ok (.iload_n 2, 1) := by decide +kernel
theorem dX2_settle_66 : decode cX2_settle 66 = .ok (.invokevirtual 37, 3) := by decide +kernel
theorem dX2_settle_69 : decode cX2_settle 69 = .ok (.imul, 1) := by decide +kernel
theorem dX2_settle_70 : decode cX2_settle 70 = .ok (.iload 4, 2) := by decide +kernel
theorem dX2_settle_72 : decode cX2_settle 72 = .ok (.imul, 1) := by decide +kernel
theorem dX2_settle_73 : decode cX2_settle 73 = .ok (.istore 10, 2) := by decide +kernel
theorem dX2_settle_75 : decode cX2_settle 75 = .ok (.iload 9, 2) := by decide +kernel
theorem dX2_settle_77 : decode cX2_settle 77 = .ok (.iload 10, 2) := by decide +kernel
theorem dX2_settle_79 : decode cX2_settle 79 = .ok (.if_icmp .lt 7, 3) := by decide +kernel
theorem dX2_settle_82 : decode cX2_settle 82 = .ok (.iconst 1, 1) := by decide +kernel
theorem dX2_settle_83 : decode cX2_settle 83 = .ok (.goto 4, 3) := by decide +kernel
theorem dX2_settle_86 : decode cX2_settle 86 = .ok (.iconst 0, 1) := by decide +kernel
theorem dX2_settle_87 : decode cX2_settle 87 = .ok (.istore 11, 2) := by decide +kernel
theorem dX2_settle_89 : decode cX2_settle 89 = .ok (.iload 11, 2) := by decide +kernel
theorem dX2_settle_91 : decode cX2_settle 91 = .ok (.ifCond .eq 8, 3) := by decide +kernel
theorem dX2_settle_94 : decode cX2_settle 94 = .ok (.iload 6, 2) := by decide +kernel
theorem dX2_settle_96 : decode cX2_settle 96 = .ok (.goto 10, 3) := by decide +kernel
theorem dX2_settle_99 : decode cX2_settle 99 = .ok (.iconst 5, 1) := by decide +kernel
theorem dX2_settle_100 : decode cX2_settle 100 = .ok (.iload 5, 2) := by decide +kernel
theorem dX2_settle_102 : decode cX2_settle 102 = .ok (.imul, 1) := by decide +kernel
theorem dX2_settle_103 : decode cX2_settle 103 = .ok (.iload 4, 2) := by decide +kernel
theorem dX2_settle_105 : decode cX2_settle 105 = .ok (.imul, 1) := by decide +kernel
theorem dX2_settle_106 : decode cX2_settle 106 = .ok (.istore 12, 2) := by decide +kernel
theorem dX2_settle_108 : decode cX2_settle 108 = .ok (.iload 6, 2) := by decide +kernel
theorem dX2_settle_110 : decode cX2_settle 110 = .ok (.iload 8, 2) := by decide +kernel
theorem dX2_settle_112 : decode cX2_settle 112 = .ok (.if_icmp .lt 22, 3) := by decide +kernel
theorem dX2_settle_115 : decode cX2_settle 115 = .ok (.iload 6, 2) := by decide +kernel
theorem dX2_settle_117 : decode cX2_settle 117 = .ok (.iload 12, 2) := by decide +kernel
theorem dX2_settle_119 : decode cX2_settle 119 = .ok (.if_icmp .lt 15, 3) := by decide +kernel
theorem dX2_settle_122 : decode cX2_settle 122 = .ok (.aload_n 0, 1) := by decide +kernel
theorem dX2_settle_123 : decode cX2_settle 123 = .ok (.iconst 0, 1) := by decide +kernel
theorem dX2_settle_124 : decode cX2_settle 124 = .ok (.iload 6, 2) := by decide +kernel
theorem dX2_settle_126 : decode cX2_settle 126 = .ok (.iload 7, 2) := by decide +kernel
theorem dX2_settle_128 : decode cX2_settle 128 = .ok (.invokevirtual 47, 3) := by decide +kernel
theorem dX2_settle_131 : decode cX2_settle 131 = .ok (.goto 40, 3) := by decide +kernel
theorem dX2_settle_134 : decode cX2_settle 134 = .ok (.iload 8, 2) := by decide +kernel
theorem dX2_settle_136 : decode cX2_settle 136 = .ok (.iload 12, 2) := by decide +kernel
theorem dX2_settle_138 : decode cX2_settle 138 = .ok (.if_icmp .lt 14, 3) := by decide +kernel
theorem dX2_settle_141 : decode cX2_settle 141 = .ok (.aload_n 0, 1) := by decide +kernel
theorem dX2_settle_142 : decode cX2_settle 142 = .ok (.iconst 1, 1) := by decide +kernel
theorem dX2_settle_143 : decode cX2_settle 143 = .ok (.iload 8, 2) := by decide +kernel
theorem dX2_settle_145 : decode cX2_settle 145 = .ok (.iconst 0, 1) := by decide +kernel
theorem dX2_settle_146 : decode cX2_settle 146 = .ok (.invokevirtual 47, 3) := by decide +kernel
theorem dX2_settle_149 : decode cX2_settle 149 = .ok (.goto 22, 3) := by decide +kernel
theorem dX2_settle_152 : decode cX2_settle 152 = .ok (.aload_n 0, 1) := by decide +kernel
theorem dX2_settle_153 : decode cX2_settle 153 = .ok (.iconst 2, 1) := by decide +kernel
theorem dX2_settle_154 : decode cX2_settle 154 = .ok (.iload 12, 2) := by decide +kernel
theorem dX2_settle_156 : decode cX2_settle 156 = .ok (.iload 11, 2) := by decide +kernel
theorem dX2_settle_158 : decode cX2_settle 158 = .ok (.ifCond .eq 8, 3) := by decide +kernel
theorem dX2_settle_161 : decode cX2_settle 161 = .ok (.iload 9, 2) := by decide +kernel
theorem dX2_settle_163 : decode cX2_settle 163 = .ok (.goto 5, 3) := by decide +kernel
theorem dX2_settle_166 : decode cX2_settle 166 = .ok (.iload 10, 2) := by decide +kernel
theorem dX2_settle_168 : decode cX2_settle 168 = .ok (.invokevirtual 47, 3) := by decide +kernel
theorem dX2_settle_171 : decode cX2_settle 171 = .ok (.return_, 1) := by decide +kernel
theorem dX2_settleFor_0 : decode cX2_settleFor 0 = .ok (.aload_n 0, 1) := by decide +kernel
theorem dX2_settleFor_1 : decode cX2_settleFor 1 = .ok (.iload_n 1, 1) := by decide +kernel
theorem dX2_settleFor_2 : decode cX2_settleFor 2 = .ok (.putfield 9, 3) := by decide +kernel
theorem dX2_settleFor_5 : decode cX2_settleFor 5 = .ok (.aload_n 0, 1) := by decide +kernel
theorem dX2_settleFor_6 : decode cX2_settleFor 6 = .ok (.iload_n 2, 1) := by decide +kernel
theorem dX2_settleFor_7 : decode cX2_settleFor 7 = .ok (.putfield 15, 3) := by decide +kernel
theorem dX2_settleFor_10 : decode cX2_settleFor 10 = .ok (.aload_n 0, 1) := by decide +kernel
theorem dX2_settleFor_11 : decode cX2_settleFor 11 = .ok (.iload_n 3, 1) := by decide +kernel
theorem dX2_settleFor_12 : decode cX2_settleFor 12 = .ok (.putfield 18, 3) := by decide +kernel
theorem dX2_settleFor_15 : decode cX2_settleFor 15 = .ok (.return_, 1) := by decide +kernel
theorem dX3_init_0 : decode cX3_init 0 = .ok (.aload_n 0, 1) := by decide +kernel
theorem dX3_init_1 : decode cX3_init 1 = .ok (.invokespecial 3, 3) := by decide +kernel
theorem dX3_init_4 : decode cX3_init 4 = .ok (.aload_n 0, 1) := by decide +kernel
theorem dX3_init_5 : decode cX3_init 5 = .ok (.bipush 60, 2) := by decide +kernel
theorem dX3_init_7 : decode cX3_init 7 = .ok (.newarray .int, 2) := by decide +kernel
theorem dX3_init_9 : decode cX3_init 9 = .ok (.putfield 9, 3) := by decide +kernel
theorem dX3_init_12 : decode cX3_init 12 = .ok (.aload_n 0, 1) := by decide +kernel
theorem dX3_init_13 : decode cX3_init 13 = .ok (.iconst 0, 1) := by decide +kernel
theorem dX3_init_14 : decode cX3_init 14 = .ok (.putfield 15, 3) := by decide +kernel
theorem dX3_init_17 : decode cX3_init 17 = .ok (.return_, 1) := by decide +kernel
set_option maxRecDepth 20000 in
theorem ggX3_add_X7_put : GoodIn wsX3_add wsX7_put := goodIn_r _ [5] (by decide +kernel) (by decide +kernel)
set_option maxRecDepth 20000 in
theorem gX3_add_X7_put_n19 : GoodIn wsX3_add (wsX7_put) := ggX3_add_X7_put
theorem dX3_add_0 : decode cX3_add 0 = .ok (.aload_n 0, 1) := by decide +kernel
theorem dX3_add_1 : decode cX3_add 1 = .ok (.getfield 15, 3) := by decide +kernel
theorem dX3_add_4 : decode cX3_add 4 = .ok (.bipush 60, 2) := by decide +kernel
theorem dX3_add_6 : decode cX3_add 6 = .ok (.if_icmp .lt 5, 3) := by decide +kernel
theorem dX3_add_9 : decode cX3_add 9 = .ok (.iconst 0, 1) := by decide +kernel
theorem dX3_add_10 : decode cX3_add 10 = .ok (.ireturn, 1) := by decide +kernel
theorem dX3_add_11 : decode cX3_add 11 = .ok (.aload_n 0, 1) := by decide +kernel
theorem dX3_add_12 : decode cX3_add 12 = .ok (.getfield 9, 3) := by decide +kernel
theorem dX3_add_15 : decode cX3_add 15 = .ok (.aload_n 0, 1) := by decide +kernel
theorem dX3_add_16 : decode cX3_add 16 = .ok (.getfield 15, 3) := by decide +kernel
theorem dX3_add_19 : decode cX3_add 19 = .ok (.iload_n 1, 1) := by decide +kernel
theorem dX3_add_20 : decode cX3_add 20 = .ok (.invokestatic 19, 3) := by decide +kernel
theorem dX3_add_23 : decode cX3_add 23 = .ok (.aload_n 0, 1) := by decide +kernel
theorem dX3_add_24 : decode cX3_add 24 = .ok (.dup, 1) := by decide +kernel
theorem dX3_add_25 : decode cX3_add 25 = .ok (.getfield 15, 3) := by decide +kernel
theorem dX3_add_28 : decode cX3_add 28 = .ok (.iconst 1, 1) := by decide +kernel
theorem dX3_add_29 : decode cX3_add 29 = .ok (.iadd, 1) := by decide +kernel
theorem dX3_add_30 : decode cX3_add 30 = .ok (.putfield 15, 3) := by decide +kernel
theorem dX3_add_33 : decode cX3_add 33 = .ok (.iconst 1, 1) := by decide +kernel
theorem dX3_add_34 : decode cX3_add 34 = .ok (.ireturn, 1) := by decide +kernel
theorem dX3_clear_0 : decode cX3_clear 0 = .ok (.aload_n 0, 1) := by decide +kernel
theorem dX3_clear_1 : decode cX3_clear 1 = .ok (.iconst 0, 1) := by decide +kernel
theorem dX3_clear_2 : decode cX3_clear 2 = .ok (.putfield 15, 3) := by decide +kernel
theorem dX3_clear_5 : decode cX3_clear 5 = .ok (.return_, 1) := by decide +kernel
set_option maxRecDepth 20000 in
theorem ggX3_faultAt_X7_at : GoodIn wsX3_faultAt wsX7_at := goodIn_r _ [5] (by decide +kernel) (by decide +kernel)
set_option maxRecDepth 20000 in
theorem gX3_faultAt_X7_at_n23 : GoodIn wsX3_faultAt (wsX7_at) := ggX3_faultAt_X7_at
set_option maxRecDepth 20000 in
theorem ggX3_faultAt_X3_canStand : GoodIn wsX3_faultAt wsX3_canStand := goodIn_r _ [9, 10, 11, 8, 12, 13, 4, 14] (by decide +kernel) (by decide +kernel)
set_option maxRecDepth 20000 in
theorem gX3_faultAt_X3_canStand : GoodIn wsX3_faultAt (va_wsS RX3 27 yX3_canStand wsX3_canStand) := goodIn_app (goodIn_of _ (by decide +kernel)) ggX3_faultAt_X3_canStand
theorem dX3_faultAt_0 : decode cX3_faultAt 0 = .ok (.iconst 0, 1) := by decide +kernel
theorem dX3_faultAt_1 : decode cX3_faultAt 1 = .ok (.istore_n 1, 1) := by decide +kernel
theorem dX3_faultAt_2 : decode cX3_faultAt 2 = .ok (.iconst 0, 1) := by decide +kernel
theorem dX3_faultAt_3 : decode cX3_faultAt 3 = .ok (.istore_n 2, 1) := by decide +kernel
theorem dX3_faultAt_4 : decode cX3_faultAt 4 = .ok (.iload_n 2, 1) := by decide +kernel
theorem dX3_faultAt_5 : decode cX3_faultAt 5 = .ok (.aload_n 0, 1) := by decide +kernel
theorem dX3_faultAt_6 : decode cX3_faultAt 6 = .ok (.getfield 15, 3) := by decide +kernel
theorem dX3_faultAt_9 : decode cX3_faultAt 9 = .ok (.if_icmp .ge 57, 3) := by decide +kernel
theorem dX3_faultAt_12 : decode cX3_faultAt 12 = .ok (.aload_n 0, 1) := by decide +kernel
theorem dX3_faultAt_13 : decode cX3_faultAt 13 = .ok (.getfield 9, 3) := by decide +kernel
theorem dX3_faultAt_16 : decode cX3_faultAt 16 = .ok (.iload_n 2, 1) := by decide +kernel
theorem dX3_faultAt_17 : decode cX3_faultAt 17 = .ok (.invokestatic 23, 3) := by decide +kernel
theorem dX3_faultAt_20 : decode cX3_faultAt 20 = .ok (.istore_n 3, 1) := by decide +kernel
theorem dX3_faultAt_21 : decode cX3_faultAt 21 = .ok (.iload_n 3, 1) := by decide +kernel
theorem dX3_faultAt_22 : decode cX3_faultAt 22 = .ok (.iload_n 1, 1) := by decide +kernel
theorem dX3_faultAt_23 : decode cX3_faultAt 23 = .ok (.aload_n 0, 1) := by decide +kernel
theorem dX3_faultAt_24 : decode cX3_faultAt 24 = .ok (.getfield 9, 3) := by decide +kernel
theorem dX3_faultAt_27 : decode cX3_faultAt 27 = .ok (.iload_n 2, 1) := by decide +kernel
theorem dX3_faultAt_28 : decode cX3_faultAt 28 = .ok (.iconst 1, 1) := by decide +kernel
theorem dX3_faultAt_29 : decode cX3_faultAt 29 = .ok (.isub, 1) := by decide +kernel
theorem dX3_faultAt_30 : decode cX3_faultAt 30 = .ok (.invokestatic 23, 3) := by decide +kernel
theorem dX3_faultAt_33 : decode cX3_faultAt 33 = .ok (.invokestatic 27, 3) := by decide +kernel
theorem dX3_faultAt_36 : decode cX3_faultAt 36 = .ok (.ifCond .ne 5, 3) := by decide +kernel
theorem dX3_faultAt_39 : decode cX3_faultAt 39 = .ok (.iload_n 2, 1) := by decide +kernel
theorem dX3_faultAt_40 : decode cX3_faultAt 40 = .ok (.ireturn, 1) := by decide +kernel
theorem dX3_faultAt_41 : decode cX3_faultAt 41 = .ok (.iload_n 3, 1) := by decide +kernel
theorem dX3_faultAt_42 : decode cX3_faultAt 42 = .ok (.bipush 46, 2) := by decide +kernel
theorem dX3_faultAt_44 : decode cX3_faultAt 44 = .ok (.if_icmp .eq 8, 3) := by decide +kernel
theorem dX3_faultAt_47 : decode cX3_faultAt 47 = .ok (.iload_n 1, 1) := by decide +kernel
theorem dX3_faultAt_48 : decode cX3_faultAt 48 = .ok (.iconst 4, 1) := by decide +kernel
theorem dX3_faultAt_49 : decode cX3_faultAt 49 = .ok (.if_icmp .ne 7, 3) := by decide +kernel
theorem dX3_faultAt_52 : decode cX3_faultAt 52 = .ok (.iconst 0, 1) := by decide +kernel
theorem dX3_faultAt_53 : decode cX3_faultAt 53 = .ok (.goto 6, 3) := by decide +kernel
theorem dX3_faultAt_56 : decode cX3_faultAt 56 = .ok (.iload_n 1, 1) := by decide +kernel
theorem dX3_faultAt_57 : decode cX3_faultAt 57 = .ok (.iconst 1, 1) := by decide +kernel
theorem dX3_faultAt_58 : decode cX3_faultAt 58 = .ok (.iadd, 1) := by decide +kernel
theorem dX3_faultAt_59 : decode cX3_faultAt 59 = .ok (.istore_n 1, 1) := by decide +kernel
theorem dX3_faultAt_60 : decode cX3_faultAt 60 = .ok (.iinc 2 1, 3) := by decide +kernel
theorem dX3_faultAt_63 : decode cX3_faultAt 63 = .ok (.goto (-59), 3) := by decide +kernel
theorem dX3_faultAt_66 : decode cX3_faultAt 66 = .ok (.iload_n 1, 1) := by decide +kernel
theorem dX3_faultAt_67 : decode cX3_faultAt 67 = .ok (.ifCond .ne 8, 3) := by decide +kernel
theorem dX3_faultAt_70 : decode cX3_faultAt 70 = .ok (.bipush (-6), 2) := by decide +kernel
theorem dX3_faultAt_72 : decode cX3_faultAt 72 = .ok (.goto 7, 3) := by decide +kernel
theorem dX3_faultAt_75 : decode cX3_faultAt 75 = .ok (.aload_n 0, 1) := by decide +kernel
theorem dX3_faultAt_76 : decode cX3_faultAt 76 = .ok (.getfield 15, 3) := by decide +kernel
theorem dX3_faultAt_79 : decode cX3_faultAt 79 = .ok (.ireturn, 1) := by decide +kernel
set_option maxRecDepth 20000 in
theorem ggX3_canStand_X3_isLetter : GoodIn wsX3_canStand wsX3_isLetter := goodIn_r _ [4, 5, 6, 7] (by decide +kernel) (by decide +kernel)
set_option maxRecDepth 20000 in
theorem gX3_canStand_X3_isLetter : GoodIn wsX3_canStand (va_wsS RX3 31 yX3_isLetter wsX3_isLetter) := goodIn_app (goodIn_of _ (by decide +kernel)) ggX3_canStand_X3_isLetter
set_option maxRecDepth 20000 in
theorem ggX3_canStand_X7_within : GoodIn wsX3_canStand wsX7_within := goodIn_r _ [7] (by decide +kernel) (by decide +kernel)
set_option maxRecDepth 20000 in
theorem gX3_canStand_X7_within_n35 : GoodIn wsX3_canStand (wsX7_within) := ggX3_canStand_X7_within
theorem dX3_canStand_0 : decode cX3_canStand 0 = .ok (.iload_n 1, 1) := by decide +kernel
theorem dX3_canStand_1 : decode cX3_canStand 1 = .ok (.tableswitch 99 0 3 #[31, 50, 55, 73], 31) := by decide +kernel
theorem dX3_canStand_32 : decode cX3_canStand 32 = .ok (.iload_n 0, 1) := by decide +kernel
theorem dX3_canStand_33 : decode cX3_canStand 33 = .ok (.bipush 46, 2) := by decide +kernel
theorem dX3_canStand_35 : decode cX3_canStand 35 = .ok (.if_icmp .eq 10, 3) := by decide +kernel
theorem dX3_canStand_38 : decode cX3_canStand 38 = .ok (.iload_n 0, 1) := by decide +kernel
theorem dX3_canStand_39 : decode cX3_canStand 39 = .ok (.invokestatic 31, 3) := by decide +kernel
theorem dX3_canStand_42 : decode cX3_canStand 42 = .ok (.ifCond .eq 7, 3) := by decide +kernel
theorem dX3_canStand_45 : decode cX3_canStand 45 = .ok (.iconst 1, 1) := by decide +kernel
theorem dX3_canStand_46 : decode cX3_canStand 46 = .ok (.goto 4, 3) := by decide +kernel
theorem dX3_canStand_49 : decode cX3_canStand 49 = .ok (.iconst 0, 1) := by decide +kernel
theorem dX3_canStand_50 : decode cX3_canStand 50 = .ok (.ireturn, 1) := by decide +kernel
theorem dX3_canStand_51 : decode cX3_canStand 51 = .ok (.iload_n 0, 1) := by decide +kernel
theorem dX3_canStand_52 : decode cX3_canStand 52 = .ok (.invokestatic 31, 3) := by decide +kernel
theorem dX3_canStand_55 : decode cX3_canStand 55 = .ok (.ireturn, 1) := by decide +kernel
theorem dX3_canStand_56 : decode cX3_canStand 56 = .ok (.iload_n 0, 1) := by decide +kernel
theorem dX3_canStand_57 : decode cX3_canStand 57 = .ok (.bipush 48, 2) := by decide +kernel
theorem dX3_canStand_59 : decode cX3_canStand 59 = .ok (.if_icmp .eq 9, 3) := by decide +kernel
theorem dX3_canStand_62 : decode cX3_canStand 62 = .ok (.iload_n 0, 1) := by decide +kernel
theorem dX3_canStand_63 : decode cX3_canStand 63 = .ok (.bipush 49, 2) := by decide +kernel
theorem dX3_canStand_65 : decode cX3_canStand 65 = .ok (.if_icmp .ne 7, 3) := by decide +kernel
theorem dX3_canStand_68 : decode cX3_canStand 68 = .ok (.iconst 1, 1) := by decide +kernel
theorem dX3_canStand_69 : decode cX3_canStand 69 = .ok (.goto 4, 3) := by decide +kernel
theorem dX3_canStand_72 : decode cX3_canStand 72 = .ok (.iconst 0, 1) := by decide +kernel
theorem dX3_canStand_73 : decode cX3_canStand 73 = .ok (.ireturn, 1) := by decide +kernel
theorem dX3_canStand_74 : decode cX3_canStand 74 = .ok (.iload_n 2, 1) := by decide +kernel
theorem dX3_canStand_75 : decode cX3_canStand 75 = .ok (.bipush 48, 2) := by decide +kernel
theorem dX3_canStand_77 : decode cX3_canStand 77 = .ok (.if_icmp .ne 14, 3) := by decide +kernel
theorem dX3_canStand_80 : decode cX3_canStand 80 = .ok (.iload_n 0, 1) := by decide +kernel
theorem dX3_canStand_81 : decode cX3_canStand 81 = .ok (.bipush 49, 2) := by decide +kernel
theorem dX3_canStand_83 : decode cX3_canStand 83 = .ok (.bipush 57, 2) := by decide +kernel
theorem dX3_canStand_85 : decode cX3_canStand 85 = .ok (.invokestatic 35, 3) := by decide +kernel
theorem dX3_canStand_88 : decode cX3_canStand 88 = .ok (.goto 11, 3) := by decide +kernel
theorem dX3_canStand_91 : decode cX3_canStand 91 = .ok (.iload_n 0, 1) := by decide +kernel
theorem dX3_canStand_92 : decode cX3_canStand 92 = .ok (.bipush 48, 2) := by decide +kernel
theorem dX3_canStand_94 : decode cX3_canStand 94 = .ok (.bipush 53, 2) := by decide +kernel
theorem dX3_canStand_96 : decode cX3_canStand 96 = .ok (.invokestatic 35, 3) := by decide +kernel
theorem dX3_canStand_99 : decode cX3_canStand 99 = .ok (.ireturn, 1) := by decide +kernel
theorem dX3_canStand_100 : decode cX3_canStand 100 = .ok (.iload_n 0, 1) := by decide +kernel
theorem dX3_canStand_101 : decode cX3_canStand 101 = .ok (.bipush 43, 2) := by decide +kernel
theorem dX3_canStand_103 : decode cX3_canStand 103 = .ok (.if_icmp .eq 15, 3) := by decide +kernel
theorem dX3_canStand_106 : decode cX3_canStand 106 = .ok (.iload_n 0, 1) := by decide +kernel
theorem dX3_canStand_107 : decode cX3_canStand 107 = .ok (.bipush 45, 2) := by decide +kernel
theorem dX3_canStand_109 : decode cX3_canStand 109 = .ok (.if_icmp .eq 9, 3) := by decide +kernel
theorem dX3_canStand_112 : decode cX3_canStand 112 = .ok (.iload_n 0, 1) := by decide +kernel
theorem dX3_canStand_113 : decode cX3_canStand 113 = .ok (.bipush 42, 2) := by decide +kernel
theorem dX3_canStand_115 : decode cX3_canStand 115 = .ok (.if_icmp .ne 7, 3) := by decide +kernel
theorem dX3_canStand_118 : decode cX3_canStand 118 = .ok (.iconst 1, 1) := by decide +kernel
theorem dX3_canStand_119 : decode cX3_canStand 119 = .ok (.goto 4, 3) := by decide +kernel
theorem dX3_canStand_122 : decode cX3_canStand 122 = .ok (.iconst 0, 1) := by decide +kernel
theorem dX3_canStand_123 : decode cX3_canStand 123 = .ok (.ireturn, 1) := by decide +kernel
set_option maxRecDepth 20000 in
theorem ggX3_isLetter_X7_within : GoodIn wsX3_isLetter wsX7_within := goodIn_r _ [3] (by decide +kernel) (by decide +kernel)
set_option maxRecDepth 20000 in
theorem gX3_isLetter_X7_within_n35 : GoodIn wsX3_isLetter (wsX7_within) := ggX3_isLetter_X7_within
theorem dX3_isLetter_0 : decode cX3_isLetter 0 = .ok (.iload_n 0, 1) := by decide +kernel
theorem dX3_isLetter_1 : decode cX3_isLetter 1 = .ok (.bipush 65, 2) := by decide +kernel
theorem dX3_isLetter_3 : decode cX3_isLetter 3 = .ok (.bipush 70, 2) := by decide +kernel
theorem dX3_isLetter_5 : decode cX3_isLetter 5 = .ok (.invokestatic 35, 3) := by decide +kernel
theorem dX3_isLetter_8 : decode cX3_isLetter 8 = .ok (.ireturn, 1) := by decide +kernel
set_option maxRecDepth 20000 in
theorem ggX4_init_X5_init : GoodIn wsX4_init wsX5_init := goodIn_r _ [16, 17, 2, 3, 8, 18, 19, 20, 21, 22, 23, 24, 25, 26, 27, 28, 29, 30, 31, 32, 33, 34, 35, 36, 37, 38, 39, 45, 46, 47, 48, 49, 50, 51, 52, 53, 54, 55, 56, 57] (by decide +kernel) (by decide +kernel)
set_option maxRecDepth 20000 in
theorem gX4_init_X5_init : GoodIn wsX4_init (wsX5_init) := ggX4_init_X5_init
set_option maxRecDepth 20000 in
theorem ggX4_init_X0_init : GoodIn wsX4_init wsX0_init := goodIn_r _ [41, 42, 2, 3, 43, 44, 67, 68] (by decide +kernel) (by decide +kernel)
set_option maxRecDepth 20000 in
theorem gX4_init_X0_init_n24 : GoodIn wsX4_init (wsX0_init) := ggX4_init_X0_init
theorem dX4_init_0 : decode cX4_init 0 = .ok (.aload_n 0, 1) := by decide +kernel
theorem dX4_init_1 : decode cX4_init 1 = .ok (.invokespecial 3, 3) := by decide +kernel
theorem dX4_init_4 : decode cX4_init 4 = .ok (.aload_n 0, 1) := by decide +kernel
theorem dX4_init_5 : decode cX4_init 5 = .ok (.new 9, 3) := by decide +kernel
theorem dX4_init_8 : decode cX4_init 8 = .ok (.dup, 1) := by decide +kernel
theorem dX4_init_9 : decode cX4_init 9 = .ok (.invokespecial 11, 3) := by decide +kernel
theorem dX4_init_12 : decode cX4_init 12 = .ok (.putfield 12, 3) := by decide +kernel
theorem dX4_init_15 : decode cX4_init 15 = .ok (.aload_n 0, 1) := by decide +kernel
theorem dX4_init_16 : decode cX4_init 16 = .ok (.bipush 36, 2) := by decide +kernel
theorem dX4_init_18 : decode cX4_init 18 = .ok (.newarray .int, 2) := by decide +kernel
theorem dX4_init_20 : decode cX4_init 20 = .ok (.putfield 18, 3) := by decide +kernel
theorem dX4_init_23 : decode cX4_init 23 = .ok (.aload_n 0, 1) := by decide +kernel
theorem dX4_init_24 : decode cX4_init 24 = .ok (.new 22, 3) := by decide +kernel
theorem dX4_init_27 : decode cX4_init 27 = .ok (.dup, 1) := by decide +kernel
theorem dX4_init_28 : decode cX4_init 28 = .ok (.invokespecial 24, 3) := by decide +kernel
theorem dX4_init_31 : decode cX4_init 31 = .ok (.putfield 25, 3) := by decide +kernel
theorem dX4_init_34 : decode cX4_init 34 = .ok (.return_, 1) := by decide +kernel
set_option maxRecDepth 20000 in
theorem ggX4_play_X4_begin : GoodIn wsX4_play wsX4_begin := goodIn_r _ [10, 3, 11, 12, 5, 4, 13, 14, 15, 16, 17, 18, 19, 20, 21, 22, 23, 24, 25, 26, 27, 28, 29, 30, 31, 32, 33, 34, 35, 36, 37, 38, 39, 40, 41, 42, 43, 44, 45, 46, 47, 48, 49, 50, 101, 102, 103, 104, 105, 106, 107, 108, 109, 110, 111, 112, 113, 114, 115, 116, 117, 118, 119, 120, 121, 122, 123, 124] (by decide +kernel) (by decide +kernel)
set_option maxRecDepth 20000 in
theorem gX4_play_X4_begin : GoodIn wsX4_play (wsV RX4 29 RX4 yX4_begin wsX4_begin) := goodIn_app (goodIn_of _ (by decide +kernel)) ggX4_play_X4_begin
set_option maxRecDepth 20000 in
theorem ggX4_play_X7_at : GoodIn wsX4_play wsX7_at := goodIn_r _ [40] (by decide +kernel) (by decide +kernel)
set_option maxRecDepth 20000 in
theorem gX4_play_X7_at_n42 : GoodIn wsX4_play (wsX7_at) := ggX4_play_X7_at
set_option maxRecDepth 20000 in
theorem ggX4_play_X5_night : GoodIn wsX4_play wsX5_night := goodIn_r _ [54, 22, 29, 55, 56, 57, 58, 59, 60, 61, 30, 39, 36, 40, 42, 43, 110, 111, 112, 113, 114, 115, 116, 117, 118, 119, 120, 121, 122] (by decide +kernel) (by decide +kernel)
set_option maxRecDepth 20000 in
theorem gX4_play_X5_night : GoodIn wsX4_play (wsV RX4 46 RX5 yX5_night wsX5_night) := goodIn_app (goodIn_of _ (by decide +kernel)) ggX4_play_X5_night
set_option maxRecDepth 20000 in
theorem ggX4_play_X4_playDare : GoodIn wsX4_play wsX4_playDare := goodIn_r _ [65, 3, 4, 11, 13, 14, 15, 39, 36, 40, 66, 67, 68, 20, 69, 30, 28, 22, 70, 71, 72, 73, 23, 42, 43, 74, 75, 76, 9, 77, 16, 12, 78, 79, 80, 81, 24, 59, 60, 57, 61, 55, 56, 58, 82, 83, 84, 47, 85, 49, 50, 86, 87, 88, 89, 90, 29, 91, 92, 93, 94, 95, 96, 97, 98, 101, 102, 103, 104, 105, 106, 107, 108, 109, 110, 111, 112, 113, 114, 115, 116, 117, 118, 119, 120, 121, 122, 123, 124] (by decide +kernel) (by decide +kernel)
set_option maxRecDepth 20000 in
theorem gX4_play_X4_playDare : GoodIn wsX4_play (wsV RX4 49 RX4 yX4_playDare wsX4_playDare) := goodIn_app (goodIn_of _ (by decide +kernel)) ggX4_play_X4_playDare
theorem dX4_play_0 : decode cX4_play 0 = .ok (.aload_n 1, 1) := by decide +kernel
theorem dX4_play_1 : decode cX4_play 1 = .ok (.ifnonnull 4, 3) := by decide +kernel
theorem dX4_play_4 : decode cX4_play 4 = .ok (.return_, 1) := by decide +kernel
theorem dX4_play_5 : decode cX4_play 5 = .ok (.aload_n 0, 1) := by decide +kernel
theorem dX4_play_6 : decode cX4_play 6 = .ok (.aload_n 2, 1) := by decide +kernel
theorem dX4_play_7 : decode cX4_play 7 = .ok (.invokevirtual 29, 3) := by decide +kernel
theorem dX4_play_10 : decode cX4_play 10 = .ok (.iconst 0, 1) := by decide +kernel
theorem dX4_play_11 : decode cX4_play 11 = .ok (.istore_n 3, 1) := by decide +kernel
theorem dX4_play_12 : decode cX4_play 12 = .ok (.iload_n 3, 1) := by decide +kernel
theorem dX4_play_13 : decode cX4_play 13 = .ok (.aload_n 1, 1) := by decide +kernel
theorem dX4_play_14 : decode cX4_play 14 = .ok (.getfield 33, 3) := by decide +kernel
theorem dX4_play_17 : decode cX4_play 17 = .ok (.if_icmp .ge 62, 3) := by decide +kernel
theorem dX4_play_20 : decode cX4_play 20 = .ok (.aload_n 1, 1) := by decide +kernel
theorem dX4_play_21 : decode cX4_play 21 = .ok (.getfield 39, 3) := by decide +kernel
theorem dX4_play_24 : decode cX4_play 24 = .ok (.iload_n 3, 1) := by decide +kernel
theorem dX4_play_25 : decode cX4_play 25 = .ok (.invokestatic 42, 3) := by decide +kernel
theorem dX4_play_28 : decode cX4_play 28 = .ok (.bipush 46, 2) := by decide +kernel
theorem dX4_play_30 : decode cX4_play 30 = .ok (.if_icmp .ne 16, 3) := by decide +kernel
theorem dX4_play_33 : decode cX4_play 33 = .ok (.aload_n 0, 1) := by decide +kernel
theorem dX4_play_34 : decode cX4_play 34 = .ok (.getfield 12, 3) := by decide +kernel
theorem dX4_play_37 : decode cX4_play 37 = .ok (.invokevirtual 46, 3) := by decide +kernel
theorem dX4_play_40 : decode cX4_play 40 = .ok (.iinc 3 1, 3) := by decide +kernel
theorem dX4_play_43 : decode cX4_play 43 = .ok (.goto 15, 3) := by decide +kernel
theorem dX4_play_46 : decode cX4_play 46 = .ok (.aload_n 0, 1) := by decide +kernel
theorem dX4_play_47 : decode cX4_play 47 = .ok (.aload_n 1, 1) := by decide +kernel
theorem dX4_play_48 : decode cX4_play 48 = .ok (.getfield 39, 3) := by decide +kernel
theorem dX4_play_51 : decode cX4_play 51 = .ok (.iload_n 3, 1) := by decide +kernel
theorem dX4_play_52 : decode cX4_play 52 = .ok (.invokevirtual 49, 3) := by decide +kernel
theorem dX4_play_55 : decode cX4_play 55 = .ok (.iinc 3 5, 3) := by decide +kernel
theorem dX4_play_58 : decode cX4_play 58 = .ok (.aload_n 0, 1) := by decide +kernel
theorem dX4_play_59 : decode cX4_play 59 = .ok (.getfield 53, 3) := by decide +kernel
theorem dX4_play_62 : decode cX4_play 62 = .ok (.ifCond .eq 4, 3) := by decide +kernel
theorem dX4_play_65 : decode cX4_play 65 = .ok (.return_, 1) := by decide +kernel
theorem dX4_play_66 : decode cX4_play 66 = .ok (.aload_n 0, 1) := by decide +kernel
theorem dX4_play_67 : decode cX4_play 67 = .ok (.dup, 1) := by decide +kernel
theorem dX4_play_68 : decode cX4_play 68 = .ok (.getfield 56, 3) := by decide +kernel
theorem dX4_play_71 : decode cX4_play 71 = .ok (.iconst 1, 1) := by decide +kernel
theorem dX4_play_72 : decode cX4_play 72 = .ok (.iadd, 1) := by decide +kernel
theorem dX4_play_73 : decode cX4_play 73 = .ok (.putfield 56, 3) := by decide +kernel
theorem dX4_play_76 : decode cX4_play 76 = .ok (.goto (-64), 3) := by decide +kernel
theorem dX4_play_79 : decode cX4_play 79 = .ok (.return_, 1) := by decide +kernel
set_option maxRecDepth 20000 in
theorem ggX4_begin_X5_copyFrom : GoodIn wsX4_begin wsX5_copyFrom := goodIn_r _ [14, 15, 16, 17, 18, 19, 20, 21, 22, 23, 24, 25, 26, 27, 28, 29, 30, 31, 32, 33, 34, 35, 36, 53, 54, 55, 56, 57, 58, 59, 60, 61, 62, 63, 64, 65] (by decide +kernel) (by decide +kernel)
set_option maxRecDepth 20000 in
theorem gX4_begin_X5_copyFrom : GoodIn wsX4_begin (wsV RX4 59 RX5 yX5_copyFrom wsX5_copyFrom) := goodIn_app (goodIn_of _ (by decide +kernel)) ggX4_begin_X5_copyFrom
set_option maxRecDepth 20000 in
theorem ggX4_begin_X7_put : GoodIn wsX4_begin wsX7_put := goodIn_r _ [36] (by decide +kernel) (by decide +kernel)
set_option maxRecDepth 20000 in
theorem gX4_begin_X7_put_n62 : GoodIn wsX4_begin (wsX7_put) := ggX4_begin_X7_put
set_option maxRecDepth 20000 in
theorem ggX4_begin_X0_begin : GoodIn wsX4_begin wsX0_begin := goodIn_r _ [41, 42, 43, 66, 67] (by decide +kernel) (by decide +kernel)
set_option maxRecDepth 20000 in
theorem gX4_begin_X0_begin : GoodIn wsX4_begin (wsV RX4 66 RX0 yX0_begin wsX0_begin) := goodIn_app (goodIn_of _ (by decide +kernel)) ggX4_begin_X0_begin
theorem dX4_begin_0 : decode cX4_begin 0 = .ok (.aload_n 0, 1) := by decide +kernel
theorem dX4_begin_1 : decode cX4_begin 1 = .ok (.getfield 12, 3) := by decide +kernel
theorem dX4_begin_4 : decode cX4_begin 4 = .ok (.aload_n 1, 1) := by decide +kernel
theorem dX4_begin_5 : decode cX4_begin 5 = .ok (.invokevirtual 59, 3) := by decide +kernel
theorem dX4_begin_8 : decode cX4_begin 8 = .ok (.iconst 0, 1) := by decide +kernel
theorem dX4_begin_9 : decode cX4_begin 9 = .ok (.istore_n 2, 1) := by decide +kernel
theorem dX4_begin_10 : decode cX4_begin 10 = .ok (.iload_n 2, 1) := by decide +kernel
theorem dX4_begin_11 : decode cX4_begin 11 = .ok (.aload_n 0, 1) := by decide +kernel
theorem dX4_begin_12 : decode cX4_begin 12 = .ok (.getfield 18, 3) := by decide +kernel
theorem dX4_begin_15 : decode cX4_begin 15 = .ok (.arraylength, 1) := by decide +kernel
theorem dX4_begin_16 : decode cX4_begin 16 = .ok (.if_icmp .ge 18, 3) := by decide +kernel
theorem dX4_begin_19 : decode cX4_begin 19 = .ok (.aload_n 0, 1) := by decide +kernel
theorem dX4_begin_20 : decode cX4_begin 20 = .ok (.getfield 18, 3) := by decide +kernel
theorem dX4_begin_23 : decode cX4_begin 23 = .ok (.iload_n 2, 1) := by decide +kernel
theorem dX4_begin_24 : decode cX4_begin 24 = .ok (.iconst 0, 1) := by decide +kernel
theorem dX4_begin_25 : decode cX4_begin 25 = .ok (.invokestatic 62, 3) := by decide +kernel
theorem dX4_begin_28 : decode cX4_begin 28 = .ok (.iinc 2 1, 3) := by decide +kernel
theorem dX4_begin_31 : decode cX4_begin 31 = .ok (.goto (-21), 3) := by decide +kernel
theorem dX4_begin_34 : decode cX4_begin 34 = .ok (.aload_n 0, 1) := by decide +kernel
theorem dX4_begin_35 : decode cX4_begin 35 = .ok (.getfield 25, 3) := by decide +kernel
theorem dX4_begin_38 : decode cX4_begin 38 = .ok (.invokevirtual 66, 3) := by decide +kernel
theorem dX4_begin_41 : decode cX4_begin 41 = .ok (.aload_n 0, 1) := by decide +kernel
theorem dX4_begin_42 : decode cX4_begin 42 = .ok (.iconst 0, 1) := by decide +kernel
theorem dX4_begin_43 : decode cX4_begin 43 = .ok (.putfield 56, 3) := by decide +kernel
theorem dX4_begin_46 : decode cX4_begin 46 = .ok (.aload_n 0, 1) := by decide +kernel
theorem dX4_begin_47 : decode cX4_begin 47 = .ok (.iconst 0, 1) := by decide +kernel
theorem dX4_begin_48 : decode cX4_begin 48 = .ok (.putfield 53, 3) := by decide +kernel
theorem dX4_begin_51 : decode cX4_begin 51 = .ok (.aload_n 0, 1) := by decide +kernel
theorem dX4_begin_52 : decode cX4_begin 52 = .ok (.iconst 0, 1) := by decide +kernel
theorem dX4_begin_53 : decode cX4_begin 53 = .ok (.putfield 68, 3) := by decide +kernel
theorem dX4_begin_56 : decode cX4_begin 56 = .ok (.aload_n 0, 1) := by decide +kernel
theorem dX4_begin_57 : decode cX4_begin 57 = .ok (.iconst 0, 1) := by decide +kernel
theorem dX4_begin_58 : decode cX4_begin 58 = .ok (.putfield 71, 3) := by decide +kernel
theorem dX4_begin_61 : decode cX4_begin 61 = .ok (.aload_n 0, 1) := by decide +kernel
theorem dX4_begin_62 : decode cX4_begin 62 = .ok (.iconst 0, 1) := by decide +kernel
theorem dX4_begin_63 : decode cX4_begin 63 = .ok (.putfield 74, 3) := by decide +kernel
theorem dX4_begin_66 : decode cX4_begin 66 = .ok (.aload_n 0, 1) := by decide +kernel
theorem dX4_begin_67 : decode cX4_begin 67 = .ok (.iconst 0, 1) := by decide +kernel
theorem dX4_begin_68 : decode cX4_begin 68 = .ok (.putfield 77, 3) := by decide +kernel
theorem dX4_begin_71 : decode cX4_begin 71 = .ok (.return_, 1) := by decide +kernel
set_option maxRecDepth 20000 in
theorem ggX4_playDare_X7_at : GoodIn wsX4_playDare wsX7_at := goodIn_r _ [9] (by decide +kernel) (by decide +kernel)
set_option maxRecDepth 20000 in
theorem gX4_playDare_X7_at_n42 : GoodIn wsX4_playDare (wsX7_at) := ggX4_playDare_X7_at
set_option maxRecDepth 20000 in
theorem ggX4_playDare_X5_whyNot : GoodIn wsX4_playDare wsX5_whyNot := goodIn_r _ [14, 15, 16, 17, 18, 19, 20, 13, 21, 22, 7, 8, 9, 74, 75, 76, 77, 78, 79, 80, 81, 82, 83, 84, 85, 86] (by decide +kernel) (by decide +kernel)
set_option maxRecDepth 20000 in
theorem gX4_playDare_X5_whyNot : GoodIn wsX4_playDare (wsV RX4 80 RX5 yX5_whyNot wsX5_whyNot) := goodIn_app (goodIn_of _ (by decide +kernel)) ggX4_playDare_X5_whyNot
set_option maxRecDepth 20000 in
theorem ggX4_playDare_X7_put : GoodIn wsX4_playDare wsX7_put := goodIn_r _ [24] (by decide +kernel) (by decide +kernel)
set_option maxRecDepth 20000 in
theorem gX4_playDare_X7_put_n62 : GoodIn wsX4_playDare (wsX7_put) := ggX4_playDare_X7_put
set_option maxRecDepth 20000 in
theorem ggX4_playDare_X4_reckon : GoodIn wsX4_playDare wsX4_reckon := goodIn_r _ [29, 30, 31, 1, 32, 33, 34, 13, 35, 17, 36, 37, 38, 39, 40, 41, 42, 43, 7, 8, 9, 44, 45, 46, 47, 48, 49, 50, 51, 65, 66, 67, 68, 69, 70, 71, 72, 73, 74, 75, 76, 77, 78, 79, 80, 81, 82, 83, 84, 85, 86, 87, 88] (by decide +kernel) (by decide +kernel)
set_option maxRecDepth 20000 in
theorem gX4_playDare_X4_reckon : GoodIn wsX4_playDare (wsV RX4 84 RX4 yX4_reckon wsX4_reckon) := goodIn_app (goodIn_of _ (by decide +kernel)) ggX4_playDare_X4_reckon
set_option maxRecDepth 20000 in
theorem ggX4_playDare_X5_perform : GoodIn wsX4_playDare wsX5_perform := goodIn_r _ [55, 16, 41, 42, 39, 43, 56, 17, 15, 7, 8, 9, 23, 24, 57, 58, 59, 60, 33, 34, 13, 35, 36, 37, 38, 40, 74, 75, 76, 77, 78, 79, 80, 81, 82, 83, 84, 85, 86] (by decide +kernel) (by decide +kernel)
set_option maxRecDepth 20000 in
theorem gX4_playDare_X5_perform : GoodIn wsX4_playDare (wsV RX4 88 RX5 yX5_perform wsX5_perform) := goodIn_app (goodIn_of _ (by decide +kernel)) ggX4_playDare_X5_perform
set_option maxRecDepth 20000 in
theorem ggX4_playDare_X5_refuse : GoodIn wsX4_playDare wsX5_refuse := goodIn_r _ [64, 56, 7, 8, 9, 23, 24, 74, 75, 76, 77, 78, 79, 80, 81, 82, 83, 84, 85, 86] (by decide +kernel) (by decide +kernel)
set_option maxRecDepth 20000 in
theorem gX4_playDare_X5_refuse : GoodIn wsX4_playDare (wsV RX4 92 RX5 yX5_refuse wsX5_refuse) := goodIn_app (goodIn_of _ (by decide +kernel)) ggX4_playDare_X5_refuse
theorem dX4_playDare_0 : decode cX4_playDare 0 = .ok (.aload_n 1, 1) := by decide +kernel
theorem dX4_playDare_1 : decode cX4_playDare 1 = .ok (.iload_n 2, 1) := by decide +kernel
theorem dX4_playDare_2 : decode cX4_playDare 2 = .ok (.invokestatic 42, 3) := by decide +kernel
theorem dX4_playDare_5 : decode cX4_playDare 5 = .ok (.bipush 65, 2) := by decide +kernel
theorem dX4_playDare_7 : decode cX4_playDare 7 = .ok (.isub, 1) := by decide +kernel
theorem dX4_playDare_8 : decode cX4_playDare 8 = .ok (.istore_n 3, 1) := by decide +kernel
theorem dX4_playDare_9 : decode cX4_playDare 9 = .ok (.aload_n 1, 1) := by decide +kernel
theorem dX4_playDare_10 : decode cX4_playDare 10 = .ok (.iload_n 2, 1) := by decide +kernel
theorem dX4_playDare_11 : decode cX4_playDare 11 = .ok (.iconst 1, 1) := by decide +kernel
theorem dX4_playDare_12 : decode cX4_playDare 12 = .ok (.iadd, 1) := by decide +kernel
theorem dX4_playDare_13 : decode cX4_playDare 13 = .ok (.invokestatic 42, 3) := by decide +kernel
theorem dX4_playDare_16 : decode cX4_playDare 16 = .ok (.bipush 65, 2) := by decide +kernel
theorem dX4_playDare_18 : decode cX4_playDare 18 = .ok (.isub, 1) := by decide +kernel
theorem dX4_playDare_19 : decode cX4_playDare 19 = .ok (.istore 4, 2) := by decide +kernel
theorem dX4_playDare_21 : decode cX4_playDare 21 = .ok (.bipush 10, 2) := by decide +kernel
theorem dX4_playDare_23 : decode cX4_playDare 23 = .ok (.aload_n 1, 1) := by decide +kernel
theorem dX4_playDare_24 : decode cX4_playDare 24 = .ok (.iload_n 2, 1) := by decide +kernel
theorem dX4_playDare_25 : decode cX4_playDare 25 = .ok (.iconst 2, 1) := by decide +kernel
theorem dX4_playDare_26 : decode cX4_playDare 26 = .ok (.iadd, 1) := by decide +kernel
theorem dX4_playDare_27 : decode cX4_playDare 27 = .ok (.invokestatic 42, 3) := by decide +kernel
theorem dX4_playDare_30 : decode cX4_playDare 30 = .ok (.bipush 48, 2) := by decide +kernel
theorem dX4_playDare_32 : decode cX4_playDare 32 = .ok (.isub, 1) := by decide +kernel
theorem dX4_playDare_33 : decode cX4_playDare 33 = .ok (.imul, 1) := by decide +kernel
theorem dX4_playDare_34 : decode cX4_playDare 34 = .ok (.aload_n 1, 1) := by decide +kernel
theorem dX4_playDare_35 : decode cX4_playDare 35 = .ok (.iload_n 2, 1) := by decide +kernel
theorem dX4_playDare_36 : decode cX4_playDare 36 = .ok (.iconst 3, 1) := by decide +kernel
theorem dX4_playDare_37 : decode cX4_playDare 37 = .ok (.iadd, 1) := by decide +kernel
theorem dX4_playDare_38 : decode cX4_playDare 38 = .ok (.invokestatic 42, 3) := by decide +kernel
theorem dX4_playDare_41 : decode cX4_playDare 41 = .ok (.iadd, 1) := by decide +kernel
theorem dX4_playDare_42 : decode cX4_playDare 42 = .ok (.bipush 48, 2) := by decide +kernel
theorem dX4_playDare_44 : decode cX4_playDare 44 = .ok (.isub, 1) := by decide +kernel
theorem dX4_playDare_45 : decode cX4_playDare 45 = .ok (.istore 5, 2) := by decide +kernel
theorem dX4_playDare_47 : decode cX4_playDare 47 = .ok (.aload_n 0, 1) := by decide +kernel
theorem dX4_playDare_48 : decode cX4_playDare 48 = .ok (.aload_n 0, 1) := by decide +kernel
theorem dX4_playDare_49 : decode cX4_playDare 49 = .ok (.getfield 12, 3) := by decide +kernel
theorem dX4_playDare_52 : decode cX4_playDare 52 = .ok (.iload_n 3, 1) := by decide +kernel
theorem dX4_playDare_53 : decode cX4_playDare 53 = .ok (.iload 4, 2) := by decide +kernel
theorem dX4_playDare_55 : decode cX4_playDare 55 = .ok (.iload 5, 2) := by decide +kernel
theorem dX4_playDare_57 : decode cX4_playDare 57 = .ok (.invokevirtual 80, 3) := by decide +kernel
theorem dX4_playDare_60 : decode cX4_playDare 60 = .ok (.putfield 53, 3) := by decide +kernel
theorem dX4_playDare_63 : decode cX4_playDare 63 = .ok (.aload_n 0, 1) := by decide +kernel
theorem dX4_playDare_64 : decode cX4_playDare 64 = .ok (.getfield 53, 3) := by decide +kernel
theorem dX4_playDare_67 : decode cX4_playDare 67 = .ok (.ifCond .eq 4, 3) := by decide +kernel
theorem dX4_playDare_70 : decode cX4_playDare 70 = .ok (.return_, 1) := by decide +kernel
theorem dX4_playDare_71 : decode cX4_playDare 71 = .ok (.iload_n 3, 1) := by decide +kernel
theorem dX4_playDare_72 : decode cX4_playDare 72 = .ok (.bipush 6, 2) := by decide +kernel
theorem dX4_playDare_74 : decode cX4_playDare 74 = .ok (.imul, 1) := by decide +kernel
theorem dX4_playDare_75 : decode cX4_playDare 75 = .ok (.iload 4, 2) := by decide +kernel
theorem dX4_playDare_77 : decode cX4_playDare 77 = .ok (.iadd, 1) := by decide +kernel
theorem dX4_playDare_78 : decode cX4_playDare 78 = .ok (.istore 6, 2) := by decide +kernel
theorem dX4_playDare_80 : decode cX4_playDare 80 = .ok (.aload_n 0, 1) := by decide +kernel
theorem dX4_playDare_81 : decode cX4_playDare 81 = .ok (.getfield 18, 3) := by decide +kernel
theorem dX4_playDare_84 : decode cX4_playDare 84 = .ok (.iload 6, 2) := by decide +kernel
theorem dX4_playDare_86 : decode cX4_playDare 86 = .ok (.aload_n 0, 1) := by decide +kernel
theorem dX4_playDare_87 : decode cX4_playDare 87 = .ok (.getfield 18, 3) := by decide +kernel
theorem dX4_playDare_90 : decode cX4_playDare 90 = .ok (.iload 6, 2) := by decide +kernel
theorem dX4_playDare_92 : decode cX4_playDare 92 = .ok (.invokestatic 42, 3) := by decide +kernel
theorem dX4_playDare_95 : decode cX4_playDare 95 = .ok (.iconst 1, 1) := by decide +kernel
theorem dX4_playDare_96 : decode cX4_playDare 96 = .ok (.iadd, 1) := by decide +kernel
theorem dX4_playDare_97 : decode cX4_playDare 97 = .ok (.invokestatic 62, 3) := by decide +kernel
theorem dX4_playDare_100 : decode cX4_playDare 100 = .ok (.aload_n 1, 1) := by decide +kernel
theorem dX4_playDare_101 : decode cX4_playDare 101 = .ok (.iload_n 2, 1) := by decide +kernel
theorem dX4_playDare_102 : decode cX4_playDare 102 = .ok (.iconst 4, 1) := by decide +kernel
theorem dX4_playDare_103 : decode cX4_playDare 103 = .ok (.iadd, 1) := by decide +kernel
theorem dX4_playDare_104 : decode cX4_playDare 104 = .ok (.invokestatic 42, 3) := by decide +kernel
theorem dX4_playDare_107 : decode cX4_playDare 107 = .ok (.lookupswitch 82 #[(43, 25), (45, 58)], 25) := by decide +kernel
theorem dX4_playDare_132 : decode cX4_playDare 132 = .ok (.aload_n 0, 1) := by decide +kernel
theorem dX4_playDare_133 : decode cX4_playDare 133 = .ok (.dup, 1) := by decide +kernel
theorem dX4_playDare_134 : decode cX4_playDare 134 = .ok (.getfield 68, 3) := by decide +kernel
theorem dX4_playDare_137 : decode cX4_playDare 137 = .ok (.iconst 1, 1) := by decide +kernel
theorem dX4_playDare_138 : decode cX4_playDare 138 = .ok (.iadd, 1) := by decide +kernel
theorem dX4_playDare_139 : decode cX4_playDare 139 = .ok (.putfield 68, 3) := by decide +kernel
theorem dX4_playDare_142 : decode cX4_playDare 142 = .ok (.aload_n 0, 1) := by decide +kernel
theorem dX4_playDare_143 : decode cX4_playDare 143 = .ok (.iload 4, 2) := by decide +kernel
theorem dX4_playDare_145 : decode cX4_playDare 145 = .ok (.iload 5, 2) := by decide +kernel
theorem dX4_playDare_147 : decode cX4_playDare 147 = .ok (.invokevirtual 84, 3) := by decide +kernel
theorem dX4_playDare_150 : decode cX4_playDare 150 = .ok (.aload_n 0, 1) := by decide +kernel
theorem dX4_playDare_151 : decode cX4_playDare 151 = .ok (.getfield 12, 3) := by decide +kernel
theorem dX4_playDare_154 : decode cX4_playDare 154 = .ok (.iload 4, 2) := by decide +kernel
theorem dX4_playDare_156 : decode cX4_playDare 156 = .ok (.iload 5, 2) := by decide +kernel
theorem dX4_playDare_158 : decode cX4_playDare 158 = .ok (.invokevirtual 88, 3) := by decide +kernel
theorem dX4_playDare_161 : decode cX4_playDare 161 = .ok (.pop, 1) := by decide +kernel
theorem dX4_playDare_162 : decode cX4_playDare 162 = .ok (.goto 77, 3) := by decide +kernel
theorem dX4_playDare_165 : decode cX4_playDare 165 = .ok (.aload_n 0, 1) := by decide +kernel
theorem dX4_playDare_166 : decode cX4_playDare 166 = .ok (.dup, 1) := by decide +kernel
theorem dX4_playDare_167 : decode cX4_playDare 167 = .ok (.getfield 71, 3) := by decide +kernel
theorem dX4_playDare_170 : decode cX4_playDare 170 = .ok (.iconst 1, 1) := by decide +kernel
theorem dX4_playDare_171 : decode cX4_playDare 171 = .ok (.iadd, 1) := by decide +kernel
theorem dX4_playDare_172 : decode cX4_playDare 172 = .ok (.putfield 71, 3) := by decide +kernel
theorem dX4_playDare_175 : decode cX4_playDare 175 = .ok (.aload_n 0, 1) := by decide +kernel
theorem dX4_playDare_176 : decode cX4_playDare 176 = .ok (.getfield 12, 3) := by decide +kernel
theorem dX4_playDare_179 : decode cX4_playDare 179 = .ok (.iload 4, 2) := by decide +kernel
theorem dX4_playDare_181 : decode cX4_playDare 181 = .ok (.iload 5, 2) := by decide +kernel
theorem dX4_playDare_183 : decode cX4_playDare 183 = .ok (.invokevirtual 92, 3) := by decide +kernel
theorem dX4_playDare_186 : decode cX4_playDare 186 = .ok (.goto 53, 3) := by decide +kernel
theorem dX4_playDare_189 : decode cX4_playDare 189 = .ok (.aload_n 0, 1) := by decide +kernel
theorem dX4_playDare_190 : decode cX4_playDare 190 = .ok (.dup, 1) := by decide +kernel
theorem dX4_playDare_191 : decode cX4_playDare 191 = .ok (.getfield 74, 3) := by decide +kernel
theorem dX4_playDare_194 : decode cX4_playDare 194 = .ok (.iconst 1, 1) := by decide +kernel
theorem dX4_playDare_195 : decode cX4_playDare 195 = .ok (.iadd, 1) := by decide +kernel
theorem dX4_playDare_196 : decode cX4_playDare 196 = .ok (.putfield 74, 3) := by decide +kernel
theorem dX4_playDare_199 : decode cX4_playDare 199 = .ok (.aload_n 0, 1) := by decide +kernel
theorem dX4_playDare_200 : decode cX4_playDare 200 = .ok (.iload_n 3, 1) := by decide +kernel
theorem dX4_playDare_201 : decode cX4_playDare 201 = .ok (.iload 5, 2) := by decide +kernel
theorem dX4_playDare_203 : decode cX4_playDare 203 = .ok (.invokevirtual 84, 3) := by decide +kernel
theorem dX4_playDare_206 : decode cX4_playDare 206 = .ok (.aload_n 0, 1) := by decide +kernel
theorem dX4_playDare_207 : decode cX4_playDare 207 = .ok (.iload 4, 2) := by decide +kernel
theorem dX4_playDare_209 : decode cX4_playDare 209 = .ok (.iload 5, 2) := by decide +kernel
theorem dX4_playDare_211 : decode cX4_playDare 211 = .ok (.invokevirtual 84, 3) := by decide +kernel
theorem dX4_playDare_214 : decode cX4_playDare 214 = .ok (.aload_n 0, 1) := by decide +kernel
theorem dX4_playDare_215 : decode cX4_playDare 215 = .ok (.getfield 12, 3) := by decide +kernel
theorem dX4_playDare_218 : decode cX4_playDare 218 = .ok (.iload_n 3, 1) := by decide +kernel
theorem dX4_playDare_219 : decode cX4_playDare 219 = .ok (.iload 5, 2) := by decide +kernel
theorem dX4_playDare_221 : decode cX4_playDare 221 = .ok (.invokevirtual 88, 3) := by decide +kernel
theorem dX4_playDare_224 : decode cX4_playDare 224 = .ok (.ifCond .ne 15, 3) := by decide +kernel
theorem dX4_playDare_227 : decode cX4_playDare 227 = .ok (.aload_n 0, 1) := by decide +kernel
theorem dX4_playDare_228 : decode cX4_playDare 228 = .ok (.getfield 12, 3) := by decide +kernel
theorem dX4_playDare_231 : decode cX4_playDare 231 = .ok (.iload 4, 2) := by decide +kernel
theorem dX4_playDare_233 : decode cX4_playDare 233 = .ok (.iload 5, 2) := by decide +kernel
theorem dX4_playDare_235 : decode cX4_playDare 235 = .ok (.invokevirtual 88, 3) := by decide +kernel
theorem dX4_playDare_238 : decode cX4_playDare 238 = .ok (.pop, 1) := by decide +kernel
theorem dX4_playDare_239 : decode cX4_playDare 239 = .ok (.return_, 1) := by decide +kernel
set_option maxRecDepth 20000 in
theorem ggX4_reckon_X5_oddsOf : GoodIn wsX4_reckon wsX5_oddsOf := goodIn_r _ [8, 9, 10, 11, 12, 13, 14, 15, 16, 17, 18, 19, 20, 38, 39, 40, 41, 42, 43, 44, 45, 46, 47, 48, 49, 50] (by decide +kernel) (by decide +kernel)
set_option maxRecDepth 20000 in
theorem gX4_reckon_X5_oddsOf : GoodIn wsX4_reckon (wsV RX4 95 RX5 yX5_oddsOf wsX5_oddsOf) := goodIn_app (goodIn_of _ (by decide +kernel)) ggX4_reckon_X5_oddsOf
set_option maxRecDepth 20000 in
theorem ggX4_reckon_X0_goesWell : GoodIn wsX4_reckon wsX0_goesWell := goodIn_r _ [25, 26, 27, 28, 51, 52] (by decide +kernel) (by decide +kernel)
set_option maxRecDepth 20000 in
theorem gX4_reckon_X0_goesWell : GoodIn wsX4_reckon (wsV RX4 99 RX0 yX0_goesWell wsX0_goesWell) := goodIn_app (goodIn_of _ (by decide +kernel)) ggX4_reckon_X0_goesWell
theorem dX4_reckon_0 : decode cX4_reckon 0 = .ok (.aload_n 0, 1) := by decide +kernel
theorem dX4_reckon_1 : decode cX4_reckon 1 = .ok (.dup, 1) := by decide +kernel
theorem dX4_reckon_2 : decode cX4_reckon 2 = .ok (.getfield 77, 3) := by decide +kernel
theorem dX4_reckon_5 : decode cX4_reckon 5 = .ok (.iconst 1, 1) := by decide +kernel
theorem dX4_reckon_6 : decode cX4_reckon 6 = .ok (.iadd, 1) := by decide +kernel
theorem dX4_reckon_7 : decode cX4_reckon 7 = .ok (.putfield 77, 3) := by decide +kernel
theorem dX4_reckon_10 : decode cX4_reckon 10 = .ok (.aload_n 0, 1) := by decide +kernel
theorem dX4_reckon_11 : decode cX4_reckon 11 = .ok (.getfield 77, 3) := by decide +kernel
theorem dX4_reckon_14 : decode cX4_reckon 14 = .ok (.bipush 15, 2) := by decide +kernel
theorem dX4_reckon_16 : decode cX4_reckon 16 = .ok (.if_icmp .gt 19, 3) := by decide +kernel
theorem dX4_reckon_19 : decode cX4_reckon 19 = .ok (.aload_n 0, 1) := by decide +kernel
theorem dX4_reckon_20 : decode cX4_reckon 20 = .ok (.getfield 25, 3) := by decide +kernel
theorem dX4_reckon_23 : decode cX4_reckon 23 = .ok (.aload_n 0, 1) := by decide +kernel
theorem dX4_reckon_24 : decode cX4_reckon 24 = .ok (.getfield 12, 3) := by decide +kernel
theorem dX4_reckon_27 : decode cX4_reckon 27 = .ok (.iload_n 1, 1) := by decide +kernel
theorem dX4_reckon_28 : decode cX4_reckon 28 = .ok (.iload_n 2, 1) := by decide +kernel
theorem dX4_reckon_29 : decode cX4_reckon 29 = .ok (.invokevirtual 95, 3) := by decide +kernel
theorem dX4_reckon_32 : decode cX4_reckon 32 = .ok (.invokevirtual 99, 3) := by decide +kernel
theorem dX4_reckon_35 : decode cX4_reckon 35 = .ok (.return_, 1) := by decide +kernel
set_option maxRecDepth 20000 in
theorem ggX4_closest_X7_at : GoodIn wsX4_closest wsX7_at := goodIn_r _ [4] (by decide +kernel) (by decide +kernel)
set_option maxRecDepth 20000 in
theorem gX4_closest_X7_at_n42 : GoodIn wsX4_closest (wsX7_at) := ggX4_closest_X7_at
theorem dX4_closest_0 : decode cX4_closest 0 = .ok (.iconst (-1), 1) := by decide +kernel
theorem dX4_closest_1 : decode cX4_closest 1 = .ok (.istore_n 1, 1) := by decide +kernel
theorem dX4_closest_2 : decode cX4_closest 2 = .ok (.iconst 0, 1) := by decide +kernel
theorem dX4_closest_3 : decode cX4_closest 3 = .ok (.istore_n 2, 1) := by decide +kernel
theorem dX4_closest_4 : decode cX4_closest 4 = .ok (.iconst 0, 1) := by decide +kernel
theorem dX4_closest_5 : decode cX4_closest 5 = .ok (.istore_n 3, 1) := by decide +kernel
theorem dX4_closest_6 : decode cX4_closest 6 = .ok (.iload_n 3, 1) := by decide +kernel
theorem dX4_closest_7 : decode cX4_closest 7 = .ok (.aload_n 0, 1) := by decide +kernel
theorem dX4_closest_8 : decode cX4_closest 8 = .ok (.getfield 18, 3) := by decide +kernel
theorem dX4_closest_11 : decode cX4_closest 11 = .ok (.arraylength, 1) := by decide +kernel
theorem dX4_closest_12 : decode cX4_closest 12 = .ok (.if_icmp .ge 32, 3) := by decide +kernel
theorem dX4_closest_15 : decode cX4_closest 15 = .ok (.aload_n 0, 1) := by decide +kernel
theorem dX4_closest_16 : decode cX4_closest 16 = .ok (.getfield 18, 3) := by decide +kernel
theorem dX4_closest_19 : decode cX4_closest 19 = .ok (.iload_n 3, 1) := by decide +kernel
theorem dX4_closest_20 : decode cX4_closest 20 = .ok (.invokestatic 42, 3) := by decide +kernel
theorem dX4_closest_23 : decode cX4_closest 23 = .ok (.iload_n 2, 1) := by decide +kernel
theorem dX4_closest_24 : decode cX4_closest 24 = .ok (.if_icmp .le 14, 3) := by decide +kernel
theorem dX4_closest_27 : decode cX4_closest 27 = .ok (.aload_n 0, 1) := by decide +kernel
theorem dX4_closest_28 : decode cX4_closest 28 = .ok (.getfield 18, 3) := by decide +kernel
theorem dX4_closest_31 : decode cX4_closest 31 = .ok (.iload_n 3, 1) := by decide +kernel
theorem dX4_closest_32 : decode cX4_closest 32 = .ok (.invokestatic 42, 3) := by decide +kernel
theorem dX4_closest_35 : decode cX4_closest 35 = .ok (.istore_n 2, 1) := by decide +kernel
theorem dX4_closest_36 : decode cX4_closest 36 = .ok (.iload_n 3, 1) := by decide +kernel
theorem dX4_closest_37 : decode cX4_closest 37 = .ok (.istore_n 1, 1) := by decide +kernel
theorem dX4_closest_38 : decode cX4_closest 38 = .ok (.iinc 3 1, 3) := by decide +kernel
theorem dX4_closest_41 : decode cX4_closest 41 = .ok (.goto (-35), 3) := by decide +kernel
theorem dX4_closest_44 : decode cX4_closest 44 = .ok (.iload_n 1, 1) := by decide +kernel
theorem dX4_closest_45 : decode cX4_closest 45 = .ok (.ireturn, 1) := by decide +kernel
set_option maxRecDepth 20000 in
theorem ggX5_init_X7_copyRow : GoodIn wsX5_init wsX7_copyRow := goodIn_r _ [20, 21, 22, 19, 23, 24, 25, 26] (by decide +kernel) (by decide +kernel)
set_option maxRecDepth 20000 in
theorem gX5_init_X7_copyRow_n55 : GoodIn wsX5_init (wsX7_copyRow) := ggX5_init_X7_copyRow
theorem dX5_init_0 : decode cX5_init 0 = .ok (.aload_n 0, 1) := by decide +kernel
theorem dX5_init_1 : decode cX5_init 1 = .ok (.invokespecial 3, 3) := by decide +kernel
theorem dX5_init_4 : decode cX5_init 4 = .ok (.aload_n 0, 1) := by decide +kernel
theorem dX5_init_5 : decode cX5_init 5 = .ok (.bipush 7, 2) := by decide +kernel
theorem dX5_init_7 : decode cX5_init 7 = .ok (.newarray .int, 2) := by decide +kernel
theorem dX5_init_9 : decode cX5_init 9 = .ok (.putfield 9, 3) := by decide +kernel
theorem dX5_init_12 : decode cX5_init 12 = .ok (.aload_n 0, 1) := by decide +kernel
theorem dX5_init_13 : decode cX5_init 13 = .ok (.bipush 6, 2) := by decide +kernel
theorem dX5_init_15 : decode cX5_init 15 = .ok (.newarray .int, 2) := by decide +kernel
theorem dX5_init_17 : decode cX5_init 17 = .ok (.putfield 15, 3) := by decide +kernel
theorem dX5_init_20 : decode cX5_init 20 = .ok (.aload_n 0, 1) := by decide +kernel
theorem dX5_init_21 : decode cX5_init 21 = .ok (.bipush 6, 2) := by decide +kernel
theorem dX5_init_23 : decode cX5_init 23 = .ok (.newarray .int, 2) := by decide +kernel
theorem dX5_init_25 : decode cX5_init 25 = .ok (.putfield 18, 3) := by decide +kernel
theorem dX5_init_28 : decode cX5_init 28 = .ok (.aload_n 0, 1) := by decide +kernel
theorem dX5_init_29 : decode cX5_init 29 = .ok (.bipush 6, 2) := by decide +kernel
theorem dX5_init_31 : decode cX5_init 31 = .ok (.newarray .int, 2) := by decide +kernel
theorem dX5_init_33 : decode cX5_init 33 = .ok (.putfield 21, 3) := by decide +kernel
theorem dX5_init_36 : decode cX5_init 36 = .ok (.aload_n 0, 1) := by decide +kernel
theorem dX5_init_37 : decode cX5_init 37 = .ok (.bipush 6, 2) := by decide +kernel
theorem dX5_init_39 : decode cX5_init 39 = .ok (.newarray .int, 2) := by decide +kernel
theorem dX5_init_41 : decode cX5_init 41 = .ok (.putfield 24, 3) := by decide +kernel
theorem dX5_init_44 : decode cX5_init 44 = .ok (.aload_n 0, 1) := by decide +kernel
theorem dX5_init_45 : decode cX5_init 45 = .ok (.bipush 6, 2) := by decide +kernel
theorem dX5_init_47 : decode cX5_init 47 = .ok (.newarray .int, 2) := by decide +kernel
theorem dX5_init_49 : decode cX5_init 49 = .ok (.putfield 27, 3) := by decide +kernel
theorem dX5_init_52 : decode cX5_init 52 = .ok (.aload_n 0, 1) := by decide +kernel
theorem dX5_init_53 : decode cX5_init 53 = .ok (.bipush 6, 2) := by decide +kernel
theorem dX5_init_55 : decode cX5_init 55 = .ok (.newarray .int, 2) := by decide +kernel
theorem dX5_init_57 : decode cX5_init 57 = .ok (.putfield 30, 3) := by decide +kernel
theorem dX5_init_60 : decode cX5_init 60 = .ok (.aload_n 0, 1) := by decide +kernel
theorem dX5_init_61 : decode cX5_init 61 = .ok (.bipush 6, 2) := by decide +kernel
theorem dX5_init_63 : decode cX5_init 63 = .ok (.newarray .int, 2) := by decide +kernel
theorem dX5_init_65 : decode cX5_init 65 = .ok (.putfield 33, 3) := by decide +kernel
theorem dX5_init_68 : decode cX5_init 68 = .ok (.aload_n 0, 1) := by decide +kernel
theorem dX5_init_69 : decode cX5_init 69 = .ok (.bipush 6, 2) := by decide +kernel
theorem dX5_init_71 : decode cX5_init 71 = .ok (.newarray .int, 2) := by decide +kernel
theorem dX5_init_73 : decode cX5_init 73 = .ok (.putfield 36, 3) := by decide +kernel
theorem dX5_init_76 : decode cX5_init 76 = .ok (.aload_n 0, 1) := by decide +kernel
theorem dX5_init_77 : decode cX5_init 77 = .ok (.bipush 6, 2) := by decide +kernel
theorem dX5_init_79 : decode cX5_init 79 = .ok (.newarray .int, 2) := by decide +kernel
theorem dX5_init_81 : decode cX5_init 81 = .ok (.putfield 39, 3) := by decide +kernel
theorem dX5_init_84 : decode cX5_init 84 = .ok (.aload_n 0, 1) := by decide +kernel
theorem dX5_init_85 : decode cX5_init 85 = .ok (.bipush 6, 2) := by decide +kernel
theorem dX5_init_87 : decode cX5_init 87 = .ok (.newarray .int, 2) := by decide +kernel
theorem dX5_init_89 : decode cX5_init 89 = .ok (.putfield 42, 3) := by decide +kernel
theorem dX5_init_92 : decode cX5_init 92 = .ok (.aload_n 0, 1) := by decide +kernel
theorem dX5_init_93 : decode cX5_init 93 = .ok (.bipush 6, 2) := by decide +kernel
theorem dX5_init_95 : decode cX5_init 95 = .ok (.newarray .int, 2) := by decide +kernel
theorem dX5_init_97 : decode cX5_init 97 = .ok (.putfield 45, 3) := by decide +kernel
theorem dX5_init_100 : decode cX5_init 100 = .ok (.aload_n 0, 1) := by decide +kernel
theorem dX5_init_101 : decode cX5_init 101 = .ok (.iconst 0, 1) := by decide +kernel
theorem dX5_init_102 : decode cX5_init 102 = .ok (.putfield 48, 3) := by decide +kernel
theorem dX5_init_105 : decode cX5_init 105 = .ok (.getstatic 52, 3) := by decide +kernel
theorem dX5_init_108 : decode cX5_init 108 = .ok (.aload_n 0, 1) := by decide +kernel
theorem dX5_init_109 : decode cX5_init 109 = .ok (.getfield 9, 3) := by decide +kernel
theorem dX5_init_112 : decode cX5_init 112 = .ok (.invokestatic 55, 3) := by decide +kernel
theorem dX5_init_115 : decode cX5_init 115 = .ok (.return_, 1) := by decide +kernel
set_option maxRecDepth 20000 in
theorem ggX5_copyFrom_X7_copyRow : GoodIn wsX5_copyFrom wsX7_copyRow := goodIn_r _ [16, 17, 18, 15, 19, 20, 21, 22] (by decide +kernel) (by decide +kernel)
set_option maxRecDepth 20000 in
theorem gX5_copyFrom_X7_copyRow_n55 : GoodIn wsX5_copyFrom (wsX7_copyRow) := ggX5_copyFrom_X7_copyRow
theorem dX5_copyFrom_0 : decode cX5_copyFrom 0 = .ok (.aload_n 1, 1) := by decide +kernel
theorem dX5_copyFrom_1 : decode cX5_copyFrom 1 = .ok (.ifnonnull 4, 3) := by decide +kernel
theorem dX5_copyFrom_4 : decode cX5_copyFrom 4 = .ok (.return_, 1) := by decide +kernel
theorem dX5_copyFrom_5 : decode cX5_copyFrom 5 = .ok (.aload_n 1, 1) := by decide +kernel
theorem dX5_copyFrom_6 : decode cX5_copyFrom 6 = .ok (.getfield 9, 3) := by decide +kernel
theorem dX5_copyFrom_9 : decode cX5_copyFrom 9 = .ok (.aload_n 0, 1) := by decide +kernel
theorem dX5_copyFrom_10 : decode cX5_copyFrom 10 = .ok (.getfield 9, 3) := by decide +kernel
theorem dX5_copyFrom_13 : decode cX5_copyFrom 13 = .ok (.invokestatic 55, 3) := by decide +kernel
theorem dX5_copyFrom_16 : decode cX5_copyFrom 16 = .ok (.aload_n 1, 1) := by decide +kernel
theorem dX5_copyFrom_17 : decode cX5_copyFrom 17 = .ok (.getfield 15, 3) := by decide +kernel
theorem dX5_copyFrom_20 : decode cX5_copyFrom 20 = .ok (.aload_n 0, 1) := by decide +kernel
theorem dX5_copyFrom_21 : decode cX5_copyFrom 21 = .ok (.getfield 15, 3) := by decide +kernel
theorem dX5_copyFrom_24 : decode cX5_copyFrom 24 = .ok (.invokestatic 55, 3) := by decide +kernel
theorem dX5_copyFrom_27 : decode cX5_copyFrom 27 = .ok (.aload_n 1, 1) := by decide +kernel
theorem dX5_copyFrom_28 : decode cX5_copyFrom 28 = .ok (.getfield 18, 3) := by decide +kernel
theorem dX5_copyFrom_31 : decode cX5_copyFrom 31 = .ok (.aload_n 0, 1) := by decide +kernel
theorem dX5_copyFrom_32 : decode cX5_copyFrom 32 = .ok (.getfield 18, 3) := by decide +kernel
theorem dX5_copyFrom_35 : decode cX5_copyFrom 35 = .ok (.invokestatic 55, 3) := by decide +kernel
theorem dX5_copyFrom_38 : decode cX5_copyFrom 38 = .ok (.aload_n 1, 1) := by decide +kernel
theorem dX5_copyFrom_39 : decode cX5_copyFrom 39 = .ok (.getfield 21, 3) := by decide +kernel
theorem dX5_copyFrom_42 : decode cX5_copyFrom 42 = .ok (.aload_n 0, 1) := by decide +kernel
theorem dX5_copyFrom_43 : decode cX5_copyFrom 43 = .ok (.getfield 21, 3) := by decide +kernel
theorem dX5_copyFrom_46 : decode cX5_copyFrom 46 = .ok (.invokestatic 55, 3) := by decide +kernel
theorem dX5_copyFrom_49 : decode cX5_copyFrom 49 = .ok (.aload_n 1, 1) := by decide +kernel
theorem dX5_copyFrom_50 : decode cX5_copyFrom 50 = .ok (.getfield 24, 3) := by decide +kernel
theorem dX5_copyFrom_53 : decode cX5_copyFrom 53 = .ok (.aload_n 0, 1) := by decide +kernel
theorem dX5_copyFrom_54 : decode cX5_copyFrom 54 = .ok (.getfield 24, 3) := by decide +kernel
theorem dX5_copyFrom_57 : decode cX5_copyFrom 57 = .ok (.invokestatic 55, 3) := by decide +kernel
theorem dX5_copyFrom_60 : decode cX5_copyFrom 60 = .ok (.aload_n 1, 1) := by decide +kernel
theorem dX5_copyFrom_61 : decode cX5_copyFrom 61 = .ok (.getfield 27, 3) := by decide +kernel
theorem dX5_copyFrom_64 : decode cX5_copyFrom 64 = .ok (.aload_n 0, 1) := by decide +kernel
theorem dX5_copyFrom_65 : decode cX5_copyFrom 65 = .ok (.getfield 27, 3) := by decide +kernel
theorem dX5_copyFrom_68 : decode cX5_copyFrom 68 = .ok (.invokestatic 55, 3) := by decide +kernel
theorem dX5_copyFrom_71 : decode cX5_copyFrom 71 = .ok (.aload_n 1, 1) := by decide +kernel
theorem dX5_copyFrom_72 : decode cX5_copyFrom 72 = .ok (.getfield 30, 3) := by decide +kernel
theorem dX5_copyFrom_75 : decode cX5_copyFrom 75 = .ok (.aload_n 0, 1) := by decide +kernel
theorem dX5_copyFrom_76 : decode cX5_copyFrom 76 = .ok (.getfield 30, 3) := by decide +kernel
theorem dX5_copyFrom_79 : decode cX5_copyFrom 79 = .ok (.invokestatic 55, 3) := by decide +kernel
theorem dX5_copyFrom_82 : decode cX5_copyFrom 82 = .ok (.aload_n 1, 1) := by decide +kernel
theorem dX5_copyFrom_83 : decode cX5_copyFrom 83 = .ok (.getfield 33, 3) := by decide +kernel
theorem dX5_copyFrom_86 : decode cX5_copyFrom 86 = .ok (.aload_n 0, 1) := by decide +kernel
theorem dX5_copyFrom_87 : decode cX5_copyFrom 87 = .ok (.getfield 33, 3) := by decide +kernel
theorem dX5_copyFrom_90 : decode cX5_copyFrom 90 = .ok (.invokestatic 55, 3) := by decide +kernel
theorem dX5_copyFrom_93 : decode cX5_copyFrom 93 = .ok (.aload_n 1, 1) := by decide +kernel
theorem dX5_copyFrom_94 : decode cX5_copyFrom 94 = .ok (.getfield 36, 3) := by decide +kernel
theorem dX5_copyFrom_97 : decode cX5_copyFrom 97 = .ok (.aload_n 0, 1) := by decide +kernel
theorem dX5_copyFrom_98 : decode cX5_copyFrom 98 = .ok (.getfield 36, 3) := by decide +kernel
theorem dX5_copyFrom_101 : decode cX5_copyFrom 101 = .ok (.invokestatic 55, 3) := by decide +kernel
theorem dX5_copyFrom_104 : decode cX5_copyFrom 104 = .ok (.aload_n 1, 1) := by decide +kernel
theorem dX5_copyFrom_105 : decode cX5_copyFrom 105 = .ok (.getfield 39, 3) := by decide +kernel
theorem dX5_copyFrom_108 : decode cX5_copyFrom 108 = .ok (.aload_n 0, 1) := by decide +kernel
theorem dX5_copyFrom_109 : decode cX5_copyFrom 109 = .ok (.getfield 39, 3) := by decide +kernel
theorem dX5_copyFrom_112 : decode cX5_copyFrom 112 = .ok (.invokestatic 55, 3) := by decide +kernel
theorem dX5_copyFrom_115 : decode cX5_copyFrom 115 = .ok (.aload_n 1, 1) := by decide +kernel
theorem dX5_copyFrom_116 : decode cX5_copyFrom 116 = .ok (.getfield 42, 3) := by decide +kernel
theorem dX5_copyFrom_119 : decode cX5_copyFrom 119 = .ok (.aload_n 0, 1) := by decide +kernel
theorem dX5_copyFrom_120 : decode cX5_copyFrom 120 = .ok (.getfield 42, 3) := by decide +kernel
theorem dX5_copyFrom_123 : decode cX5_copyFrom 123 = .ok (.invokestatic 55, 3) := by decide +kernel
theorem dX5_copyFrom_126 : decode cX5_copyFrom 126 = .ok (.aload_n 1, 1) := by decide +kernel
theorem dX5_copyFrom_127 : decode cX5_copyFrom 127 = .ok (.getfield 45, 3) := by decide +kernel
theorem dX5_copyFrom_130 : decode cX5_copyFrom 130 = .ok (.aload_n 0, 1) := by decide +kernel
theorem dX5_copyFrom_131 : decode cX5_copyFrom 131 = .ok (.getfield 45, 3) := by decide +kernel
theorem dX5_copyFrom_134 : decode cX5_copyFrom 134 = .ok (.invokestatic 55, 3) := by decide +kernel
theorem dX5_copyFrom_137 : decode cX5_copyFrom 137 = .ok (.aload_n 0, 1) := by decide +kernel
theorem dX5_copyFrom_138 : decode cX5_copyFrom 138 = .ok (.aload_n 1, 1) := by decide +kernel
theorem dX5_copyFrom_139 : decode cX5_copyFrom 139 = .ok (.getfield 48, 3) := by decide +kernel
theorem dX5_copyFrom_142 : decode cX5_copyFrom 142 = .ok (.putfield 48, 3) := by decide +kernel
theorem dX5_copyFrom_145 : decode cX5_copyFrom 145 = .ok (.return_, 1) := by decide +kernel
set_option maxRecDepth 20000 in
theorem ggX5_rule_X7_at : GoodIn wsX5_rule wsX7_at := goodIn_r _ [4] (by decide +kernel) (by decide +kernel)
set_option maxRecDepth 20000 in
theorem gX5_rule_X7_at_n59 : GoodIn wsX5_rule (wsX7_at) := ggX5_rule_X7_at
theorem dX5_rule_0 : decode cX5_rule 0 = .ok (.aload_n 0, 1) := by decide +kernel
theorem dX5_rule_1 : decode cX5_rule 1 = .ok (.getfield 9, 3) := by decide +kernel
theorem dX5_rule_4 : decode cX5_rule 4 = .ok (.iload_n 1, 1) := by decide +kernel
theorem dX5_rule_5 : decode cX5_rule 5 = .ok (.invokestatic 59, 3) := by decide +kernel
theorem dX5_rule_8 : decode cX5_rule 8 = .ok (.ireturn, 1) := by decide +kernel
set_option maxRecDepth 20000 in
theorem ggX5_isThere_X7_at : GoodIn wsX5_isThere wsX7_at := goodIn_r _ [4] (by decide +kernel) (by decide +kernel)
set_option maxRecDepth 20000 in
theorem gX5_isThere_X7_at_n59 : GoodIn wsX5_isThere (wsX7_at) := ggX5_isThere_X7_at
theorem dX5_isThere_0 : decode cX5_isThere 0 = .ok (.aload_n 0, 1) := by decide +kernel
theorem dX5_isThere_1 : decode cX5_isThere 1 = .ok (.getfield 15, 3) := by decide +kernel
theorem dX5_isThere_4 : decode cX5_isThere 4 = .ok (.iload_n 1, 1) := by decide +kernel
theorem dX5_isThere_5 : decode cX5_isThere 5 = .ok (.invokestatic 59, 3) := by decide +kernel
theorem dX5_isThere_8 : decode cX5_isThere 8 = .ok (.iconst 1, 1) := by decide +kernel
theorem dX5_isThere_9 : decode cX5_isThere 9 = .ok (.if_icmp .ne 7, 3) := by decide +kernel
theorem dX5_isThere_12 : decode cX5_isThere 12 = .ok (.iconst 1, 1) := by decide +kernel
theorem dX5_isThere_13 : decode cX5_isThere 13 = .ok (.goto 4, 3) := by decide +kernel
theorem dX5_isThere_16 : decode cX5_isThere 16 = .ok (.iconst 0, 1) := by decide +kernel
theorem dX5_isThere_17 : decode cX5_isThere 17 = .ok (.ireturn, 1) := by decide +kernel
set_option maxRecDepth 20000 in
theorem ggX5_bits_X7_at : GoodIn wsX5_bits wsX7_at := goodIn_r _ [4] (by decide +kernel) (by decide +kernel)
set_option maxRecDepth 20000 in
theorem gX5_bits_X7_at_n59 : GoodIn wsX5_bits (wsX7_at) := ggX5_bits_X7_at
theorem dX5_bits_0 : decode cX5_bits 0 = .ok (.iconst 0, 1) := by decide +kernel
theorem dX5_bits_1 : decode cX5_bits 1 = .ok (.istore_n 1, 1) := by decide +kernel
theorem dX5_bits_2 : decode cX5_bits 2 = .ok (.iconst 0, 1) := by decide +kernel
theorem dX5_bits_3 : decode cX5_bits 3 = .ok (.istore_n 2, 1) := by decide +kernel
theorem dX5_bits_4 : decode cX5_bits 4 = .ok (.iload_n 2, 1) := by decide +kernel
theorem dX5_bits_5 : decode cX5_bits 5 = .ok (.bipush 6, 2) := by decide +kernel
theorem dX5_bits_7 : decode cX5_bits 7 = .ok (.if_icmp .ge 22, 3) := by decide +kernel
theorem dX5_bits_10 : decode cX5_bits 10 = .ok (.iload_n 1, 1) := by decide +kernel
theorem dX5_bits_11 : decode cX5_bits 11 = .ok (.aload_n 0, 1) := by decide +kernel
theorem dX5_bits_12 : decode cX5_bits 12 = .ok (.getfield 15, 3) := by decide +kernel
theorem dX5_bits_15 : decode cX5_bits 15 = .ok (.iload_n 2, 1) := by decide +kernel
theorem dX5_bits_16 : decode cX5_bits 16 = .ok (.invokestatic 59, 3) := by decide +kernel
theorem dX5_bits_19 : decode cX5_bits 19 = .ok (.iload_n 2, 1) := by decide +kernel
theorem dX5_bits_20 : decode cX5_bits 20 = .ok (.ishl, 1) := by decide +kernel
theorem dX5_bits_21 : decode cX5_bits 21 = .ok (.ior, 1) := by decide +kernel
theorem dX5_bits_22 : decode cX5_bits 22 = .ok (.istore_n 1, 1) := by decide +kernel
theorem dX5_bits_23 : decode cX5_bits 23 = .ok (.iinc 2 1, 3) := by decide +kernel
theorem dX5_bits_26 : decode cX5_bits 26 = .ok (.goto (-22), 3) := by decide +kernel
theorem dX5_bits_29 : decode cX5_bits 29 = .ok (.iload_n 1, 1) := by decide +kernel
theorem dX5_bits_30 : decode cX5_bits 30 = .ok (.ireturn, 1) := by decide +kernel
set_option maxRecDepth 20000 in
theorem ggX5_come_X7_put : GoodIn wsX5_come wsX7_put := goodIn_r _ [12] (by decide +kernel) (by decide +kernel)
set_option maxRecDepth 20000 in
theorem gX5_come_X7_put_n63 : GoodIn wsX5_come (wsX7_put) := ggX5_come_X7_put
set_option maxRecDepth 20000 in
theorem ggX5_come_X7_at : GoodIn wsX5_come wsX7_at := goodIn_r _ [14] (by decide +kernel) (by decide +kernel)
set_option maxRecDepth 20000 in
theorem gX5_come_X7_at_n59 : GoodIn wsX5_come (wsX7_at) := ggX5_come_X7_at
theorem dX5_come_0 : decode cX5_come 0 = .ok (.aload_n 0, 1) := by decide +kernel
theorem dX5_come_1 : decode cX5_come 1 = .ok (.getfield 15, 3) := by decide +kernel
theorem dX5_come_4 : decode cX5_come 4 = .ok (.iload_n 1, 1) := by decide +kernel
theorem dX5_come_5 : decode cX5_come 5 = .ok (.iconst 1, 1) := by decide +kernel
theorem dX5_come_6 : decode cX5_come 6 = .ok (.invokestatic 63, 3) := by decide +kernel
theorem dX5_come_9 : decode cX5_come 9 = .ok (.aload_n 0, 1) := by decide +kernel
theorem dX5_come_10 : decode cX5_come 10 = .ok (.getfield 18, 3) := by decide +kernel
theorem dX5_come_13 : decode cX5_come 13 = .ok (.iload_n 1, 1) := by decide +kernel
theorem dX5_come_14 : decode cX5_come 14 = .ok (.iload_n 2, 1) := by decide +kernel
theorem dX5_come_15 : decode cX5_come 15 = .ok (.invokestatic 63, 3) := by decide +kernel
theorem dX5_come_18 : decode cX5_come 18 = .ok (.aload_n 0, 1) := by decide +kernel
theorem dX5_come_19 : decode cX5_come 19 = .ok (.getfield 21, 3) := by decide +kernel
theorem dX5_come_22 : decode cX5_come 22 = .ok (.iload_n 1, 1) := by decide +kernel
theorem dX5_come_23 : decode cX5_come 23 = .ok (.iload_n 3, 1) := by decide +kernel
theorem dX5_come_24 : decode cX5_come 24 = .ok (.invokestatic 63, 3) := by decide +kernel
theorem dX5_come_27 : decode cX5_come 27 = .ok (.aload_n 0, 1) := by decide +kernel
theorem dX5_come_28 : decode cX5_come 28 = .ok (.getfield 24, 3) := by decide +kernel
theorem dX5_come_31 : decode cX5_come 31 = .ok (.iload_n 1, 1) := by decide +kernel
theorem dX5_come_32 : decode cX5_come 32 = .ok (.iload 4, 2) := by decide +kernel
theorem dX5_come_34 : decode cX5_come 34 = .ok (.invokestatic 63, 3) := by decide +kernel
theorem dX5_come_37 : decode cX5_come 37 = .ok (.aload_n 0, 1) := by decide +kernel
theorem dX5_come_38 : decode cX5_come 38 = .ok (.getfield 27, 3) := by decide +kernel
theorem dX5_come_41 : decode cX5_come 41 = .ok (.iload_n 1, 1) := by decide +kernel
theorem dX5_come_42 : decode cX5_come 42 = .ok (.iload 5, 2) := by decide +kernel
theorem dX5_come_44 : decode cX5_come 44 = .ok (.invokestatic 63, 3) := by decide +kernel
theorem dX5_come_47 : decode cX5_come 47 = .ok (.aload_n 0, 1) := by decide +kernel
theorem dX5_come_48 : decode cX5_come 48 = .ok (.getfield 30, 3) := by decide +kernel
theorem dX5_come_51 : decode cX5_come 51 = .ok (.iload_n 1, 1) := by decide +kernel
theorem dX5_come_52 : decode cX5_come 52 = .ok (.aload_n 0, 1) := by decide +kernel
theorem dX5_come_53 : decode cX5_come 53 = .ok (.getfield 9, 3) := by decide +kernel
theorem dX5_come_56 : decode cX5_come 56 = .ok (.iconst 1, 1) := by decide +kernel
theorem dX5_come_57 : decode cX5_come 57 = .ok (.invokestatic 59, 3) := by decide +kernel
theorem dX5_come_60 : decode cX5_come 60 = .ok (.invokestatic 63, 3) := by decide +kernel
theorem dX5_come_63 : decode cX5_come 63 = .ok (.aload_n 0, 1) := by decide +kernel
theorem dX5_come_64 : decode cX5_come 64 = .ok (.getfield 33, 3) := by decide +kernel
theorem dX5_come_67 : decode cX5_come 67 = .ok (.iload_n 1, 1) := by decide +kernel
theorem dX5_come_68 : decode cX5_come 68 = .ok (.iconst 0, 1) := by decide +kernel
theorem dX5_come_69 : decode cX5_come 69 = .ok (.invokestatic 63, 3) := by decide +kernel
theorem dX5_come_72 : decode cX5_come 72 = .ok (.aload_n 0, 1) := by decide +kernel
theorem dX5_come_73 : decode cX5_come 73 = .ok (.getfield 36, 3) := by decide +kernel
theorem dX5_come_76 : decode cX5_come 76 = .ok (.iload_n 1, 1) := by decide +kernel
theorem dX5_come_77 : decode cX5_come 77 = .ok (.iconst 0, 1) := by decide +kernel
theorem dX5_come_78 : decode cX5_come 78 = .ok (.invokestatic 63, 3) := by decide +kernel
theorem dX5_come_81 : decode cX5_come 81 = .ok (.return_, 1) := by decide +kernel
set_option maxRecDepth 20000 in
theorem ggX5_go_X7_put : GoodIn wsX5_go wsX7_put := goodIn_r _ [4] (by decide +kernel) (by decide +kernel)
set_option maxRecDepth 20000 in
theorem gX5_go_X7_put_n63 : GoodIn wsX5_go (wsX7_put) := ggX5_go_X7_put
theorem dX5_go_0 : decode cX5_go 0 = .ok (.aload_n 0, 1) := by decide +kernel
theorem dX5_go_1 : decode cX5_go 1 = .ok (.getfield 15, 3) := by decide +kernel
theorem dX5_go_4 : decode cX5_go 4 = .ok (.iload_n 1, 1) := by decide +kernel
theorem dX5_go_5 : decode cX5_go 5 = .ok (.iconst 0, 1) := by decide +kernel
theorem dX5_go_6 : decode cX5_go 6 = .ok (.invokestatic 63, 3) := by decide +kernel
theorem dX5_go_9 : decode cX5_go 9 = .ok (.return_, 1) := by decide +kernel
set_option maxRecDepth 20000 in
theorem ggX5_standing_X7_at : GoodIn wsX5_standing wsX7_at := goodIn_r _ [6] (by decide +kernel) (by decide +kernel)
set_option maxRecDepth 20000 in
theorem gX5_standing_X7_at_n59 : GoodIn wsX5_standing (wsX7_at) := ggX5_standing_X7_at
theorem dX5_standing_0 : decode cX5_standing 0 = .ok (.iload_n 2, 1) := by decide +kernel
theorem dX5_standing_1 : decode cX5_standing 1 = .ok (.lookupswitch 49 #[(0, 27), (1, 40)], 27) := by decide +kernel
theorem dX5_standing_28 : decode cX5_standing 28 = .ok (.aload_n 0, 1) := by decide +kernel
theorem dX5_standing_29 : decode cX5_standing 29 = .ok (.getfield 33, 3) := by decide +kernel
theorem dX5_standing_32 : decode cX5_standing 32 = .ok (.iload_n 1, 1) := by decide +kernel
theorem dX5_standing_33 : decode cX5_standing 33 = .ok (.invokestatic 59, 3) := by decide +kernel
theorem dX5_standing_36 : decode cX5_standing 36 = .ok (.sipush 1000, 3) := by decide +kernel
theorem dX5_standing_39 : decode cX5_standing 39 = .ok (.iadd, 1) := by decide +kernel
theorem dX5_standing_40 : decode cX5_standing 40 = .ok (.ireturn, 1) := by decide +kernel
theorem dX5_standing_41 : decode cX5_standing 41 = .ok (.aload_n 0, 1) := by decide +kernel
theorem dX5_standing_42 : decode cX5_standing 42 = .ok (.getfield 30, 3) := by decide +kernel
theorem dX5_standing_45 : decode cX5_standing 45 = .ok (.iload_n 1, 1) := by decide +kernel
theorem dX5_standing_46 : decode cX5_standing 46 = .ok (.invokestatic 59, 3) := by decide +kernel
theorem dX5_standing_49 : decode cX5_standing 49 = .ok (.ireturn, 1) := by decide +kernel
theorem dX5_standing_50 : decode cX5_standing 50 = .ok (.aload_n 0, 1) := by decide +kernel
theorem dX5_standing_51 : decode cX5_standing 51 = .ok (.getfield 36, 3) := by decide +kernel
theorem dX5_standing_54 : decode cX5_standing 54 = .ok (.iload_n 1, 1) := by decide +kernel
theorem dX5_standing_55 : decode cX5_standing 55 = .ok (.invokestatic 59, 3) := by decide +kernel
theorem dX5_standing_58 : decode cX5_standing 58 = .ok (.ireturn, 1) := by decide +kernel
set_option maxRecDepth 20000 in
theorem ggX5_oddsOf_X7_at : GoodIn wsX5_oddsOf wsX7_at := goodIn_r _ [12] (by decide +kernel) (by decide +kernel)
set_option maxRecDepth 20000 in
theorem gX5_oddsOf_X7_at_n59 : GoodIn wsX5_oddsOf (wsX7_at) := ggX5_oddsOf_X7_at
theorem dX5_oddsOf_0 : decode cX5_oddsOf 0 = .ok (.iload_n 2, 1) := by decide +kernel
theorem dX5_oddsOf_1 : decode cX5_oddsOf 1 = .ok (.iconst 5, 1) := by decide +kernel
theorem dX5_oddsOf_2 : decode cX5_oddsOf 2 = .ok (.aload_n 0, 1) := by decide +kernel
theorem dX5_oddsOf_3 : decode cX5_oddsOf 3 = .ok (.getfield 9, 3) := by decide +kernel
theorem dX5_oddsOf_6 : decode cX5_oddsOf 6 = .ok (.iconst 5, 1) := by decide +kernel
theorem dX5_oddsOf_7 : decode cX5_oddsOf 7 = .ok (.invokestatic 59, 3) := by decide +kernel
theorem dX5_oddsOf_10 : decode cX5_oddsOf 10 = .ok (.imul, 1) := by decide +kernel
theorem dX5_oddsOf_11 : decode cX5_oddsOf 11 = .ok (.iadd, 1) := by decide +kernel
theorem dX5_oddsOf_12 : decode cX5_oddsOf 12 = .ok (.aload_n 0, 1) := by decide +kernel
theorem dX5_oddsOf_13 : decode cX5_oddsOf 13 = .ok (.getfield 18, 3) := by decide +kernel
theorem dX5_oddsOf_16 : decode cX5_oddsOf 16 = .ok (.iload_n 1, 1) := by decide +kernel
theorem dX5_oddsOf_17 : decode cX5_oddsOf 17 = .ok (.invokestatic 59, 3) := by decide +kernel
theorem dX5_oddsOf_20 : decode cX5_oddsOf 20 = .ok (.isub, 1) := by decide +kernel
theorem dX5_oddsOf_21 : decode cX5_oddsOf 21 = .ok (.istore_n 3, 1) := by decide +kernel
theorem dX5_oddsOf_22 : decode cX5_oddsOf 22 = .ok (.iconst 0, 1) := by decide +kernel
theorem dX5_oddsOf_23 : decode cX5_oddsOf 23 = .ok (.bipush 10, 2) := by decide +kernel
theorem dX5_oddsOf_25 : decode cX5_oddsOf 25 = .ok (.iload_n 3, 1) := by decide +kernel
theorem dX5_oddsOf_26 : decode cX5_oddsOf 26 = .ok (.iconst 2, 1) := by decide +kernel
theorem dX5_oddsOf_27 : decode cX5_oddsOf 27 = .ok (.idiv, 1) := by decide +kernel
theorem dX5_oddsOf_28 : decode cX5_oddsOf 28 = .ok (.invokestatic 67, 3) := by decide +kernel
theorem dX5_oddsOf_31 : decode cX5_oddsOf 31 = .ok (.invokestatic 73, 3) := by decide +kernel
theorem dX5_oddsOf_34 : decode cX5_oddsOf 34 = .ok (.ireturn, 1) := by decide +kernel
set_option maxRecDepth 20000 in
theorem ggX5_prideOf_X7_at : GoodIn wsX5_prideOf wsX7_at := goodIn_r _ [4] (by decide +kernel) (by decide +kernel)
set_option maxRecDepth 20000 in
theorem gX5_prideOf_X7_at_n59 : GoodIn wsX5_prideOf (wsX7_at) := ggX5_prideOf_X7_at
theorem dX5_prideOf_0 : decode cX5_prideOf 0 = .ok (.aload_n 0, 1) := by decide +kernel
theorem dX5_prideOf_1 : decode cX5_prideOf 1 = .ok (.getfield 24, 3) := by decide +kernel
theorem dX5_prideOf_4 : decode cX5_prideOf 4 = .ok (.iload_n 1, 1) := by decide +kernel
theorem dX5_prideOf_5 : decode cX5_prideOf 5 = .ok (.invokestatic 59, 3) := by decide +kernel
theorem dX5_prideOf_8 : decode cX5_prideOf 8 = .ok (.ireturn, 1) := by decide +kernel
set_option maxRecDepth 20000 in
theorem ggX5_worthDone_X7_at : GoodIn wsX5_worthDone wsX7_at := goodIn_r _ [5] (by decide +kernel) (by decide +kernel)
set_option maxRecDepth 20000 in
theorem gX5_worthDone_X7_at_n59 : GoodIn wsX5_worthDone (wsX7_at) := ggX5_worthDone_X7_at
set_option maxRecDepth 20000 in
theorem ggX5_worthDone_X5_oddsOf : GoodIn wsX5_worthDone wsX5_oddsOf := goodIn_r _ [10, 1, 11, 12, 13, 14, 15, 16, 17, 18, 3, 4, 5, 19, 20, 21, 22, 23, 24, 25, 26, 27, 28, 29, 30, 31] (by decide +kernel) (by decide +kernel)
set_option maxRecDepth 20000 in
theorem gX5_worthDone_X5_oddsOf : GoodIn wsX5_worthDone (wsV RX5 76 RX5 yX5_oddsOf wsX5_oddsOf) := goodIn_app (goodIn_of _ (by decide +kernel)) ggX5_worthDone_X5_oddsOf
theorem dX5_worthDone_0 : decode cX5_worthDone 0 = .ok (.aload_n 0, 1) := by decide +kernel
theorem dX5_worthDone_1 : decode cX5_worthDone 1 = .ok (.getfield 9, 3) := by decide +kernel
theorem dX5_worthDone_4 : decode cX5_worthDone 4 = .ok (.iconst 2, 1) := by decide +kernel
theorem dX5_worthDone_5 : decode cX5_worthDone 5 = .ok (.invokestatic 59, 3) := by decide +kernel
theorem dX5_worthDone_8 : decode cX5_worthDone 8 = .ok (.aload_n 0, 1) := by decide +kernel
theorem dX5_worthDone_9 : decode cX5_worthDone 9 = .ok (.getfield 21, 3) := by decide +kernel
theorem dX5_worthDone_12 : decode cX5_worthDone 12 = .ok (.iload_n 1, 1) := by decide +kernel
theorem dX5_worthDone_13 : decode cX5_worthDone 13 = .ok (.invokestatic 59, 3) := by decide +kernel
theorem dX5_worthDone_16 : decode cX5_worthDone 16 = .ok (.iload_n 2, 1) := by decide +kernel
theorem dX5_worthDone_17 : decode cX5_worthDone 17 = .ok (.imul, 1) := by decide +kernel
theorem dX5_worthDone_18 : decode cX5_worthDone 18 = .ok (.iadd, 1) := by decide +kernel
theorem dX5_worthDone_19 : decode cX5_worthDone 19 = .ok (.istore 4, 2) := by decide +kernel
theorem dX5_worthDone_21 : decode cX5_worthDone 21 = .ok (.bipush 10, 2) := by decide +kernel
theorem dX5_worthDone_23 : decode cX5_worthDone 23 = .ok (.iload_n 3, 1) := by decide +kernel
theorem dX5_worthDone_24 : decode cX5_worthDone 24 = .ok (.imul, 1) := by decide +kernel
theorem dX5_worthDone_25 : decode cX5_worthDone 25 = .ok (.iload_n 2, 1) := by decide +kernel
theorem dX5_worthDone_26 : decode cX5_worthDone 26 = .ok (.imul, 1) := by decide +kernel
theorem dX5_worthDone_27 : decode cX5_worthDone 27 = .ok (.aload_n 0, 1) := by decide +kernel
theorem dX5_worthDone_28 : decode cX5_worthDone 28 = .ok (.iload_n 1, 1) := by decide +kernel
theorem dX5_worthDone_29 : decode cX5_worthDone 29 = .ok (.iload_n 2, 1) := by decide +kernel
theorem dX5_worthDone_30 : decode cX5_worthDone 30 = .ok (.invokevirtual 76, 3) := by decide +kernel
theorem dX5_worthDone_33 : decode cX5_worthDone 33 = .ok (.iload 4, 2) := by decide +kernel
theorem dX5_worthDone_35 : decode cX5_worthDone 35 = .ok (.imul, 1) := by decide +kernel
theorem dX5_worthDone_36 : decode cX5_worthDone 36 = .ok (.isub, 1) := by decide +kernel
theorem dX5_worthDone_37 : decode cX5_worthDone 37 = .ok (.ireturn, 1) := by decide +kernel
theorem dX5_worthRefused_0 : decode cX5_worthRefused 0 = .ok (.bipush (-10), 2) := by decide +kernel
theorem dX5_worthRefused_2 : decode cX5_worthRefused 2 = .ok (.iload_n 1, 1) := by decide +kernel
theorem dX5_worthRefused_3 : decode cX5_worthRefused 3 = .ok (.imul, 1) := by decide +kernel
theorem dX5_worthRefused_4 : decode cX5_worthRefused 4 = .ok (.iload_n 0, 1) := by decide +kernel
theorem dX5_worthRefused_5 : decode cX5_worthRefused 5 = .ok (.iconst 2, 1) := by decide +kernel
theorem dX5_worthRefused_6 : decode cX5_worthRefused 6 = .ok (.idiv, 1) := by decide +kernel
theorem dX5_worthRefused_7 : decode cX5_worthRefused 7 = .ok (.imul, 1) := by decide +kernel
theorem dX5_worthRefused_8 : decode cX5_worthRefused 8 = .ok (.ireturn, 1) := by decide +kernel
set_option maxRecDepth 20000 in
theorem ggX5_dares_X5_worthDone : GoodIn wsX5_dares wsX5_worthDone := goodIn_r _ [5, 6, 7, 8, 9, 10, 11, 12, 13, 4, 14, 15, 16, 17, 18, 19, 20, 21, 22, 26, 27, 28, 29, 30, 31, 32, 33, 34, 35, 36, 37, 38] (by decide +kernel) (by decide +kernel)
set_option maxRecDepth 20000 in
theorem gX5_dares_X5_worthDone : GoodIn wsX5_dares (wsV RX5 79 RX5 yX5_worthDone wsX5_worthDone) := goodIn_app (goodIn_of _ (by decide +kernel)) ggX5_dares_X5_worthDone
set_option maxRecDepth 20000 in
theorem ggX5_dares_X5_worthRefused : GoodIn wsX5_dares wsX5_worthRefused := goodIn_r _ [25] (by decide +kernel) (by decide +kernel)
set_option maxRecDepth 20000 in
theorem gX5_dares_X5_worthRefused : GoodIn wsX5_dares (va_wsS RX5 83 yX5_worthRefused wsX5_worthRefused) := goodIn_app (goodIn_of _ (by decide +kernel)) ggX5_dares_X5_worthRefused
theorem dX5_dares_0 : decode cX5_dares 0 = .ok (.aload_n 0, 1) := by decide +kernel
theorem dX5_dares_1 : decode cX5_dares 1 = .ok (.iload_n 1, 1) := by decide +kernel
theorem dX5_dares_2 : decode cX5_dares 2 = .ok (.iload_n 2, 1) := by decide +kernel
theorem dX5_dares_3 : decode cX5_dares 3 = .ok (.iload_n 3, 1) := by decide +kernel
theorem dX5_dares_4 : decode cX5_dares 4 = .ok (.invokevirtual 79, 3) := by decide +kernel
theorem dX5_dares_7 : decode cX5_dares 7 = .ok (.iload_n 2, 1) := by decide +kernel
theorem dX5_dares_8 : decode cX5_dares 8 = .ok (.iload_n 3, 1) := by decide +kernel
theorem dX5_dares_9 : decode cX5_dares 9 = .ok (.invokestatic 83, 3) := by decide +kernel
theorem dX5_dares_12 : decode cX5_dares 12 = .ok (.if_icmp .lt 7, 3) := by decide +kernel
theorem dX5_dares_15 : decode cX5_dares 15 = .ok (.iconst 1, 1) := by decide +kernel
theorem dX5_dares_16 : decode cX5_dares 16 = .ok (.goto 4, 3) := by decide +kernel
theorem dX5_dares_19 : decode cX5_dares 19 = .ok (.iconst 0, 1) := by decide +kernel
theorem dX5_dares_20 : decode cX5_dares 20 = .ok (.ireturn, 1) := by decide +kernel
set_option maxRecDepth 20000 in
theorem ggX5_leastRefused_X7_at : GoodIn wsX5_leastRefused wsX7_at := goodIn_r _ [4] (by decide +kernel) (by decide +kernel)
set_option maxRecDepth 20000 in
theorem gX5_leastRefused_X7_at_n59 : GoodIn wsX5_leastRefused (wsX7_at) := ggX5_leastRefused_X7_at
set_option maxRecDepth 20000 in
theorem ggX5_leastRefused_X5_dares : GoodIn wsX5_leastRefused wsX5_dares := goodIn_r _ [9, 10, 11, 12, 8, 13, 14, 15, 2, 3, 4, 16, 17, 18, 19, 20, 21, 22, 23, 24, 25, 26, 27, 28, 29, 30, 31, 32, 33, 34, 35, 36, 37, 38, 39, 40, 41, 42, 43] (by decide +kernel) (by decide +kernel)
set_option maxRecDepth 20000 in
theorem gX5_leastRefused_X5_dares : GoodIn wsX5_leastRefused (wsV RX5 86 RX5 yX5_dares wsX5_dares) := goodIn_app (goodIn_of _ (by decide +kernel)) ggX5_leastRefused_X5_dares
theorem dX5_leastRefused_0 : decode cX5_leastRefused 0 = .ok (.iconst 1, 1) := by decide +kernel
theorem dX5_leastRefused_1 : decode cX5_leastRefused 1 = .ok (.istore_n 2, 1) := by decide +kernel
theorem dX5_leastRefused_2 : decode cX5_leastRefused 2 = .ok (.iload_n 2, 1) := by decide +kernel
theorem dX5_leastRefused_3 : decode cX5_leastRefused 3 = .ok (.bipush 15, 2) := by decide +kernel
theorem dX5_leastRefused_5 : decode cX5_leastRefused 5 = .ok (.if_icmp .gt 28, 3) := by decide +kernel
theorem dX5_leastRefused_8 : decode cX5_leastRefused 8 = .ok (.aload_n 0, 1) := by decide +kernel
theorem dX5_leastRefused_9 : decode cX5_leastRefused 9 = .ok (.iload_n 1, 1) := by decide +kernel
theorem dX5_leastRefused_10 : decode cX5_leastRefused 10 = .ok (.iload_n 2, 1) := by decide +kernel
theorem dX5_leastRefused_11 : decode cX5_leastRefused 11 = .ok (.aload_n 0, 1) := by decide +kernel
theorem dX5_leastRefused_12 : decode cX5_leastRefused 12 = .ok (.getfield 24, 3) := by decide +kernel
theorem dX5_leastRefused_15 : decode cX5_leastRefused 15 = .ok (.iload_n 1, 1) := by decide +kernel
theorem dX5_leastRefused_16 : decode cX5_leastRefused 16 = .ok (.invokestatic 59, 3) := by decide +kernel
theorem dX5_leastRefused_19 : decode cX5_leastRefused 19 = .ok (.invokevirtual 86, 3) := by decide +kernel
theorem dX5_leastRefused_22 : decode cX5_leastRefused 22 = .ok (.ifCond .ne 5, 3) := by decide +kernel
theorem dX5_leastRefused_25 : decode cX5_leastRefused 25 = .ok (.iload_n 2, 1) := by decide +kernel
theorem dX5_leastRefused_26 : decode cX5_leastRefused 26 = .ok (.ireturn, 1) := by decide +kernel
theorem dX5_leastRefused_27 : decode cX5_leastRefused 27 = .ok (.iinc 2 1, 3) := by decide +kernel
theorem dX5_leastRefused_30 : decode cX5_leastRefused 30 = .ok (.goto (-28), 3) := by decide +kernel
theorem dX5_leastRefused_33 : decode cX5_leastRefused 33 = .ok (.bipush 16, 2) := by decide +kernel
theorem dX5_leastRefused_35 : decode cX5_leastRefused 35 = .ok (.ireturn, 1) := by decide +kernel
set_option maxRecDepth 20000 in
theorem ggX5_surest_X5_oddsOf : GoodIn wsX5_surest wsX5_oddsOf := goodIn_r _ [5, 6, 7, 8, 9, 10, 11, 12, 13, 14, 15, 16, 17, 18, 19, 20, 21, 22, 23, 24, 25, 26, 27, 28, 29, 30] (by decide +kernel) (by decide +kernel)
set_option maxRecDepth 20000 in
theorem gX5_surest_X5_oddsOf : GoodIn wsX5_surest (wsV RX5 76 RX5 yX5_oddsOf wsX5_oddsOf) := goodIn_app (goodIn_of _ (by decide +kernel)) ggX5_surest_X5_oddsOf
theorem dX5_surest_0 : decode cX5_surest 0 = .ok (.bipush 15, 2) := by decide +kernel
theorem dX5_surest_2 : decode cX5_surest 2 = .ok (.istore_n 2, 1) := by decide +kernel
theorem dX5_surest_3 : decode cX5_surest 3 = .ok (.iload_n 2, 1) := by decide +kernel
theorem dX5_surest_4 : decode cX5_surest 4 = .ok (.iconst 1, 1) := by decide +kernel
theorem dX5_surest_5 : decode cX5_surest 5 = .ok (.if_icmp .lt 20, 3) := by decide +kernel
theorem dX5_surest_8 : decode cX5_surest 8 = .ok (.aload_n 0, 1) := by decide +kernel
theorem dX5_surest_9 : decode cX5_surest 9 = .ok (.iload_n 1, 1) := by decide +kernel
theorem dX5_surest_10 : decode cX5_surest 10 = .ok (.iload_n 2, 1) := by decide +kernel
theorem dX5_surest_11 : decode cX5_surest 11 = .ok (.invokevirtual 76, 3) := by decide +kernel
theorem dX5_surest_14 : decode cX5_surest 14 = .ok (.ifCond .ne 5, 3) := by decide +kernel
theorem dX5_surest_17 : decode cX5_surest 17 = .ok (.iload_n 2, 1) := by decide +kernel
theorem dX5_surest_18 : decode cX5_surest 18 = .ok (.ireturn, 1) := by decide +kernel
theorem dX5_surest_19 : decode cX5_surest 19 = .ok (.iinc 2 (-1), 3) := by decide +kernel
theorem dX5_surest_22 : decode cX5_surest 22 = .ok (.goto (-19), 3) := by decide +kernel
theorem dX5_surest_25 : decode cX5_surest 25 = .ok (.iconst 0, 1) := by decide +kernel
theorem dX5_surest_26 : decode cX5_surest 26 = .ok (.ireturn, 1) := by decide +kernel
set_option maxRecDepth 20000 in
theorem ggX5_whyNot_X5_isThere : GoodIn wsX5_whyNot wsX5_isThere := goodIn_r _ [8, 9, 10, 11, 12, 13, 14, 15, 16, 17, 18, 19, 20, 21, 22, 23, 24, 25] (by decide +kernel) (by decide +kernel)
set_option maxRecDepth 20000 in
theorem gX5_whyNot_X5_isThere : GoodIn wsX5_whyNot (wsV RX5 90 RX5 yX5_isThere wsX5_isThere) := goodIn_app (goodIn_of _ (by decide +kernel)) ggX5_whyNot_X5_isThere
set_option maxRecDepth 20000 in
theorem ggX5_whyNot_X7_at : GoodIn wsX5_whyNot wsX7_at := goodIn_r _ [12] (by decide +kernel) (by decide +kernel)
set_option maxRecDepth 20000 in
theorem gX5_whyNot_X7_at_n59 : GoodIn wsX5_whyNot (wsX7_at) := ggX5_whyNot_X7_at
theorem dX5_whyNot_0 : decode cX5_whyNot 0 = .ok (.aload_n 0, 1) := by decide +kernel
theorem dX5_whyNot_1 : decode cX5_whyNot 1 = .ok (.iload_n 1, 1) := by decide +kernel
theorem dX5_whyNot_2 : decode cX5_whyNot 2 = .ok (.invokevirtual 90, 3) := by decide +kernel
theorem dX5_whyNot_5 : decode cX5_whyNot 5 = .ok (.ifCond .eq 16, 3) := by decide +kernel
theorem dX5_whyNot_8 : decode cX5_whyNot 8 = .ok (.aload_n 0, 1) := by decide +kernel
theorem dX5_whyNot_9 : decode cX5_whyNot 9 = .ok (.iload_n 2, 1) := by decide +kernel
theorem dX5_whyNot_10 : decode cX5_whyNot 10 = .ok (.invokevirtual 90, 3) := by decide +kernel
theorem dX5_whyNot_13 : decode cX5_whyNot 13 = .ok (.ifCond .eq 8, 3) := by decide +kernel
theorem dX5_whyNot_16 : decode cX5_whyNot 16 = .ok (.iload_n 1, 1) := by decide +kernel
theorem dX5_whyNot_17 : decode cX5_whyNot 17 = .ok (.iload_n 2, 1) := by decide +kernel
theorem dX5_whyNot_18 : decode cX5_whyNot 18 = .ok (.if_icmp .ne 5, 3) := by decide +kernel
theorem dX5_whyNot_21 : decode cX5_whyNot 21 = .ok (.iconst 1, 1) := by decide +kernel
theorem dX5_whyNot_22 : decode cX5_whyNot 22 = .ok (.ireturn, 1) := by decide +kernel
theorem dX5_whyNot_23 : decode cX5_whyNot 23 = .ok (.aload_n 0, 1) := by decide +kernel
theorem dX5_whyNot_24 : decode cX5_whyNot 24 = .ok (.getfield 36, 3) := by decide +kernel
theorem dX5_whyNot_27 : decode cX5_whyNot 27 = .ok (.iload_n 1, 1) := by decide +kernel
theorem dX5_whyNot_28 : decode cX5_whyNot 28 = .ok (.invokestatic 59, 3) := by decide +kernel
theorem dX5_whyNot_31 : decode cX5_whyNot 31 = .ok (.ifCond .gt 14, 3) := by decide +kernel
theorem dX5_whyNot_34 : decode cX5_whyNot 34 = .ok (.aload_n 0, 1) := by decide +kernel
theorem dX5_whyNot_35 : decode cX5_whyNot 35 = .ok (.getfield 36, 3) := by decide +kernel
theorem dX5_whyNot_38 : decode cX5_whyNot 38 = .ok (.iload_n 2, 1) := by decide +kernel
theorem dX5_whyNot_39 : decode cX5_whyNot 39 = .ok (.invokestatic 59, 3) := by decide +kernel
theorem dX5_whyNot_42 : decode cX5_whyNot 42 = .ok (.ifCond .le 5, 3) := by decide +kernel
theorem dX5_whyNot_45 : decode cX5_whyNot 45 = .ok (.iconst 2, 1) := by decide +kernel
theorem dX5_whyNot_46 : decode cX5_whyNot 46 = .ok (.ireturn, 1) := by decide +kernel
theorem dX5_whyNot_47 : decode cX5_whyNot 47 = .ok (.iload_n 3, 1) := by decide +kernel
theorem dX5_whyNot_48 : decode cX5_whyNot 48 = .ok (.aload_n 0, 1) := by decide +kernel
theorem dX5_whyNot_49 : decode cX5_whyNot 49 = .ok (.getfield 30, 3) := by decide +kernel
theorem dX5_whyNot_52 : decode cX5_whyNot 52 = .ok (.iload_n 1, 1) := by decide +kernel
theorem dX5_whyNot_53 : decode cX5_whyNot 53 = .ok (.invokestatic 59, 3) := by decide +kernel
theorem dX5_whyNot_56 : decode cX5_whyNot 56 = .ok (.aload_n 0, 1) := by decide +kernel
theorem dX5_whyNot_57 : decode cX5_whyNot 57 = .ok (.getfield 9, 3) := by decide +kernel
theorem dX5_whyNot_60 : decode cX5_whyNot 60 = .ok (.iconst 0, 1) := by decide +kernel
theorem dX5_whyNot_61 : decode cX5_whyNot 61 = .ok (.invokestatic 59, 3) := by decide +kernel
theorem dX5_whyNot_64 : decode cX5_whyNot 64 = .ok (.iadd, 1) := by decide +kernel
theorem dX5_whyNot_65 : decode cX5_whyNot 65 = .ok (.if_icmp .le 5, 3) := by decide +kernel
theorem dX5_whyNot_68 : decode cX5_whyNot 68 = .ok (.iconst 3, 1) := by decide +kernel
theorem dX5_whyNot_69 : decode cX5_whyNot 69 = .ok (.ireturn, 1) := by decide +kernel
theorem dX5_whyNot_70 : decode cX5_whyNot 70 = .ok (.iload_n 3, 1) := by decide +kernel
theorem dX5_whyNot_71 : decode cX5_whyNot 71 = .ok (.aload_n 0, 1) := by decide +kernel
theorem dX5_whyNot_72 : decode cX5_whyNot 72 = .ok (.getfield 30, 3) := by decide +kernel
theorem dX5_whyNot_75 : decode cX5_whyNot 75 = .ok (.iload_n 2, 1) := by decide +kernel
theorem dX5_whyNot_76 : decode cX5_whyNot 76 = .ok (.invokestatic 59, 3) := by decide +kernel
theorem dX5_whyNot_79 : decode cX5_whyNot 79 = .ok (.if_icmp .gt 7, 3) := by decide +kernel
theorem dX5_whyNot_82 : decode cX5_whyNot 82 = .ok (.iconst 4, 1) := by decide +kernel
theorem dX5_whyNot_83 : decode cX5_whyNot 83 = .ok (.goto 4, 3) := by decide +kernel
theorem dX5_whyNot_86 : decode cX5_whyNot 86 = .ok (.iconst 0, 1) := by decide +kernel
theorem dX5_whyNot_87 : decode cX5_whyNot 87 = .ok (.ireturn, 1) := by decide +kernel
set_option maxRecDepth 20000 in
theorem ggX5_perform_X7_at : GoodIn wsX5_perform wsX7_at := goodIn_r _ [11] (by decide +kernel) (by decide +kernel)
set_option maxRecDepth 20000 in
theorem gX5_perform_X7_at_n59 : GoodIn wsX5_perform (wsX7_at) := ggX5_perform_X7_at
set_option maxRecDepth 20000 in
theorem ggX5_perform_X7_put : GoodIn wsX5_perform wsX7_put := goodIn_r _ [13] (by decide +kernel) (by decide +kernel)
set_option maxRecDepth 20000 in
theorem gX5_perform_X7_put_n63 : GoodIn wsX5_perform (wsX7_put) := ggX5_perform_X7_put
set_option maxRecDepth 20000 in
theorem ggX5_perform_X7_drawAfter : GoodIn wsX5_perform wsX7_drawAfter := goodIn_r _ [15, 16] (by decide +kernel) (by decide +kernel)
set_option maxRecDepth 20000 in
theorem gX5_perform_X7_drawAfter_n94 : GoodIn wsX5_perform (wsX7_drawAfter) := ggX5_perform_X7_drawAfter
set_option maxRecDepth 20000 in
theorem ggX5_perform_X5_oddsOf : GoodIn wsX5_perform wsX5_oddsOf := goodIn_r _ [21, 7, 22, 23, 24, 4, 25, 2, 3, 5, 9, 10, 11, 26, 27, 28, 29, 30, 31, 32, 33, 34, 35, 36, 37, 38] (by decide +kernel) (by decide +kernel)
set_option maxRecDepth 20000 in
theorem gX5_perform_X5_oddsOf : GoodIn wsX5_perform (wsV RX5 76 RX5 yX5_oddsOf wsX5_oddsOf) := goodIn_app (goodIn_of _ (by decide +kernel)) ggX5_perform_X5_oddsOf
theorem dX5_perform_0 : decode cX5_perform 0 = .ok (.aload_n 0, 1) := by decide +kernel
theorem dX5_perform_1 : decode cX5_perform 1 = .ok (.getfield 30, 3) := by decide +kernel
theorem dX5_perform_4 : decode cX5_perform 4 = .ok (.iload_n 1, 1) := by decide +kernel
theorem dX5_perform_5 : decode cX5_perform 5 = .ok (.aload_n 0, 1) := by decide +kernel
theorem dX5_perform_6 : decode cX5_perform 6 = .ok (.getfield 30, 3) := by decide +kernel
theorem dX5_perform_9 : decode cX5_perform 9 = .ok (.iload_n 1, 1) := by decide +kernel
theorem dX5_perform_10 : decode cX5_perform 10 = .ok (.invokestatic 59, 3) := by decide +kernel
theorem dX5_perform_13 : decode cX5_perform 13 = .ok (.iload_n 2, 1) := by decide +kernel
theorem dX5_perform_14 : decode cX5_perform 14 = .ok (.invokestatic 73, 3) := by decide +kernel
theorem dX5_perform_17 : decode cX5_perform 17 = .ok (.invokestatic 63, 3) := by decide +kernel
theorem dX5_perform_20 : decode cX5_perform 20 = .ok (.aload_n 0, 1) := by decide +kernel
theorem dX5_perform_21 : decode cX5_perform 21 = .ok (.getfield 33, 3) := by decide +kernel
theorem dX5_perform_24 : decode cX5_perform 24 = .ok (.iload_n 1, 1) := by decide +kernel
theorem dX5_perform_25 : decode cX5_perform 25 = .ok (.aload_n 0, 1) := by decide +kernel
theorem dX5_perform_26 : decode cX5_perform 26 = .ok (.getfield 33, 3) := by decide +kernel
theorem dX5_perform_29 : decode cX5_perform 29 = .ok (.iload_n 1, 1) := by decide +kernel
theorem dX5_perform_30 : decode cX5_perform 30 = .ok (.invokestatic 59, 3) := by decide +kernel
theorem dX5_perform_33 : decode cX5_perform 33 = .ok (.iload_n 2, 1) := by decide +kernel
theorem dX5_perform_34 : decode cX5_perform 34 = .ok (.iadd, 1) := by decide +kernel
theorem dX5_perform_35 : decode cX5_perform 35 = .ok (.invokestatic 63, 3) := by decide +kernel
theorem dX5_perform_38 : decode cX5_perform 38 = .ok (.aload_n 0, 1) := by decide +kernel
theorem dX5_perform_39 : decode cX5_perform 39 = .ok (.getfield 9, 3) := by decide +kernel
theorem dX5_perform_42 : decode cX5_perform 42 = .ok (.bipush 6, 2) := by decide +kernel
theorem dX5_perform_44 : decode cX5_perform 44 = .ok (.invokestatic 59, 3) := by decide +kernel
theorem dX5_perform_47 : decode cX5_perform 47 = .ok (.invokestatic 94, 3) := by decide +kernel
theorem dX5_perform_50 : decode cX5_perform 50 = .ok (.istore_n 3, 1) := by decide +kernel
theorem dX5_perform_51 : decode cX5_perform 51 = .ok (.aload_n 0, 1) := by decide +kernel
theorem dX5_perform_52 : decode cX5_perform 52 = .ok (.getfield 9, 3) := by decide +kernel
theorem dX5_perform_55 : decode cX5_perform 55 = .ok (.bipush 6, 2) := by decide +kernel
theorem dX5_perform_57 : decode cX5_perform 57 = .ok (.iload_n 3, 1) := by decide +kernel
theorem dX5_perform_58 : decode cX5_perform 58 = .ok (.invokestatic 63, 3) := by decide +kernel
theorem dX5_perform_61 : decode cX5_perform 61 = .ok (.iload_n 3, 1) := by decide +kernel
theorem dX5_perform_62 : decode cX5_perform 62 = .ok (.bipush 10, 2) := by decide +kernel
theorem dX5_perform_64 : decode cX5_perform 64 = .ok (.irem, 1) := by decide +kernel
theorem dX5_perform_65 : decode cX5_perform 65 = .ok (.aload_n 0, 1) := by decide +kernel
theorem dX5_perform_66 : decode cX5_perform 66 = .ok (.iload_n 1, 1) := by decide +kernel
theorem dX5_perform_67 : decode cX5_perform 67 = .ok (.iload_n 2, 1) := by decide +kernel
theorem dX5_perform_68 : decode cX5_perform 68 = .ok (.invokevirtual 76, 3) := by decide +kernel
theorem dX5_perform_71 : decode cX5_perform 71 = .ok (.if_icmp .lt 5, 3) := by decide +kernel
theorem dX5_perform_74 : decode cX5_perform 74 = .ok (.iconst 0, 1) := by decide +kernel
theorem dX5_perform_75 : decode cX5_perform 75 = .ok (.ireturn, 1) := by decide +kernel
theorem dX5_perform_76 : decode cX5_perform 76 = .ok (.aload_n 0, 1) := by decide +kernel
theorem dX5_perform_77 : decode cX5_perform 77 = .ok (.getfield 36, 3) := by decide +kernel
theorem dX5_perform_80 : decode cX5_perform 80 = .ok (.iload_n 1, 1) := by decide +kernel
theorem dX5_perform_81 : decode cX5_perform 81 = .ok (.aload_n 0, 1) := by decide +kernel
theorem dX5_perform_82 : decode cX5_perform 82 = .ok (.getfield 9, 3) := by decide +kernel
theorem dX5_perform_85 : decode cX5_perform 85 = .ok (.iconst 4, 1) := by decide +kernel
theorem dX5_perform_86 : decode cX5_perform 86 = .ok (.invokestatic 59, 3) := by decide +kernel
theorem dX5_perform_89 : decode cX5_perform 89 = .ok (.invokestatic 63, 3) := by decide +kernel
theorem dX5_perform_92 : decode cX5_perform 92 = .ok (.iconst 1, 1) := by decide +kernel
theorem dX5_perform_93 : decode cX5_perform 93 = .ok (.ireturn, 1) := by decide +kernel
set_option maxRecDepth 20000 in
theorem ggX5_refuse_X7_at : GoodIn wsX5_refuse wsX7_at := goodIn_r _ [4] (by decide +kernel) (by decide +kernel)
set_option maxRecDepth 20000 in
theorem gX5_refuse_X7_at_n59 : GoodIn wsX5_refuse (wsX7_at) := ggX5_refuse_X7_at
set_option maxRecDepth 20000 in
theorem ggX5_refuse_X7_put : GoodIn wsX5_refuse wsX7_put := goodIn_r _ [6] (by decide +kernel) (by decide +kernel)
set_option maxRecDepth 20000 in
theorem gX5_refuse_X7_put_n63 : GoodIn wsX5_refuse (wsX7_put) := ggX5_refuse_X7_put
theorem dX5_refuse_0 : decode cX5_refuse 0 = .ok (.aload_n 0, 1) := by decide +kernel
theorem dX5_refuse_1 : decode cX5_refuse 1 = .ok (.getfield 33, 3) := by decide +kernel
theorem dX5_refuse_4 : decode cX5_refuse 4 = .ok (.iload_n 1, 1) := by decide +kernel
theorem dX5_refuse_5 : decode cX5_refuse 5 = .ok (.aload_n 0, 1) := by decide +kernel
theorem dX5_refuse_6 : decode cX5_refuse 6 = .ok (.getfield 33, 3) := by decide +kernel
theorem dX5_refuse_9 : decode cX5_refuse 9 = .ok (.iload_n 1, 1) := by decide +kernel
theorem dX5_refuse_10 : decode cX5_refuse 10 = .ok (.invokestatic 59, 3) := by decide +kernel
theorem dX5_refuse_13 : decode cX5_refuse 13 = .ok (.iload_n 2, 1) := by decide +kernel
theorem dX5_refuse_14 : decode cX5_refuse 14 = .ok (.iconst 2, 1) := by decide +kernel
theorem dX5_refuse_15 : decode cX5_refuse 15 = .ok (.idiv, 1) := by decide +kernel
theorem dX5_refuse_16 : decode cX5_refuse 16 = .ok (.isub, 1) := by decide +kernel
theorem dX5_refuse_17 : decode cX5_refuse 17 = .ok (.invokestatic 63, 3) := by decide +kernel
theorem dX5_refuse_20 : decode cX5_refuse 20 = .ok (.return_, 1) := by decide +kernel
set_option maxRecDepth 20000 in
theorem ggX5_night_X7_at : GoodIn wsX5_night wsX7_at := goodIn_r _ [13] (by decide +kernel) (by decide +kernel)
set_option maxRecDepth 20000 in
theorem gX5_night_X7_at_n59 : GoodIn wsX5_night (wsX7_at) := ggX5_night_X7_at
set_option maxRecDepth 20000 in
theorem ggX5_night_X7_put : GoodIn wsX5_night wsX7_put := goodIn_r _ [15] (by decide +kernel) (by decide +kernel)
set_option maxRecDepth 20000 in
theorem gX5_night_X7_put_n63 : GoodIn wsX5_night (wsX7_put) := ggX5_night_X7_put
theorem dX5_night_0 : decode cX5_night 0 = .ok (.aload_n 0, 1) := by decide +kernel
theorem dX5_night_1 : decode cX5_night 1 = .ok (.getfield 9, 3) := by decide +kernel
theorem dX5_night_4 : decode cX5_night 4 = .ok (.iconst 3, 1) := by decide +kernel
theorem dX5_night_5 : decode cX5_night 5 = .ok (.invokestatic 59, 3) := by decide +kernel
theorem dX5_night_8 : decode cX5_night 8 = .ok (.istore_n 1, 1) := by decide +kernel
theorem dX5_night_9 : decode cX5_night 9 = .ok (.iconst 0, 1) := by decide +kernel
theorem dX5_night_10 : decode cX5_night 10 = .ok (.istore_n 2, 1) := by decide +kernel
theorem dX5_night_11 : decode cX5_night 11 = .ok (.iload_n 2, 1) := by decide +kernel
theorem dX5_night_12 : decode cX5_night 12 = .ok (.bipush 6, 2) := by decide +kernel
theorem dX5_night_14 : decode cX5_night 14 = .ok (.if_icmp .ge 69, 3) := by decide +kernel
theorem dX5_night_17 : decode cX5_night 17 = .ok (.aload_n 0, 1) := by decide +kernel
theorem dX5_night_18 : decode cX5_night 18 = .ok (.getfield 33, 3) := by decide +kernel
theorem dX5_night_21 : decode cX5_night 21 = .ok (.iload_n 2, 1) := by decide +kernel
theorem dX5_night_22 : decode cX5_night 22 = .ok (.invokestatic 59, 3) := by decide +kernel
theorem dX5_night_25 : decode cX5_night 25 = .ok (.istore_n 3, 1) := by decide +kernel
theorem dX5_night_26 : decode cX5_night 26 = .ok (.aload_n 0, 1) := by decide +kernel
theorem dX5_night_27 : decode cX5_night 27 = .ok (.getfield 33, 3) := by decide +kernel
theorem dX5_night_30 : decode cX5_night 30 = .ok (.iload_n 2, 1) := by decide +kernel
theorem dX5_night_31 : decode cX5_night 31 = .ok (.iload_n 3, 1) := by decide +kernel
theorem dX5_night_32 : decode cX5_night 32 = .ok (.ifCond .le 13, 3) := by decide +kernel
theorem dX5_night_35 : decode cX5_night 35 = .ok (.iconst 0, 1) := by decide +kernel
theorem dX5_night_36 : decode cX5_night 36 = .ok (.iload_n 3, 1) := by decide +kernel
theorem dX5_night_37 : decode cX5_night 37 = .ok (.iload_n 1, 1) := by decide +kernel
theorem dX5_night_38 : decode cX5_night 38 = .ok (.isub, 1) := by decide +kernel
theorem dX5_night_39 : decode cX5_night 39 = .ok (.invokestatic 73, 3) := by decide +kernel
theorem dX5_night_42 : decode cX5_night 42 = .ok (.goto 10, 3) := by decide +kernel
theorem dX5_night_45 : decode cX5_night 45 = .ok (.iconst 0, 1) := by decide +kernel
theorem dX5_night_46 : decode cX5_night 46 = .ok (.iload_n 3, 1) := by decide +kernel
theorem dX5_night_47 : decode cX5_night 47 = .ok (.iload_n 1, 1) := by decide +kernel
theorem dX5_night_48 : decode cX5_night 48 = .ok (.iadd, 1) := by decide +kernel
theorem dX5_night_49 : decode cX5_night 49 = .ok (.invokestatic 67, 3) := by decide +kernel
theorem dX5_night_52 : decode cX5_night 52 = .ok (.invokestatic 63, 3) := by decide +kernel
theorem dX5_night_55 : decode cX5_night 55 = .ok (.aload_n 0, 1) := by decide +kernel
theorem dX5_night_56 : decode cX5_night 56 = .ok (.getfield 36, 3) := by decide +kernel
theorem dX5_night_59 : decode cX5_night 59 = .ok (.iload_n 2, 1) := by decide +kernel
theorem dX5_night_60 : decode cX5_night 60 = .ok (.iconst 0, 1) := by decide +kernel
theorem dX5_night_61 : decode cX5_night 61 = .ok (.aload_n 0, 1) := by decide +kernel
theorem dX5_night_62 : decode cX5_night 62 = .ok (.getfield 36, 3) := by decide +kernel
theorem dX5_night_65 : decode cX5_night 65 = .ok (.iload_n 2, 1) := by decide +kernel
theorem dX5_night_66 : decode cX5_night 66 = .ok (.invokestatic 59, 3) := by decide +kernel
theorem dX5_night_69 : decode cX5_night 69 = .ok (.iconst 1, 1) := by decide +kernel
theorem dX5_night_70 : decode cX5_night 70 = .ok (.isub, 1) := by decide +kernel
theorem dX5_night_71 : decode cX5_night 71 = .ok (.invokestatic 73, 3) := by decide +kernel
theorem dX5_night_74 : decode cX5_night 74 = .ok (.invokestatic 63, 3) := by decide +kernel
theorem dX5_night_77 : decode cX5_night 77 = .ok (.iinc 2 1, 3) := by decide +kernel
theorem dX5_night_80 : decode cX5_night 80 = .ok (.goto (-69), 3) := by decide +kernel
theorem dX5_night_83 : decode cX5_night 83 = .ok (.return_, 1) := by decide +kernel
set_option maxRecDepth 20000 in
theorem ggX5_wouldRefuse_X5_isThere : GoodIn wsX5_wouldRefuse wsX5_isThere := goodIn_r _ [8, 9, 10, 11, 12, 38, 39, 40, 41, 42, 43, 44, 45, 46, 47, 48, 49, 50] (by decide +kernel) (by decide +kernel)
set_option maxRecDepth 20000 in
theorem gX5_wouldRefuse_X5_isThere : GoodIn wsX5_wouldRefuse (wsV RX5 90 RX5 yX5_isThere wsX5_isThere) := goodIn_app (goodIn_of _ (by decide +kernel)) ggX5_wouldRefuse_X5_isThere
set_option maxRecDepth 20000 in
theorem ggX5_wouldRefuse_X7_at : GoodIn wsX5_wouldRefuse wsX7_at := goodIn_r _ [12] (by decide +kernel) (by decide +kernel)
set_option maxRecDepth 20000 in
theorem gX5_wouldRefuse_X7_at_n59 : GoodIn wsX5_wouldRefuse (wsX7_at) := ggX5_wouldRefuse_X7_at
set_option maxRecDepth 20000 in
theorem ggX5_wouldRefuse_X5_dares : GoodIn wsX5_wouldRefuse wsX5_dares := goodIn_r _ [16, 17, 18, 19, 7, 20, 21, 22, 10, 11, 12, 23, 24, 25, 26, 27, 28, 29, 30, 31, 32, 33, 34, 35, 36, 37, 38, 39, 40, 41, 42, 43, 44, 45, 46, 47, 48, 49, 50] (by decide +kernel) (by decide +kernel)
set_option maxRecDepth 20000 in
theorem gX5_wouldRefuse_X5_dares : GoodIn wsX5_wouldRefuse (wsV RX5 86 RX5 yX5_dares wsX5_dares) := goodIn_app (goodIn_of _ (by decide +kernel)) ggX5_wouldRefuse_X5_dares
theorem dX5_wouldRefuse_0 : decode cX5_wouldRefuse 0 = .ok (.aload_n 0, 1) := by decide +kernel
theorem dX5_wouldRefuse_1 : decode cX5_wouldRefuse 1 = .ok (.iload_n 1, 1) := by decide +kernel
theorem dX5_wouldRefuse_2 : decode cX5_wouldRefuse 2 = .ok (.invokevirtual 90, 3) := by decide +kernel
theorem dX5_wouldRefuse_5 : decode cX5_wouldRefuse 5 = .ok (.ifCond .eq 47, 3) := by decide +kernel
theorem dX5_wouldRefuse_8 : decode cX5_wouldRefuse 8 = .ok (.aload_n 0, 1) := by decide +kernel
theorem dX5_wouldRefuse_9 : decode cX5_wouldRefuse 9 = .ok (.getfield 36, 3) := by decide +kernel
theorem dX5_wouldRefuse_12 : decode cX5_wouldRefuse 12 = .ok (.iload_n 1, 1) := by decide +kernel
theorem dX5_wouldRefuse_13 : decode cX5_wouldRefuse 13 = .ok (.invokestatic 59, 3) := by decide +kernel
theorem dX5_wouldRefuse_16 : decode cX5_wouldRefuse 16 = .ok (.ifCond .ne 36, 3) := by decide +kernel
theorem dX5_wouldRefuse_19 : decode cX5_wouldRefuse 19 = .ok (.aload_n 0, 1) := by decide +kernel
theorem dX5_wouldRefuse_20 : decode cX5_wouldRefuse 20 = .ok (.getfield 30, 3) := by decide +kernel
theorem dX5_wouldRefuse_23 : decode cX5_wouldRefuse 23 = .ok (.iload_n 1, 1) := by decide +kernel
theorem dX5_wouldRefuse_24 : decode cX5_wouldRefuse 24 = .ok (.invokestatic 59, 3) := by decide +kernel
theorem dX5_wouldRefuse_27 : decode cX5_wouldRefuse 27 = .ok (.iload_n 2, 1) := by decide +kernel
theorem dX5_wouldRefuse_28 : decode cX5_wouldRefuse 28 = .ok (.if_icmp .ge 24, 3) := by decide +kernel
theorem dX5_wouldRefuse_31 : decode cX5_wouldRefuse 31 = .ok (.aload_n 0, 1) := by decide +kernel
theorem dX5_wouldRefuse_32 : decode cX5_wouldRefuse 32 = .ok (.iload_n 1, 1) := by decide +kernel
theorem dX5_wouldRefuse_33 : decode cX5_wouldRefuse 33 = .ok (.iload_n 2, 1) := by decide +kernel
theorem dX5_wouldRefuse_34 : decode cX5_wouldRefuse 34 = .ok (.aload_n 0, 1) := by decide +kernel
theorem dX5_wouldRefuse_35 : decode cX5_wouldRefuse 35 = .ok (.getfield 24, 3) := by decide +kernel
theorem dX5_wouldRefuse_38 : decode cX5_wouldRefuse 38 = .ok (.iload_n 1, 1) := by decide +kernel
theorem dX5_wouldRefuse_39 : decode cX5_wouldRefuse 39 = .ok (.invokestatic 59, 3) := by decide +kernel
theorem dX5_wouldRefuse_42 : decode cX5_wouldRefuse 42 = .ok (.invokevirtual 86, 3) := by decide +kernel
theorem dX5_wouldRefuse_45 : decode cX5_wouldRefuse 45 = .ok (.ifCond .ne 7, 3) := by decide +kernel
theorem dX5_wouldRefuse_48 : decode cX5_wouldRefuse 48 = .ok (.iconst 1, 1) := by decide +kernel
theorem dX5_wouldRefuse_49 : decode cX5_wouldRefuse 49 = .ok (.goto 4, 3) := by decide +kernel
theorem dX5_wouldRefuse_52 : decode cX5_wouldRefuse 52 = .ok (.iconst 0, 1) := by decide +kernel
theorem dX5_wouldRefuse_53 : decode cX5_wouldRefuse 53 = .ok (.ireturn, 1) := by decide +kernel
set_option maxRecDepth 20000 in
theorem ggX5_joined_X5_joinedInRound : GoodIn wsX5_joined wsX5_joinedInRound := goodIn_r _ [5, 6, 7, 8, 9, 10, 11, 12, 13, 14, 15, 16, 17, 4, 18, 19, 20, 21, 22, 23, 24, 25, 26, 27, 28, 29, 30, 31, 32, 33, 34, 35] (by decide +kernel) (by decide +kernel)
set_option maxRecDepth 20000 in
theorem gX5_joined_X5_joinedInRound : GoodIn wsX5_joined (wsV RX5 98 RX5 yX5_joinedInRound wsX5_joinedInRound) := goodIn_app (goodIn_of _ (by decide +kernel)) ggX5_joined_X5_joinedInRound
theorem dX5_joined_0 : decode cX5_joined 0 = .ok (.iload_n 1, 1) := by decide +kernel
theorem dX5_joined_1 : decode cX5_joined 1 = .ok (.istore_n 2, 1) := by decide +kernel
theorem dX5_joined_2 : decode cX5_joined 2 = .ok (.iconst 0, 1) := by decide +kernel
theorem dX5_joined_3 : decode cX5_joined 3 = .ok (.istore_n 3, 1) := by decide +kernel
theorem dX5_joined_4 : decode cX5_joined 4 = .ok (.iload_n 3, 1) := by decide +kernel
theorem dX5_joined_5 : decode cX5_joined 5 = .ok (.bipush 6, 2) := by decide +kernel
theorem dX5_joined_7 : decode cX5_joined 7 = .ok (.if_icmp .ge 15, 3) := by decide +kernel
theorem dX5_joined_10 : decode cX5_joined 10 = .ok (.aload_n 0, 1) := by decide +kernel
theorem dX5_joined_11 : decode cX5_joined 11 = .ok (.iload_n 2, 1) := by decide +kernel
theorem dX5_joined_12 : decode cX5_joined 12 = .ok (.invokevirtual 98, 3) := by decide +kernel
theorem dX5_joined_15 : decode cX5_joined 15 = .ok (.istore_n 2, 1) := by decide +kernel
theorem dX5_joined_16 : decode cX5_joined 16 = .ok (.iinc 3 1, 3) := by decide +kernel
theorem dX5_joined_19 : decode cX5_joined 19 = .ok (.goto (-15), 3) := by decide +kernel
theorem dX5_joined_22 : decode cX5_joined 22 = .ok (.iload_n 2, 1) := by decide +kernel
theorem dX5_joined_23 : decode cX5_joined 23 = .ok (.ireturn, 1) := by decide +kernel
set_option maxRecDepth 20000 in
theorem ggX5_joinedInRound_J6_bitCount_0f7a4 : GoodIn wsX5_joinedInRound wsJ6_bitCount_0f7a4 := goodIn_r _ [6, 7, 8, 9] (by decide +kernel) (by decide +kernel)
set_option maxRecDepth 20000 in
theorem gX5_joinedInRound_J6_bitCount_0f7a4 : GoodIn wsX5_joinedInRound (va_wsS RX5 101 yJ6_bitCount_0f7a4 wsJ6_bitCount_0f7a4) := goodIn_app (goodIn_of _ (by decide +kernel)) ggX5_joinedInRound_J6_bitCount_0f7a4
set_option maxRecDepth 20000 in
theorem ggX5_joinedInRound_X5_isThere : GoodIn wsX5_joinedInRound wsX5_isThere := goodIn_r _ [14, 15, 16, 17, 18, 19, 20, 21, 22, 23, 24, 25, 26, 27, 28, 29, 30, 31] (by decide +kernel) (by decide +kernel)
set_option maxRecDepth 20000 in
theorem gX5_joinedInRound_X5_isThere : GoodIn wsX5_joinedInRound (wsV RX5 90 RX5 yX5_isThere wsX5_isThere) := goodIn_app (goodIn_of _ (by decide +kernel)) ggX5_joinedInRound_X5_isThere
set_option maxRecDepth 20000 in
theorem ggX5_joinedInRound_X7_at : GoodIn wsX5_joinedInRound wsX7_at := goodIn_r _ [18] (by decide +kernel) (by decide +kernel)
set_option maxRecDepth 20000 in
theorem gX5_joinedInRound_X7_at_n59 : GoodIn wsX5_joinedInRound (wsX7_at) := ggX5_joinedInRound_X7_at
theorem dX5_joinedInRound_0 : decode cX5_joinedInRound 0 = .ok (.iload_n 1, 1) := by decide +kernel
theorem dX5_joinedInRound_1 : decode cX5_joinedInRound 1 = .ok (.invokestatic 101, 3) := by decide +kernel
theorem dX5_joinedInRound_4 : decode cX5_joinedInRound 4 = .ok (.istore_n 2, 1) := by decide +kernel
theorem dX5_joinedInRound_5 : decode cX5_joinedInRound 5 = .ok (.iload_n 1, 1) := by decide +kernel
theorem dX5_joinedInRound_6 : decode cX5_joinedInRound 6 = .ok (.istore_n 3, 1) := by decide +kernel
theorem dX5_joinedInRound_7 : decode cX5_joinedInRound 7 = .ok (.iconst 0, 1) := by decide +kernel
theorem dX5_joinedInRound_8 : decode cX5_joinedInRound 8 = .ok (.istore 4, 2) := by decide +kernel
theorem dX5_joinedInRound_10 : decode cX5_joinedInRound 10 = .ok (.iload 4, 2) := by decide +kernel
theorem dX5_joinedInRound_12 : decode cX5_joinedInRound 12 = .ok (.bipush 6, 2) := by decide +kernel
theorem dX5_joinedInRound_14 : decode cX5_joinedInRound 14 = .ok (.if_icmp .ge 52, 3) := by decide +kernel
theorem dX5_joinedInRound_17 : decode cX5_joinedInRound 17 = .ok (.aload_n 0, 1) := by decide +kernel
theorem dX5_joinedInRound_18 : decode cX5_joinedInRound 18 = .ok (.iload 4, 2) := by decide +kernel
theorem dX5_joinedInRound_20 : decode cX5_joinedInRound 20 = .ok (.invokevirtual 90, 3) := by decide +kernel
theorem dX5_joinedInRound_23 : decode cX5_joinedInRound 23 = .ok (.ifCond .eq 37, 3) := by decide +kernel
theorem dX5_joinedInRound_26 : decode cX5_joinedInRound 26 = .ok (.aload_n 0, 1) := by decide +kernel
theorem dX5_joinedInRound_27 : decode cX5_joinedInRound 27 = .ok (.getfield 27, 3) := by decide +kernel
theorem dX5_joinedInRound_30 : decode cX5_joinedInRound 30 = .ok (.iload 4, 2) := by decide +kernel
theorem dX5_joinedInRound_32 : decode cX5_joinedInRound 32 = .ok (.invokestatic 59, 3) := by decide +kernel
theorem dX5_joinedInRound_35 : decode cX5_joinedInRound 35 = .ok (.ifCond .ne 25, 3) := by decide +kernel
theorem dX5_joinedInRound_38 : decode cX5_joinedInRound 38 = .ok (.aload_n 0, 1) := by decide +kernel
theorem dX5_joinedInRound_39 : decode cX5_joinedInRound 39 = .ok (.getfield 24, 3) := by decide +kernel
theorem dX5_joinedInRound_42 : decode cX5_joinedInRound 42 = .ok (.iload 4, 2) := by decide +kernel
theorem dX5_joinedInRound_44 : decode cX5_joinedInRound 44 = .ok (.invokestatic 59, 3) := by decide +kernel
theorem dX5_joinedInRound_47 : decode cX5_joinedInRound 47 = .ok (.iconst 2, 1) := by decide +kernel
theorem dX5_joinedInRound_48 : decode cX5_joinedInRound 48 = .ok (.idiv, 1) := by decide +kernel
theorem dX5_joinedInRound_49 : decode cX5_joinedInRound 49 = .ok (.iload_n 2, 1) := by decide +kernel
theorem dX5_joinedInRound_50 : decode cX5_joinedInRound 50 = .ok (.if_icmp .gt 10, 3) := by decide +kernel
theorem dX5_joinedInRound_53 : decode cX5_joinedInRound 53 = .ok (.iload_n 3, 1) := by decide +kernel
theorem dX5_joinedInRound_54 : decode cX5_joinedInRound 54 = .ok (.iconst 1, 1) := by decide +kernel
theorem dX5_joinedInRound_55 : decode cX5_joinedInRound 55 = .ok (.iload 4, 2) := by decide +kernel
theorem dX5_joinedInRound_57 : decode cX5_joinedInRound 57 = .ok (.ishl, 1) := by decide +kernel
theorem dX5_joinedInRound_58 : decode cX5_joinedInRound 58 = .ok (.ior, 1) := by decide +kernel
theorem dX5_joinedInRound_59 : decode cX5_joinedInRound 59 = .ok (.istore_n 3, 1) := by decide +kernel
theorem dX5_joinedInRound_60 : decode cX5_joinedInRound 60 = .ok (.iinc 4 1, 3) := by decide +kernel
theorem dX5_joinedInRound_63 : decode cX5_joinedInRound 63 = .ok (.goto (-53), 3) := by decide +kernel
theorem dX5_joinedInRound_66 : decode cX5_joinedInRound 66 = .ok (.iload_n 3, 1) := by decide +kernel
theorem dX5_joinedInRound_67 : decode cX5_joinedInRound 67 = .ok (.ireturn, 1) := by decide +kernel
set_option maxRecDepth 20000 in
theorem ggX5_isMost_J6_bitCount_0f7a4 : GoodIn wsX5_isMost wsJ6_bitCount_0f7a4 := goodIn_r _ [4, 5, 6, 7] (by decide +kernel) (by decide +kernel)
set_option maxRecDepth 20000 in
theorem gX5_isMost_J6_bitCount_0f7a4 : GoodIn wsX5_isMost (va_wsS RX5 101 yJ6_bitCount_0f7a4 wsJ6_bitCount_0f7a4) := goodIn_app (goodIn_of _ (by decide +kernel)) ggX5_isMost_J6_bitCount_0f7a4
set_option maxRecDepth 20000 in
theorem ggX5_isMost_X5_bits : GoodIn wsX5_isMost wsX5_bits := goodIn_r _ [12, 13, 14, 15, 16, 17, 18, 19, 20, 21, 22, 23, 24, 25, 26, 27, 28, 29] (by decide +kernel) (by decide +kernel)
set_option maxRecDepth 20000 in
theorem gX5_isMost_X5_bits : GoodIn wsX5_isMost (wsV RX5 106 RX5 yX5_bits wsX5_bits) := goodIn_app (goodIn_of _ (by decide +kernel)) ggX5_isMost_X5_bits
theorem dX5_isMost_0 : decode cX5_isMost 0 = .ok (.iconst 2, 1) := by decide +kernel
theorem dX5_isMost_1 : decode cX5_isMost 1 = .ok (.iload_n 1, 1) := by decide +kernel
theorem dX5_isMost_2 : decode cX5_isMost 2 = .ok (.invokestatic 101, 3) := by decide +kernel
theorem dX5_isMost_5 : decode cX5_isMost 5 = .ok (.imul, 1) := by decide +kernel
theorem dX5_isMost_6 : decode cX5_isMost 6 = .ok (.aload_n 0, 1) := by decide +kernel
theorem dX5_isMost_7 : decode cX5_isMost 7 = .ok (.invokevirtual 106, 3) := by decide +kernel
theorem dX5_isMost_10 : decode cX5_isMost 10 = .ok (.invokestatic 101, 3) := by decide +kernel
theorem dX5_isMost_13 : decode cX5_isMost 13 = .ok (.if_icmp .le 7, 3) := by decide +kernel
theorem dX5_isMost_16 : decode cX5_isMost 16 = .ok (.iconst 1, 1) := by decide +kernel
theorem dX5_isMost_17 : decode cX5_isMost 17 = .ok (.goto 4, 3) := by decide +kernel
theorem dX5_isMost_20 : decode cX5_isMost 20 = .ok (.iconst 0, 1) := by decide +kernel
theorem dX5_isMost_21 : decode cX5_isMost 21 = .ok (.ireturn, 1) := by decide +kernel
set_option maxRecDepth 20000 in
theorem ggX5_fewestToHold_X5_isThere : GoodIn wsX5_fewestToHold wsX5_isThere := goodIn_r _ [6, 7, 8, 9, 10, 35, 36, 37, 38, 39, 40, 41, 42, 43, 44, 45, 46, 47] (by decide +kernel) (by decide +kernel)
set_option maxRecDepth 20000 in
theorem gX5_fewestToHold_X5_isThere : GoodIn wsX5_fewestToHold (wsV RX5 90 RX5 yX5_isThere wsX5_isThere) := goodIn_app (goodIn_of _ (by decide +kernel)) ggX5_fewestToHold_X5_isThere
set_option maxRecDepth 20000 in
theorem ggX5_fewestToHold_X7_at : GoodIn wsX5_fewestToHold wsX7_at := goodIn_r _ [10] (by decide +kernel) (by decide +kernel)
set_option maxRecDepth 20000 in
theorem gX5_fewestToHold_X7_at_n59 : GoodIn wsX5_fewestToHold (wsX7_at) := ggX5_fewestToHold_X7_at
set_option maxRecDepth 20000 in
theorem ggX5_fewestToHold_J6_bitCount_0f7a4 : GoodIn wsX5_fewestToHold wsJ6_bitCount_0f7a4 := goodIn_r _ [14, 15, 16, 17] (by decide +kernel) (by decide +kernel)
set_option maxRecDepth 20000 in
theorem gX5_fewestToHold_J6_bitCount_0f7a4 : GoodIn wsX5_fewestToHold (va_wsS RX5 101 yJ6_bitCount_0f7a4 wsJ6_bitCount_0f7a4) := goodIn_app (goodIn_of _ (by decide +kernel)) ggX5_fewestToHold_J6_bitCount_0f7a4
set_option maxRecDepth 20000 in
theorem ggX5_fewestToHold_X5_joined : GoodIn wsX5_fewestToHold wsX5_joined := goodIn_r _ [21, 22, 23, 24, 5, 25, 1, 26, 11, 12, 13, 14, 15, 16, 17, 2, 3, 4, 6, 7, 8, 9, 10, 35, 36, 37, 38, 39, 40, 41, 42, 43, 44, 45, 46, 47] (by decide +kernel) (by decide +kernel)
set_option maxRecDepth 20000 in
theorem gX5_fewestToHold_X5_joined : GoodIn wsX5_fewestToHold (wsV RX5 110 RX5 yX5_joined wsX5_joined) := goodIn_app (goodIn_of _ (by decide +kernel)) ggX5_fewestToHold_X5_joined
set_option maxRecDepth 20000 in
theorem ggX5_fewestToHold_X5_isMost : GoodIn wsX5_fewestToHold wsX5_isMost := goodIn_r _ [30, 11, 12, 13, 14, 15, 16, 17, 31, 32, 33, 5, 34, 7, 8, 9, 10, 35, 36, 37, 38, 39, 40, 41, 42, 43, 44, 45, 46, 47] (by decide +kernel) (by decide +kernel)
set_option maxRecDepth 20000 in
theorem gX5_fewestToHold_X5_isMost : GoodIn wsX5_fewestToHold (wsV RX5 113 RX5 yX5_isMost wsX5_isMost) := goodIn_app (goodIn_of _ (by decide +kernel)) ggX5_fewestToHold_X5_isMost
theorem dX5_fewestToHold_0 : decode cX5_fewestToHold 0 = .ok (.iconst 0, 1) := by decide +kernel
theorem dX5_fewestToHold_1 : decode cX5_fewestToHold 1 = .ok (.istore_n 1, 1) := by decide +kernel
theorem dX5_fewestToHold_2 : decode cX5_fewestToHold 2 = .ok (.iconst 0, 1) := by decide +kernel
theorem dX5_fewestToHold_3 : decode cX5_fewestToHold 3 = .ok (.istore_n 2, 1) := by decide +kernel
theorem dX5_fewestToHold_4 : decode cX5_fewestToHold 4 = .ok (.iload_n 2, 1) := by decide +kernel
theorem dX5_fewestToHold_5 : decode cX5_fewestToHold 5 = .ok (.bipush 6, 2) := by decide +kernel
theorem dX5_fewestToHold_7 : decode cX5_fewestToHold 7 = .ok (.if_icmp .ge 34, 3) := by decide +kernel
theorem dX5_fewestToHold_10 : decode cX5_fewestToHold 10 = .ok (.aload_n 0, 1) := by decide +kernel
theorem dX5_fewestToHold_11 : decode cX5_fewestToHold 11 = .ok (.iload_n 2, 1) := by decide +kernel
theorem dX5_fewestToHold_12 : decode cX5_fewestToHold 12 = .ok (.invokevirtual 90, 3) := by decide +kernel
theorem dX5_fewestToHold_15 : decode cX5_fewestToHold 15 = .ok (.ifCond .eq 20, 3) := by decide +kernel
theorem dX5_fewestToHold_18 : decode cX5_fewestToHold 18 = .ok (.aload_n 0, 1) := by decide +kernel
theorem dX5_fewestToHold_19 : decode cX5_fewestToHold 19 = .ok (.getfield 27, 3) := by decide +kernel
theorem dX5_fewestToHold_22 : decode cX5_fewestToHold 22 = .ok (.iload_n 2, 1) := by decide +kernel
theorem dX5_fewestToHold_23 : decode cX5_fewestToHold 23 = .ok (.invokestatic 59, 3) := by decide +kernel
theorem dX5_fewestToHold_26 : decode cX5_fewestToHold 26 = .ok (.ifCond .ne 9, 3) := by decide +kernel
theorem dX5_fewestToHold_29 : decode cX5_fewestToHold 29 = .ok (.iload_n 1, 1) := by decide +kernel
theorem dX5_fewestToHold_30 : decode cX5_fewestToHold 30 = .ok (.iconst 1, 1) := by decide +kernel
theorem dX5_fewestToHold_31 : decode cX5_fewestToHold 31 = .ok (.iload_n 2, 1) := by decide +kernel
theorem dX5_fewestToHold_32 : decode cX5_fewestToHold 32 = .ok (.ishl, 1) := by decide +kernel
theorem dX5_fewestToHold_33 : decode cX5_fewestToHold 33 = .ok (.ior, 1) := by decide +kernel
theorem dX5_fewestToHold_34 : decode cX5_fewestToHold 34 = .ok (.istore_n 1, 1) := by decide +kernel
theorem dX5_fewestToHold_35 : decode cX5_fewestToHold 35 = .ok (.iinc 2 1, 3) := by decide +kernel
theorem dX5_fewestToHold_38 : decode cX5_fewestToHold 38 = .ok (.goto (-34), 3) := by decide +kernel
theorem dX5_fewestToHold_41 : decode cX5_fewestToHold 41 = .ok (.iconst 0, 1) := by decide +kernel
theorem dX5_fewestToHold_42 : decode cX5_fewestToHold 42 = .ok (.istore_n 2, 1) := by decide +kernel
theorem dX5_fewestToHold_43 : decode cX5_fewestToHold 43 = .ok (.iconst 1, 1) := by decide +kernel
theorem dX5_fewestToHold_44 : decode cX5_fewestToHold 44 = .ok (.istore_n 3, 1) := by decide +kernel
theorem dX5_fewestToHold_45 : decode cX5_fewestToHold 45 = .ok (.iload_n 3, 1) := by decide +kernel
theorem dX5_fewestToHold_46 : decode cX5_fewestToHold 46 = .ok (.bipush 64, 2) := by decide +kernel
theorem dX5_fewestToHold_48 : decode cX5_fewestToHold 48 = .ok (.if_icmp .ge 58, 3) := by decide +kernel
theorem dX5_fewestToHold_51 : decode cX5_fewestToHold 51 = .ok (.iload_n 2, 1) := by decide +kernel
theorem dX5_fewestToHold_52 : decode cX5_fewestToHold 52 = .ok (.ifCond .eq 14, 3) := by decide +kernel
theorem dX5_fewestToHold_55 : decode cX5_fewestToHold 55 = .ok (.iload_n 3, 1) := by decide +kernel
theorem dX5_fewestToHold_56 : decode cX5_fewestToHold 56 = .ok (.invokestatic 101, 3) := by decide +kernel
theorem dX5_fewestToHold_59 : decode cX5_fewestToHold 59 = .ok (.iload_n 2, 1) := by decide +kernel
theorem dX5_fewestToHold_60 : decode cX5_fewestToHold 60 = .ok (.invokestatic 101, 3) := by decide +kernel
theorem dX5_fewestToHold_63 : decode cX5_fewestToHold 63 = .ok (.if_icmp .ge 7, 3) := by decide +kernel
theorem dX5_fewestToHold_66 : decode cX5_fewestToHold 66 = .ok (.iconst 1, 1) := by decide +kernel
theorem dX5_fewestToHold_67 : decode cX5_fewestToHold 67 = .ok (.goto 4, 3) := by decide +kernel
theorem dX5_fewestToHold_70 : decode cX5_fewestToHold 70 = .ok (.iconst 0, 1) := by decide +kernel
theorem dX5_fewestToHold_71 : decode cX5_fewestToHold 71 = .ok (.istore 4, 2) := by decide +kernel
theorem dX5_fewestToHold_73 : decode cX5_fewestToHold 73 = .ok (.iload_n 3, 1) := by decide +kernel
theorem dX5_fewestToHold_74 : decode cX5_fewestToHold 74 = .ok (.iload_n 1, 1) := by decide +kernel
theorem dX5_fewestToHold_75 : decode cX5_fewestToHold 75 = .ok (.iconst (-1), 1) := by decide +kernel
theorem dX5_fewestToHold_76 : decode cX5_fewestToHold 76 = .ok (.ixor, 1) := by decide +kernel
theorem dX5_fewestToHold_77 : decode cX5_fewestToHold 77 = .ok (.iand, 1) := by decide +kernel
theorem dX5_fewestToHold_78 : decode cX5_fewestToHold 78 = .ok (.ifCond .ne 22, 3) := by decide +kernel
theorem dX5_fewestToHold_81 : decode cX5_fewestToHold 81 = .ok (.iload 4, 2) := by decide +kernel
theorem dX5_fewestToHold_83 : decode cX5_fewestToHold 83 = .ok (.ifCond .eq 17, 3) := by decide +kernel
theorem dX5_fewestToHold_86 : decode cX5_fewestToHold 86 = .ok (.aload_n 0, 1) := by decide +kernel
theorem dX5_fewestToHold_87 : decode cX5_fewestToHold 87 = .ok (.aload_n 0, 1) := by decide +kernel
theorem dX5_fewestToHold_88 : decode cX5_fewestToHold 88 = .ok (.iload_n 3, 1) := by decide +kernel
theorem dX5_fewestToHold_89 : decode cX5_fewestToHold 89 = .ok (.invokevirtual 110, 3) := by decide +kernel
theorem dX5_fewestToHold_92 : decode cX5_fewestToHold 92 = .ok (.invokevirtual 113, 3) := by decide +kernel
theorem dX5_fewestToHold_95 : decode cX5_fewestToHold 95 = .ok (.ifCond .eq 5, 3) := by decide +kernel
theorem dX5_fewestToHold_98 : decode cX5_fewestToHold 98 = .ok (.iload_n 3, 1) := by decide +kernel
theorem dX5_fewestToHold_99 : decode cX5_fewestToHold 99 = .ok (.istore_n 2, 1) := by decide +kernel
theorem dX5_fewestToHold_100 : decode cX5_fewestToHold 100 = .ok (.iinc 3 1, 3) := by decide +kernel
theorem dX5_fewestToHold_103 : decode cX5_fewestToHold 103 = .ok (.goto (-58), 3) := by decide +kernel
theorem dX5_fewestToHold_106 : decode cX5_fewestToHold 106 = .ok (.iload_n 2, 1) := by decide +kernel
theorem dX5_fewestToHold_107 : decode cX5_fewestToHold 107 = .ok (.ireturn, 1) := by decide +kernel
set_option maxRecDepth 20000 in
theorem ggX5_see_X7_put : GoodIn wsX5_see wsX7_put := goodIn_r _ [7] (by decide +kernel) (by decide +kernel)
set_option maxRecDepth 20000 in
theorem gX5_see_X7_put_n63 : GoodIn wsX5_see (wsX7_put) := ggX5_see_X7_put
theorem dX5_see_0 : decode cX5_see 0 = .ok (.aload_n 0, 1) := by decide +kernel
theorem dX5_see_1 : decode cX5_see 1 = .ok (.getfield 48, 3) := by decide +kernel
theorem dX5_see_4 : decode cX5_see 4 = .ok (.bipush 6, 2) := by decide +kernel
theorem dX5_see_6 : decode cX5_see 6 = .ok (.if_icmp .lt 5, 3) := by decide +kernel
theorem dX5_see_9 : decode cX5_see 9 = .ok (.iconst 0, 1) := by decide +kernel
theorem dX5_see_10 : decode cX5_see 10 = .ok (.ireturn, 1) := by decide +kernel
theorem dX5_see_11 : decode cX5_see 11 = .ok (.aload_n 0, 1) := by decide +kernel
theorem dX5_see_12 : decode cX5_see 12 = .ok (.getfield 39, 3) := by decide +kernel
theorem dX5_see_15 : decode cX5_see 15 = .ok (.aload_n 0, 1) := by decide +kernel
theorem dX5_see_16 : decode cX5_see 16 = .ok (.getfield 48, 3) := by decide +kernel
theorem dX5_see_19 : decode cX5_see 19 = .ok (.iload_n 1, 1) := by decide +kernel
theorem dX5_see_20 : decode cX5_see 20 = .ok (.invokestatic 63, 3) := by decide +kernel
theorem dX5_see_23 : decode cX5_see 23 = .ok (.aload_n 0, 1) := by decide +kernel
theorem dX5_see_24 : decode cX5_see 24 = .ok (.getfield 42, 3) := by decide +kernel
theorem dX5_see_27 : decode cX5_see 27 = .ok (.aload_n 0, 1) := by decide +kernel
theorem dX5_see_28 : decode cX5_see 28 = .ok (.getfield 48, 3) := by decide +kernel
theorem dX5_see_31 : decode cX5_see 31 = .ok (.iload_n 2, 1) := by decide +kernel
theorem dX5_see_32 : decode cX5_see 32 = .ok (.invokestatic 63, 3) := by decide +kernel
theorem dX5_see_35 : decode cX5_see 35 = .ok (.aload_n 0, 1) := by decide +kernel
theorem dX5_see_36 : decode cX5_see 36 = .ok (.getfield 45, 3) := by decide +kernel
theorem dX5_see_39 : decode cX5_see 39 = .ok (.aload_n 0, 1) := by decide +kernel
theorem dX5_see_40 : decode cX5_see 40 = .ok (.getfield 48, 3) := by decide +kernel
theorem dX5_see_43 : decode cX5_see 43 = .ok (.iload_n 3, 1) := by decide +kernel
theorem dX5_see_44 : decode cX5_see 44 = .ok (.invokestatic 63, 3) := by decide +kernel
theorem dX5_see_47 : decode cX5_see 47 = .ok (.aload_n 0, 1) := by decide +kernel
theorem dX5_see_48 : decode cX5_see 48 = .ok (.dup, 1) := by decide +kernel
theorem dX5_see_49 : decode cX5_see 49 = .ok (.getfield 48, 3) := by decide +kernel
theorem dX5_see_52 : decode cX5_see 52 = .ok (.iconst 1, 1) := by decide +kernel
theorem dX5_see_53 : decode cX5_see 53 = .ok (.iadd, 1) := by decide +kernel
theorem dX5_see_54 : decode cX5_see 54 = .ok (.putfield 48, 3) := by decide +kernel
theorem dX5_see_57 : decode cX5_see 57 = .ok (.iconst 1, 1) := by decide +kernel
theorem dX5_see_58 : decode cX5_see 58 = .ok (.ireturn, 1) := by decide +kernel
set_option maxRecDepth 20000 in
theorem ggX5_fitsSights_X7_at : GoodIn wsX5_fitsSights wsX7_at := goodIn_r _ [7] (by decide +kernel) (by decide +kernel)
set_option maxRecDepth 20000 in
theorem gX5_fitsSights_X7_at_n59 : GoodIn wsX5_fitsSights (wsX7_at) := ggX5_fitsSights_X7_at
set_option maxRecDepth 20000 in
theorem ggX5_fitsSights_X5_dares : GoodIn wsX5_fitsSights wsX5_dares := goodIn_r _ [12, 13, 14, 15, 11, 16, 17, 18, 5, 6, 7, 19, 20, 21, 22, 23, 24, 25, 26, 27, 28, 29, 30, 31, 32, 33, 34, 35, 36, 37, 38, 39, 40, 41, 42, 43, 44, 45, 46] (by decide +kernel) (by decide +kernel)
set_option maxRecDepth 20000 in
theorem gX5_fitsSights_X5_dares : GoodIn wsX5_fitsSights (wsV RX5 86 RX5 yX5_dares wsX5_dares) := goodIn_app (goodIn_of _ (by decide +kernel)) ggX5_fitsSights_X5_dares
theorem dX5_fitsSights_0 : decode cX5_fitsSights 0 = .ok (.iconst 0, 1) := by decide +kernel
theorem dX5_fitsSights_1 : decode cX5_fitsSights 1 = .ok (.istore_n 3, 1) := by decide +kernel
theorem dX5_fitsSights_2 : decode cX5_fitsSights 2 = .ok (.iload_n 3, 1) := by decide +kernel
theorem dX5_fitsSights_3 : decode cX5_fitsSights 3 = .ok (.aload_n 0, 1) := by decide +kernel
theorem dX5_fitsSights_4 : decode cX5_fitsSights 4 = .ok (.getfield 48, 3) := by decide +kernel
theorem dX5_fitsSights_7 : decode cX5_fitsSights 7 = .ok (.if_icmp .ge 61, 3) := by decide +kernel
theorem dX5_fitsSights_10 : decode cX5_fitsSights 10 = .ok (.aload_n 0, 1) := by decide +kernel
theorem dX5_fitsSights_11 : decode cX5_fitsSights 11 = .ok (.getfield 45, 3) := by decide +kernel
theorem dX5_fitsSights_14 : decode cX5_fitsSights 14 = .ok (.iload_n 3, 1) := by decide +kernel
theorem dX5_fitsSights_15 : decode cX5_fitsSights 15 = .ok (.invokestatic 59, 3) := by decide +kernel
theorem dX5_fitsSights_18 : decode cX5_fitsSights 18 = .ok (.iconst 1, 1) := by decide +kernel
theorem dX5_fitsSights_19 : decode cX5_fitsSights 19 = .ok (.if_icmp .ne 7, 3) := by decide +kernel
theorem dX5_fitsSights_22 : decode cX5_fitsSights 22 = .ok (.iconst 1, 1) := by decide +kernel
theorem dX5_fitsSights_23 : decode cX5_fitsSights 23 = .ok (.goto 4, 3) := by decide +kernel
theorem dX5_fitsSights_26 : decode cX5_fitsSights 26 = .ok (.iconst 0, 1) := by decide +kernel
theorem dX5_fitsSights_27 : decode cX5_fitsSights 27 = .ok (.istore 4, 2) := by decide +kernel
theorem dX5_fitsSights_29 : decode cX5_fitsSights 29 = .ok (.aload_n 0, 1) := by decide +kernel
theorem dX5_fitsSights_30 : decode cX5_fitsSights 30 = .ok (.getfield 39, 3) := by decide +kernel
theorem dX5_fitsSights_33 : decode cX5_fitsSights 33 = .ok (.iload_n 3, 1) := by decide +kernel
theorem dX5_fitsSights_34 : decode cX5_fitsSights 34 = .ok (.invokestatic 59, 3) := by decide +kernel
theorem dX5_fitsSights_37 : decode cX5_fitsSights 37 = .ok (.iload_n 1, 1) := by decide +kernel
theorem dX5_fitsSights_38 : decode cX5_fitsSights 38 = .ok (.if_icmp .ne 24, 3) := by decide +kernel
theorem dX5_fitsSights_41 : decode cX5_fitsSights 41 = .ok (.aload_n 0, 1) := by decide +kernel
theorem dX5_fitsSights_42 : decode cX5_fitsSights 42 = .ok (.iload_n 1, 1) := by decide +kernel
theorem dX5_fitsSights_43 : decode cX5_fitsSights 43 = .ok (.aload_n 0, 1) := by decide +kernel
theorem dX5_fitsSights_44 : decode cX5_fitsSights 44 = .ok (.getfield 42, 3) := by decide +kernel
theorem dX5_fitsSights_47 : decode cX5_fitsSights 47 = .ok (.iload_n 3, 1) := by decide +kernel
theorem dX5_fitsSights_48 : decode cX5_fitsSights 48 = .ok (.invokestatic 59, 3) := by decide +kernel
theorem dX5_fitsSights_51 : decode cX5_fitsSights 51 = .ok (.iload_n 2, 1) := by decide +kernel
theorem dX5_fitsSights_52 : decode cX5_fitsSights 52 = .ok (.invokevirtual 86, 3) := by decide +kernel
theorem dX5_fitsSights_55 : decode cX5_fitsSights 55 = .ok (.iload 4, 2) := by decide +kernel
theorem dX5_fitsSights_57 : decode cX5_fitsSights 57 = .ok (.if_icmp .eq 5, 3) := by decide +kernel
theorem dX5_fitsSights_60 : decode cX5_fitsSights 60 = .ok (.iconst 0, 1) := by decide +kernel
theorem dX5_fitsSights_61 : decode cX5_fitsSights 61 = .ok (.ireturn, 1) := by decide +kernel
theorem dX5_fitsSights_62 : decode cX5_fitsSights 62 = .ok (.iinc 3 1, 3) := by decide +kernel
theorem dX5_fitsSights_65 : decode cX5_fitsSights 65 = .ok (.goto (-63), 3) := by decide +kernel
theorem dX5_fitsSights_68 : decode cX5_fitsSights 68 = .ok (.iconst 1, 1) := by decide +kernel
theorem dX5_fitsSights_69 : decode cX5_fitsSights 69 = .ok (.ireturn, 1) := by decide +kernel
set_option maxRecDepth 20000 in
theorem ggX6_init_X5_init : GoodIn wsX6_init wsX5_init := goodIn_r _ [10, 11, 2, 3, 12, 13, 14, 15, 16, 17, 18, 19, 20, 21, 22, 23, 24, 25, 26, 27, 28, 29, 30, 31, 32, 33, 34, 35, 36, 37, 38, 39, 40, 41, 42, 43, 44, 45, 46, 47] (by decide +kernel) (by decide +kernel)
set_option maxRecDepth 20000 in
theorem gX6_init_X5_init : GoodIn wsX6_init (wsX5_init) := ggX6_init_X5_init
theorem dX6_init_0 : decode cX6_init 0 = .ok (.aload_n 0, 1) := by decide +kernel
theorem dX6_init_1 : decode cX6_init 1 = .ok (.invokespecial 3, 3) := by decide +kernel
theorem dX6_init_4 : decode cX6_init 4 = .ok (.aload_n 0, 1) := by decide +kernel
theorem dX6_init_5 : decode cX6_init 5 = .ok (.new 9, 3) := by decide +kernel
theorem dX6_init_8 : decode cX6_init 8 = .ok (.dup, 1) := by decide +kernel
theorem dX6_init_9 : decode cX6_init 9 = .ok (.invokespecial 11, 3) := by decide +kernel
theorem dX6_init_12 : decode cX6_init 12 = .ok (.putfield 12, 3) := by decide +kernel
theorem dX6_init_15 : decode cX6_init 15 = .ok (.return_, 1) := by decide +kernel
set_option maxRecDepth 20000 in
theorem ggX6_pass_X5_copyFrom : GoodIn wsX6_pass wsX5_copyFrom := goodIn_r _ [9, 10, 11, 12, 13, 14, 15, 16, 17, 18, 19, 20, 21, 22, 23, 24, 25, 26, 27, 28, 29, 30, 31, 96, 97, 98, 99, 100, 101, 102, 103, 104, 105, 106, 107, 108] (by decide +kernel) (by decide +kernel)
set_option maxRecDepth 20000 in
theorem gX6_pass_X5_copyFrom : GoodIn wsX6_pass (wsV RX6 18 RX5 yX5_copyFrom wsX5_copyFrom) := goodIn_app (goodIn_of _ (by decide +kernel)) ggX6_pass_X5_copyFrom
set_option maxRecDepth 20000 in
theorem ggX6_pass_X7_drawAfter : GoodIn wsX6_pass wsX7_drawAfter := goodIn_r _ [33, 34] (by decide +kernel) (by decide +kernel)
set_option maxRecDepth 20000 in
theorem gX6_pass_X7_drawAfter_n32 : GoodIn wsX6_pass (wsX7_drawAfter) := ggX6_pass_X7_drawAfter
set_option maxRecDepth 20000 in
theorem ggX6_pass_X6_dare : GoodIn wsX6_pass wsX6_dare := goodIn_r _ [39, 1, 40, 41, 42, 43, 44, 3, 2, 4, 27, 24, 28, 45, 46, 47, 8, 48, 10, 49, 50, 51, 52, 18, 16, 53, 54, 55, 56, 11, 57, 58, 59, 60, 14, 61, 62, 63, 64, 65, 66, 67, 68, 13, 69, 70, 71, 72, 12, 73, 74, 75, 76, 77, 78, 79, 80, 81, 82, 83, 17, 30, 31, 84, 85, 86, 87, 32, 33, 34, 92, 93, 94, 95, 96, 97, 98, 99, 100, 101, 102, 103, 104, 105, 106, 107, 108] (by decide +kernel) (by decide +kernel)
set_option maxRecDepth 20000 in
theorem gX6_pass_X6_dare : GoodIn wsX6_pass (wsV RX6 36 RX6 yX6_dare wsX6_dare) := goodIn_app (goodIn_of _ (by decide +kernel)) ggX6_pass_X6_dare
set_option maxRecDepth 20000 in
theorem ggX6_pass_X5_night : GoodIn wsX6_pass wsX5_night := goodIn_r _ [91, 10, 17, 74, 75, 43, 76, 73, 42, 44, 18, 27, 24, 28, 30, 31, 96, 97, 98, 99, 100, 101, 102, 103, 104, 105, 106, 107, 108] (by decide +kernel) (by decide +kernel)
set_option maxRecDepth 20000 in
theorem gX6_pass_X5_night : GoodIn wsX6_pass (wsV RX6 40 RX5 yX5_night wsX5_night) := goodIn_app (goodIn_of _ (by decide +kernel)) ggX6_pass_X5_night
theorem dX6_pass_0 : decode cX6_pass 0 = .ok (.aload_n 0, 1) := by decide +kernel
theorem dX6_pass_1 : decode cX6_pass 1 = .ok (.getfield 12, 3) := by decide +kernel
theorem dX6_pass_4 : decode cX6_pass 4 = .ok (.aload_n 1, 1) := by decide +kernel
theorem dX6_pass_5 : decode cX6_pass 5 = .ok (.invokevirtual 18, 3) := by decide +kernel
theorem dX6_pass_8 : decode cX6_pass 8 = .ok (.aload_n 0, 1) := by decide +kernel
theorem dX6_pass_9 : decode cX6_pass 9 = .ok (.iconst 0, 1) := by decide +kernel
theorem dX6_pass_10 : decode cX6_pass 10 = .ok (.putfield 22, 3) := by decide +kernel
theorem dX6_pass_13 : decode cX6_pass 13 = .ok (.aload_n 0, 1) := by decide +kernel
theorem dX6_pass_14 : decode cX6_pass 14 = .ok (.iconst 0, 1) := by decide +kernel
theorem dX6_pass_15 : decode cX6_pass 15 = .ok (.putfield 26, 3) := by decide +kernel
theorem dX6_pass_18 : decode cX6_pass 18 = .ok (.aload_n 0, 1) := by decide +kernel
theorem dX6_pass_19 : decode cX6_pass 19 = .ok (.iconst 0, 1) := by decide +kernel
theorem dX6_pass_20 : decode cX6_pass 20 = .ok (.putfield 29, 3) := by decide +kernel
theorem dX6_pass_23 : decode cX6_pass 23 = .ok (.iload_n 2, 1) := by decide +kernel
theorem dX6_pass_24 : decode cX6_pass 24 = .ok (.istore 4, 2) := by decide +kernel
theorem dX6_pass_26 : decode cX6_pass 26 = .ok (.iconst 1, 1) := by decide +kernel
theorem dX6_pass_27 : decode cX6_pass 27 = .ok (.istore 5, 2) := by decide +kernel
theorem dX6_pass_29 : decode cX6_pass 29 = .ok (.iload 5, 2) := by decide +kernel
theorem dX6_pass_31 : decode cX6_pass 31 = .ok (.iload_n 3, 1) := by decide +kernel
theorem dX6_pass_32 : decode cX6_pass 32 = .ok (.if_icmp .gt 47, 3) := by decide +kernel
theorem dX6_pass_35 : decode cX6_pass 35 = .ok (.iload 4, 2) := by decide +kernel
theorem dX6_pass_37 : decode cX6_pass 37 = .ok (.invokestatic 32, 3) := by decide +kernel
theorem dX6_pass_40 : decode cX6_pass 40 = .ok (.istore 4, 2) := by decide +kernel
theorem dX6_pass_42 : decode cX6_pass 42 = .ok (.aload_n 0, 1) := by decide +kernel
theorem dX6_pass_43 : decode cX6_pass 43 = .ok (.iload 4, 2) := by decide +kernel
theorem dX6_pass_45 : decode cX6_pass 45 = .ok (.bipush 6, 2) := by decide +kernel
theorem dX6_pass_47 : decode cX6_pass 47 = .ok (.irem, 1) := by decide +kernel
theorem dX6_pass_48 : decode cX6_pass 48 = .ok (.iload 4, 2) := by decide +kernel
theorem dX6_pass_50 : decode cX6_pass 50 = .ok (.bipush 6, 2) := by decide +kernel
theorem dX6_pass_52 : decode cX6_pass 52 = .ok (.idiv, 1) := by decide +kernel
theorem dX6_pass_53 : decode cX6_pass 53 = .ok (.bipush 6, 2) := by decide +kernel
theorem dX6_pass_55 : decode cX6_pass 55 = .ok (.irem, 1) := by decide +kernel
theorem dX6_pass_56 : decode cX6_pass 56 = .ok (.invokevirtual 36, 3) := by decide +kernel
theorem dX6_pass_59 : decode cX6_pass 59 = .ok (.iload 5, 2) := by decide +kernel
theorem dX6_pass_61 : decode cX6_pass 61 = .ok (.iconst 3, 1) := by decide +kernel
theorem dX6_pass_62 : decode cX6_pass 62 = .ok (.irem, 1) := by decide +kernel
theorem dX6_pass_63 : decode cX6_pass 63 = .ok (.ifCond .ne 10, 3) := by decide +kernel
theorem dX6_pass_66 : decode cX6_pass 66 = .ok (.aload_n 0, 1) := by decide +kernel
theorem dX6_pass_67 : decode cX6_pass 67 = .ok (.getfield 12, 3) := by decide +kernel
theorem dX6_pass_70 : decode cX6_pass 70 = .ok (.invokevirtual 40, 3) := by decide +kernel
theorem dX6_pass_73 : decode cX6_pass 73 = .ok (.iinc 5 1, 3) := by decide +kernel
theorem dX6_pass_76 : decode cX6_pass 76 = .ok (.goto (-47), 3) := by decide +kernel
theorem dX6_pass_79 : decode cX6_pass 79 = .ok (.return_, 1) := by decide +kernel
set_option maxRecDepth 20000 in
theorem ggX6_dare_X7_at : GoodIn wsX6_dare wsX7_at := goodIn_r _ [12] (by decide +kernel) (by decide +kernel)
set_option maxRecDepth 20000 in
theorem gX6_dare_X7_at_n47 : GoodIn wsX6_dare (wsX7_at) := ggX6_dare_X7_at
set_option maxRecDepth 20000 in
theorem ggX6_dare_X5_rule : GoodIn wsX6_dare wsX5_rule := goodIn_r _ [17, 18, 10, 11, 12, 74, 75, 76, 77, 78, 79, 80, 81, 82, 83, 84, 85, 86] (by decide +kernel) (by decide +kernel)
set_option maxRecDepth 20000 in
theorem gX6_dare_X5_rule : GoodIn wsX6_dare (wsV RX6 51 RX5 yX5_rule wsX5_rule) := goodIn_app (goodIn_of _ (by decide +kernel)) ggX6_dare_X5_rule
set_option maxRecDepth 20000 in
theorem ggX6_dare_X5_whyNot : GoodIn wsX6_dare wsX5_whyNot := goodIn_r _ [22, 23, 24, 18, 25, 26, 27, 16, 28, 29, 10, 11, 12, 74, 75, 76, 77, 78, 79, 80, 81, 82, 83, 84, 85, 86] (by decide +kernel) (by decide +kernel)
set_option maxRecDepth 20000 in
theorem gX6_dare_X5_whyNot : GoodIn wsX6_dare (wsV RX6 60 RX5 yX5_whyNot wsX5_whyNot) := goodIn_app (goodIn_of _ (by decide +kernel)) ggX6_dare_X5_whyNot
set_option maxRecDepth 20000 in
theorem ggX6_dare_X5_prideOf : GoodIn wsX6_dare wsX5_prideOf := goodIn_r _ [33, 34, 10, 11, 12, 74, 75, 76, 77, 78, 79, 80, 81, 82, 83, 84, 85, 86] (by decide +kernel) (by decide +kernel)
set_option maxRecDepth 20000 in
theorem gX6_dare_X5_prideOf : GoodIn wsX6_dare (wsV RX6 64 RX5 yX5_prideOf wsX5_prideOf) := goodIn_app (goodIn_of _ (by decide +kernel)) ggX6_dare_X5_prideOf
set_option maxRecDepth 20000 in
theorem ggX6_dare_X5_dares : GoodIn wsX6_dare wsX5_dares := goodIn_r _ [38, 39, 40, 41, 16, 42, 18, 43, 10, 11, 12, 44, 45, 46, 47, 48, 49, 4, 5, 6, 50, 51, 52, 53, 54, 55, 74, 75, 76, 77, 78, 79, 80, 81, 82, 83, 84, 85, 86] (by decide +kernel) (by decide +kernel)
set_option maxRecDepth 20000 in
theorem gX6_dare_X5_dares : GoodIn wsX6_dare (wsV RX6 67 RX5 yX5_dares wsX5_dares) := goodIn_app (goodIn_of _ (by decide +kernel)) ggX6_dare_X5_dares
set_option maxRecDepth 20000 in
theorem ggX6_dare_X5_refuse : GoodIn wsX6_dare wsX5_refuse := goodIn_r _ [59, 60, 10, 11, 12, 61, 62, 74, 75, 76, 77, 78, 79, 80, 81, 82, 83, 84, 85, 86] (by decide +kernel) (by decide +kernel)
set_option maxRecDepth 20000 in
theorem gX6_dare_X5_refuse : GoodIn wsX6_dare (wsV RX6 71 RX5 yX5_refuse wsX5_refuse) := goodIn_app (goodIn_of _ (by decide +kernel)) ggX6_dare_X5_refuse
set_option maxRecDepth 20000 in
theorem ggX6_dare_X5_perform : GoodIn wsX6_dare wsX5_perform := goodIn_r _ [66, 24, 50, 51, 5, 52, 60, 18, 23, 10, 11, 12, 61, 62, 67, 68, 69, 44, 45, 46, 16, 47, 48, 49, 4, 6, 74, 75, 76, 77, 78, 79, 80, 81, 82, 83, 84, 85, 86] (by decide +kernel) (by decide +kernel)
set_option maxRecDepth 20000 in
theorem gX6_dare_X5_perform : GoodIn wsX6_dare (wsV RX6 74 RX5 yX5_perform wsX5_perform) := goodIn_app (goodIn_of _ (by decide +kernel)) ggX6_dare_X5_perform
theorem dX6_dare_0 : decode cX6_dare 0 = .ok (.bipush 15, 2) := by decide +kernel
theorem dX6_dare_2 : decode cX6_dare 2 = .ok (.aload_n 0, 1) := by decide +kernel
theorem dX6_dare_3 : decode cX6_dare 3 = .ok (.getfield 12, 3) := by decide +kernel
theorem dX6_dare_6 : decode cX6_dare 6 = .ok (.getfield 43, 3) := by decide +kernel
theorem dX6_dare_9 : decode cX6_dare 9 = .ok (.iload_n 1, 1) := by decide +kernel
theorem dX6_dare_10 : decode cX6_dare 10 = .ok (.invokestatic 47, 3) := by decide +kernel
theorem dX6_dare_13 : decode cX6_dare 13 = .ok (.aload_n 0, 1) := by decide +kernel
theorem dX6_dare_14 : decode cX6_dare 14 = .ok (.getfield 12, 3) := by decide +kernel
theorem dX6_dare_17 : decode cX6_dare 17 = .ok (.iconst 0, 1) := by decide +kernel
theorem dX6_dare_18 : decode cX6_dare 18 = .ok (.invokevirtual 51, 3) := by decide +kernel
theorem dX6_dare_21 : decode cX6_dare 21 = .ok (.iadd, 1) := by decide +kernel
theorem dX6_dare_22 : decode cX6_dare 22 = .ok (.invokestatic 54, 3) := by decide +kernel
theorem dX6_dare_25 : decode cX6_dare 25 = .ok (.istore_n 3, 1) := by decide +kernel
theorem dX6_dare_26 : decode cX6_dare 26 = .ok (.aload_n 0, 1) := by decide +kernel
theorem dX6_dare_27 : decode cX6_dare 27 = .ok (.getfield 12, 3) := by decide +kernel
theorem dX6_dare_30 : decode cX6_dare 30 = .ok (.iload_n 1, 1) := by decide +kernel
theorem dX6_dare_31 : decode cX6_dare 31 = .ok (.iload_n 2, 1) := by decide +kernel
theorem dX6_dare_32 : decode cX6_dare 32 = .ok (.iload_n 3, 1) := by decide +kernel
theorem dX6_dare_33 : decode cX6_dare 33 = .ok (.invokevirtual 60, 3) := by decide +kernel
theorem dX6_dare_36 : decode cX6_dare 36 = .ok (.ifCond .eq 4, 3) := by decide +kernel
theorem dX6_dare_39 : decode cX6_dare 39 = .ok (.return_, 1) := by decide +kernel
theorem dX6_dare_40 : decode cX6_dare 40 = .ok (.aload_n 0, 1) := by decide +kernel
theorem dX6_dare_41 : decode cX6_dare 41 = .ok (.getfield 12, 3) := by decide +kernel
theorem dX6_dare_44 : decode cX6_dare 44 = .ok (.iload_n 2, 1) := by decide +kernel
theorem dX6_dare_45 : decode cX6_dare 45 = .ok (.iload_n 3, 1) := by decide +kernel
theorem dX6_dare_46 : decode cX6_dare 46 = .ok (.aload_n 0, 1) := by decide +kernel
theorem dX6_dare_47 : decode cX6_dare 47 = .ok (.getfield 12, 3) := by decide +kernel
theorem dX6_dare_50 : decode cX6_dare 50 = .ok (.iload_n 2, 1) := by decide +kernel
theorem dX6_dare_51 : decode cX6_dare 51 = .ok (.invokevirtual 64, 3) := by decide +kernel
theorem dX6_dare_54 : decode cX6_dare 54 = .ok (.invokevirtual 67, 3) := by decide +kernel
theorem dX6_dare_57 : decode cX6_dare 57 = .ok (.ifCond .ne 23, 3) := by decide +kernel
theorem dX6_dare_60 : decode cX6_dare 60 = .ok (.aload_n 0, 1) := by decide +kernel
theorem dX6_dare_61 : decode cX6_dare 61 = .ok (.dup, 1) := by decide +kernel
theorem dX6_dare_62 : decode cX6_dare 62 = .ok (.getfield 26, 3) := by decide +kernel
theorem dX6_dare_65 : decode cX6_dare 65 = .ok (.iconst 1, 1) := by decide +kernel
theorem dX6_dare_66 : decode cX6_dare 66 = .ok (.iadd, 1) := by decide +kernel
theorem dX6_dare_67 : decode cX6_dare 67 = .ok (.putfield 26, 3) := by decide +kernel
theorem dX6_dare_70 : decode cX6_dare 70 = .ok (.aload_n 0, 1) := by decide +kernel
theorem dX6_dare_71 : decode cX6_dare 71 = .ok (.getfield 12, 3) := by decide +kernel
theorem dX6_dare_74 : decode cX6_dare 74 = .ok (.iload_n 2, 1) := by decide +kernel
theorem dX6_dare_75 : decode cX6_dare 75 = .ok (.iload_n 3, 1) := by decide +kernel
theorem dX6_dare_76 : decode cX6_dare 76 = .ok (.invokevirtual 71, 3) := by decide +kernel
theorem dX6_dare_79 : decode cX6_dare 79 = .ok (.return_, 1) := by decide +kernel
theorem dX6_dare_80 : decode cX6_dare 80 = .ok (.aload_n 0, 1) := by decide +kernel
theorem dX6_dare_81 : decode cX6_dare 81 = .ok (.dup, 1) := by decide +kernel
theorem dX6_dare_82 : decode cX6_dare 82 = .ok (.getfield 22, 3) := by decide +kernel
theorem dX6_dare_85 : decode cX6_dare 85 = .ok (.iconst 1, 1) := by decide +kernel
theorem dX6_dare_86 : decode cX6_dare 86 = .ok (.iadd, 1) := by decide +kernel
theorem dX6_dare_87 : decode cX6_dare 87 = .ok (.putfield 22, 3) := by decide +kernel
theorem dX6_dare_90 : decode cX6_dare 90 = .ok (.aload_n 0, 1) := by decide +kernel
theorem dX6_dare_91 : decode cX6_dare 91 = .ok (.getfield 12, 3) := by decide +kernel
theorem dX6_dare_94 : decode cX6_dare 94 = .ok (.iload_n 2, 1) := by decide +kernel
theorem dX6_dare_95 : decode cX6_dare 95 = .ok (.iload_n 3, 1) := by decide +kernel
theorem dX6_dare_96 : decode cX6_dare 96 = .ok (.invokevirtual 74, 3) := by decide +kernel
theorem dX6_dare_99 : decode cX6_dare 99 = .ok (.ifCond .eq 13, 3) := by decide +kernel
theorem dX6_dare_102 : decode cX6_dare 102 = .ok (.aload_n 0, 1) := by decide +kernel
theorem dX6_dare_103 : decode cX6_dare 103 = .ok (.dup, 1) := by decide +kernel
theorem dX6_dare_104 : decode cX6_dare 104 = .ok (.getfield 29, 3) := by decide +kernel
theorem dX6_dare_107 : decode cX6_dare 107 = .ok (.iconst 1, 1) := by decide +kernel
theorem dX6_dare_108 : decode cX6_dare 108 = .ok (.iadd, 1) := by decide +kernel
theorem dX6_dare_109 : decode cX6_dare 109 = .ok (.putfield 29, 3) := by decide +kernel
theorem dX6_dare_112 : decode cX6_dare 112 = .ok (.return_, 1) := by decide +kernel
set_option maxRecDepth 20000 in
theorem ggX7_init_X5_init : GoodIn wsX7_init wsX5_init := goodIn_r _ [34, 35, 2, 3, 36, 37, 38, 39, 40, 41, 42, 43, 44, 45, 46, 47, 48, 49, 50, 51, 52, 53, 54, 55, 56, 57, 58, 94, 95, 96, 97, 98, 99, 100, 101, 102, 103, 104, 105, 106] (by decide +kernel) (by decide +kernel)
set_option maxRecDepth 20000 in
theorem gX7_init_X5_init : GoodIn wsX7_init (wsX5_init) := ggX7_init_X5_init
set_option maxRecDepth 20000 in
theorem ggX7_init_X3_init : GoodIn wsX7_init wsX3_init := goodIn_r _ [60, 61, 2, 3, 36, 62, 63, 117, 118] (by decide +kernel) (by decide +kernel)
set_option maxRecDepth 20000 in
theorem gX7_init_X3_init_n31 : GoodIn wsX7_init (wsX3_init) := ggX7_init_X3_init
set_option maxRecDepth 20000 in
theorem ggX7_init_X4_init : GoodIn wsX7_init wsX4_init := goodIn_r _ [65, 66, 2, 3, 67, 5, 6, 68, 36, 69, 70, 71, 72, 73, 74, 33, 34, 35, 37, 38, 39, 40, 41, 42, 43, 44, 45, 46, 47, 48, 49, 50, 51, 52, 53, 54, 55, 56, 57, 58, 75, 76, 77, 78, 79, 94, 95, 96, 97, 98, 99, 100, 101, 102, 103, 104, 105, 106, 119, 120, 121, 122, 123, 124, 125, 126, 127, 139, 140] (by decide +kernel) (by decide +kernel)
set_option maxRecDepth 20000 in
theorem gX7_init_X4_init_n38 : GoodIn wsX7_init (wsX4_init) := ggX7_init_X4_init
set_option maxRecDepth 20000 in
theorem ggX7_init_X1_init : GoodIn wsX7_init wsX1_init := goodIn_r _ [81, 82, 2, 3, 83, 71, 72, 84, 75, 76, 77, 78, 79, 139, 140, 128, 129, 130, 131] (by decide +kernel) (by decide +kernel)
set_option maxRecDepth 20000 in
theorem gX7_init_X1_init_n45 : GoodIn wsX7_init (wsX1_init) := ggX7_init_X1_init
set_option maxRecDepth 20000 in
theorem ggX7_init_X2_init : GoodIn wsX7_init wsX2_init := goodIn_r _ [86, 87, 2, 3] (by decide +kernel) (by decide +kernel)
set_option maxRecDepth 20000 in
theorem gX7_init_X2_init_n52 : GoodIn wsX7_init (wsX2_init) := ggX7_init_X2_init
set_option maxRecDepth 20000 in
theorem ggX7_init_X6_init : GoodIn wsX7_init wsX6_init := goodIn_r _ [89, 90, 2, 3, 91, 5, 6, 92, 93, 33, 34, 35, 36, 37, 38, 39, 40, 41, 42, 43, 44, 45, 46, 47, 48, 49, 50, 51, 52, 53, 54, 55, 56, 57, 58, 94, 95, 96, 97, 98, 99, 100, 101, 102, 103, 104, 105, 106, 135, 136, 137, 138] (by decide +kernel) (by decide +kernel)
set_option maxRecDepth 20000 in
theorem gX7_init_X6_init_n59 : GoodIn wsX7_init (wsX6_init) := ggX7_init_X6_init
