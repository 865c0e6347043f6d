theorem dX7_init_0 : decode cX7_init 0 = .ok (.aload_n 0, 1) := by decide +kernel
theorem dX7_init_1 : decode cX7_init 1 = .ok (.invokespecial 1, 3) := by decide +kernel
theorem dX7_init_4 : decode cX7_init 4 = .ok (.aload_n 0, 1) := by decide +kernel
theorem dX7_init_5 : decode cX7_init 5 = .ok (.new 7, 3) := by decide +kernel
theorem dX7_init_8 : decode cX7_init 8 = .ok (.dup, 1) := by decide +kernel
theorem dX7_init_9 : decode cX7_init 9 = .ok (.invokespecial 9, 3) := by decide +kernel
theorem dX7_init_12 : decode cX7_init 12 = .ok (.putfield 10, 3) := by decide +kernel
theorem dX7_init_15 : decode cX7_init 15 = .ok (.aload_n 0, 1) := by decide +kernel
theorem dX7_init_16 : decode cX7_init 16 = .ok (.new 7, 3) := by decide +kernel
theorem dX7_init_19 : decode cX7_init 19 = .ok (.dup, 1) := by decide +kernel
theorem dX7_init_20 : decode cX7_init 20 = .ok (.invokespecial 9, 3) := by decide +kernel
theorem dX7_init_23 : decode cX7_init 23 = .ok (.putfield 16, 3) := by decide +kernel
theorem dX7_init_26 : decode cX7_init 26 = .ok (.aload_n 0, 1) := by decide +kernel
theorem dX7_init_27 : decode cX7_init 27 = .ok (.new 7, 3) := by decide +kernel
theorem dX7_init_30 : decode cX7_init 30 = .ok (.dup, 1) := by decide +kernel
theorem dX7_init_31 : decode cX7_init 31 = .ok (.invokespecial 9, 3) := by decide +kernel
theorem dX7_init_34 : decode cX7_init 34 = .ok (.putfield 19, 3) := by decide +kernel
theorem dX7_init_37 : decode cX7_init 37 = .ok (.aload_n 0, 1) := by decide +kernel
theorem dX7_init_38 : decode cX7_init 38 = .ok (.iconst 0, 1) := by decide +kernel
theorem dX7_init_39 : decode cX7_init 39 = .ok (.putfield 22, 3) := by decide +kernel
theorem dX7_init_42 : decode cX7_init 42 = .ok (.aload_n 0, 1) := by decide +kernel
theorem dX7_init_43 : decode cX7_init 43 = .ok (.iconst 0, 1) := by decide +kernel
theorem dX7_init_44 : decode cX7_init 44 = .ok (.putfield 26, 3) := by decide +kernel
theorem dX7_init_47 : decode cX7_init 47 = .ok (.aload_n 0, 1) := by decide +kernel
theorem dX7_init_48 : decode cX7_init 48 = .ok (.new 29, 3) := by decide +kernel
theorem dX7_init_51 : decode cX7_init 51 = .ok (.dup, 1) := by decide +kernel
theorem dX7_init_52 : decode cX7_init 52 = .ok (.invokespecial 31, 3) := by decide +kernel
theorem dX7_init_55 : decode cX7_init 55 = .ok (.putfield 32, 3) := by decide +kernel
theorem dX7_init_58 : decode cX7_init 58 = .ok (.aload_n 0, 1) := by decide +kernel
theorem dX7_init_59 : decode cX7_init 59 = .ok (.new 36, 3) := by decide +kernel
theorem dX7_init_62 : decode cX7_init 62 = .ok (.dup, 1) := by decide +kernel
theorem dX7_init_63 : decode cX7_init 63 = .ok (.invokespecial 38, 3) := by decide +kernel
theorem dX7_init_66 : decode cX7_init 66 = .ok (.putfield 39, 3) := by decide +kernel
theorem dX7_init_69 : decode cX7_init 69 = .ok (.aload_n 0, 1) := by decide +kernel
theorem dX7_init_70 : decode cX7_init 70 = .ok (.new 43, 3) := by decide +kernel
theorem dX7_init_73 : decode cX7_init 73 = .ok (.dup, 1) := by decide +kernel
theorem dX7_init_74 : decode cX7_init 74 = .ok (.invokespecial 45, 3) := by decide +kernel
theorem dX7_init_77 : decode cX7_init 77 = .ok (.putfield 46, 3) := by decide +kernel
theorem dX7_init_80 : decode cX7_init 80 = .ok (.aload_n 0, 1) := by decide +kernel
theorem dX7_init_81 : decode cX7_init 81 = .ok (.new 50, 3) := by decide +kernel
theorem dX7_init_84 : decode cX7_init 84 = .ok (.dup, 1) := by decide +kernel
theorem dX7_init_85 : decode cX7_init 85 = .ok (.invokespecial 52, 3) := by decide +kernel
theorem dX7_init_88 : decode cX7_init 88 = .ok (.putfield 53, 3) := by decide +kernel
theorem dX7_init_91 : decode cX7_init 91 = .ok (.aload_n 0, 1) := by decide +kernel
theorem dX7_init_92 : decode cX7_init 92 = .ok (.new 57, 3) := by decide +kernel
theorem dX7_init_95 : decode cX7_init 95 = .ok (.dup, 1) := by decide +kernel
theorem dX7_init_96 : decode cX7_init 96 = .ok (.invokespecial 59, 3) := by decide +kernel
theorem dX7_init_99 : decode cX7_init 99 = .ok (.putfield 60, 3) := by decide +kernel
theorem dX7_init_102 : decode cX7_init 102 = .ok (.return_, 1) := by decide +kernel
set_option maxRecDepth 20000 in
theorem ggX7_person_X7_within : GoodIn wsX7_person wsX7_within := goodIn_r _ [5] (by decide +kernel) (by decide +kernel)
set_option maxRecDepth 20000 in
theorem gX7_person_X7_within : GoodIn wsX7_person (va_wsS RX7 64 yX7_within wsX7_within) := goodIn_app (goodIn_of _ (by decide +kernel)) ggX7_person_X7_within
set_option maxRecDepth 20000 in
theorem ggX7_person_X5_come : GoodIn wsX7_person wsX5_come := goodIn_r _ [10, 11, 12, 13, 14, 15, 16, 17, 18, 19, 20, 4, 21, 22, 23, 45, 46, 47, 48, 49, 50, 51, 52, 53, 54, 55, 56, 57] (by decide +kernel) (by decide +kernel)
set_option maxRecDepth 20000 in
theorem gX7_person_X5_come : GoodIn wsX7_person (wsV RX7 68 RX5 yX5_come wsX5_come) := goodIn_app (goodIn_of _ (by decide +kernel)) ggX7_person_X5_come
set_option maxRecDepth 20000 in
theorem ggX7_person_X5_bits : GoodIn wsX7_person wsX5_bits := goodIn_r _ [27, 11, 22, 4, 23, 45, 46, 47, 48, 49, 50, 51, 52, 53, 54, 55, 56, 57] (by decide +kernel) (by decide +kernel)
set_option maxRecDepth 20000 in
theorem gX7_person_X5_bits : GoodIn wsX7_person (wsV RX7 72 RX5 yX5_bits wsX5_bits) := goodIn_app (goodIn_of _ (by decide +kernel)) ggX7_person_X5_bits
set_option maxRecDepth 20000 in
theorem ggX7_person_J6_bitCount_0f7a4 : GoodIn wsX7_person wsJ6_bitCount_0f7a4 := goodIn_r _ [31, 32, 33, 34] (by decide +kernel) (by decide +kernel)
set_option maxRecDepth 20000 in
theorem gX7_person_J6_bitCount_0f7a4 : GoodIn wsX7_person (va_wsS RX7 76 yJ6_bitCount_0f7a4 wsJ6_bitCount_0f7a4) := goodIn_app (goodIn_of _ (by decide +kernel)) ggX7_person_J6_bitCount_0f7a4
theorem dX7_person_0 : decode cX7_person 0 = .ok (.iload_n 1, 1) := by decide +kernel
theorem dX7_person_1 : decode cX7_person 1 = .ok (.iconst 0, 1) := by decide +kernel
theorem dX7_person_2 : decode cX7_person 2 = .ok (.iconst 5, 1) := by decide +kernel
theorem dX7_person_3 : decode cX7_person 3 = .ok (.invokestatic 64, 3) := by decide +kernel
theorem dX7_person_6 : decode cX7_person 6 = .ok (.ifCond .ne 5, 3) := by decide +kernel
theorem dX7_person_9 : decode cX7_person 9 = .ok (.iconst (-1), 1) := by decide +kernel
theorem dX7_person_10 : decode cX7_person 10 = .ok (.ireturn, 1) := by decide +kernel
theorem dX7_person_11 : decode cX7_person 11 = .ok (.iload_n 2, 1) := by decide +kernel
theorem dX7_person_12 : decode cX7_person 12 = .ok (.iconst 0, 1) := by decide +kernel
theorem dX7_person_13 : decode cX7_person 13 = .ok (.bipush 9, 2) := by decide +kernel
theorem dX7_person_15 : decode cX7_person 15 = .ok (.invokestatic 64, 3) := by decide +kernel
theorem dX7_person_18 : decode cX7_person 18 = .ok (.ifCond .eq 24, 3) := by decide +kernel
theorem dX7_person_21 : decode cX7_person 21 = .ok (.iload_n 3, 1) := by decide +kernel
theorem dX7_person_22 : decode cX7_person 22 = .ok (.iconst 0, 1) := by decide +kernel
theorem dX7_person_23 : decode cX7_person 23 = .ok (.bipush 9, 2) := by decide +kernel
theorem dX7_person_25 : decode cX7_person 25 = .ok (.invokestatic 64, 3) := by decide +kernel
theorem dX7_person_28 : decode cX7_person 28 = .ok (.ifCond .eq 14, 3) := by decide +kernel
theorem dX7_person_31 : decode cX7_person 31 = .ok (.iload 4, 2) := by decide +kernel
theorem dX7_person_33 : decode cX7_person 33 = .ok (.iconst 0, 1) := by decide +kernel
theorem dX7_person_34 : decode cX7_person 34 = .ok (.bipush 9, 2) := by decide +kernel
theorem dX7_person_36 : decode cX7_person 36 = .ok (.invokestatic 64, 3) := by decide +kernel
theorem dX7_person_39 : decode cX7_person 39 = .ok (.ifCond .ne 6, 3) := by decide +kernel
theorem dX7_person_42 : decode cX7_person 42 = .ok (.bipush (-2), 2) := by decide +kernel
theorem dX7_person_44 : decode cX7_person 44 = .ok (.ireturn, 1) := by decide +kernel
theorem dX7_person_45 : decode cX7_person 45 = .ok (.aload_n 0, 1) := by decide +kernel
theorem dX7_person_46 : decode cX7_person 46 = .ok (.getfield 10, 3) := by decide +kernel
theorem dX7_person_49 : decode cX7_person 49 = .ok (.iload_n 1, 1) := by decide +kernel
theorem dX7_person_50 : decode cX7_person 50 = .ok (.iload_n 2, 1) := by decide +kernel
theorem dX7_person_51 : decode cX7_person 51 = .ok (.iload_n 3, 1) := by decide +kernel
theorem dX7_person_52 : decode cX7_person 52 = .ok (.iload 4, 2) := by decide +kernel
theorem dX7_person_54 : decode cX7_person 54 = .ok (.iload 5, 2) := by decide +kernel
theorem dX7_person_56 : decode cX7_person 56 = .ok (.ifCond .eq 7, 3) := by decide +kernel
theorem dX7_person_59 : decode cX7_person 59 = .ok (.iconst 1, 1) := by decide +kernel
theorem dX7_person_60 : decode cX7_person 60 = .ok (.goto 4, 3) := by decide +kernel
theorem dX7_person_63 : decode cX7_person 63 = .ok (.iconst 0, 1) := by decide +kernel
theorem dX7_person_64 : decode cX7_person 64 = .ok (.invokevirtual 68, 3) := by decide +kernel
theorem dX7_person_67 : decode cX7_person 67 = .ok (.aload_n 0, 1) := by decide +kernel
theorem dX7_person_68 : decode cX7_person 68 = .ok (.getfield 10, 3) := by decide +kernel
theorem dX7_person_71 : decode cX7_person 71 = .ok (.invokevirtual 72, 3) := by decide +kernel
theorem dX7_person_74 : decode cX7_person 74 = .ok (.invokestatic 76, 3) := by decide +kernel
theorem dX7_person_77 : decode cX7_person 77 = .ok (.ireturn, 1) := by decide +kernel
set_option maxRecDepth 20000 in
theorem ggX7_leave_X5_isThere : GoodIn wsX7_leave wsX5_isThere := goodIn_r _ [6, 7, 8, 9, 10, 38, 39, 40, 41, 42, 43, 44, 45, 46, 47, 48, 49, 50] (by decide +kernel) (by decide +kernel)
set_option maxRecDepth 20000 in
theorem gX7_leave_X5_isThere : GoodIn wsX7_leave (wsV RX7 82 RX5 yX5_isThere wsX5_isThere) := goodIn_app (goodIn_of _ (by decide +kernel)) ggX7_leave_X5_isThere
set_option maxRecDepth 20000 in
theorem ggX7_leave_X5_go : GoodIn wsX7_leave wsX5_go := goodIn_r _ [14, 7, 15, 9, 16, 38, 39, 40, 41, 42, 43, 44, 45, 46, 47, 48, 49, 50] (by decide +kernel) (by decide +kernel)
set_option maxRecDepth 20000 in
theorem gX7_leave_X5_go : GoodIn wsX7_leave (wsV RX7 86 RX5 yX5_go wsX5_go) := goodIn_app (goodIn_of _ (by decide +kernel)) ggX7_leave_X5_go
set_option maxRecDepth 20000 in
theorem ggX7_leave_X5_bits : GoodIn wsX7_leave wsX5_bits := goodIn_r _ [20, 7, 8, 9, 10, 38, 39, 40, 41, 42, 43, 44, 45, 46, 47, 48, 49, 50] (by decide +kernel) (by decide +kernel)
set_option maxRecDepth 20000 in
theorem gX7_leave_X5_bits : GoodIn wsX7_leave (wsV RX7 72 RX5 yX5_bits wsX5_bits) := goodIn_app (goodIn_of _ (by decide +kernel)) ggX7_leave_X5_bits
set_option maxRecDepth 20000 in
theorem ggX7_leave_J6_bitCount_0f7a4 : GoodIn wsX7_leave wsJ6_bitCount_0f7a4 := goodIn_r _ [24, 25, 26, 27] (by decide +kernel) (by decide +kernel)
set_option maxRecDepth 20000 in
theorem gX7_leave_J6_bitCount_0f7a4 : GoodIn wsX7_leave (va_wsS RX7 76 yJ6_bitCount_0f7a4 wsJ6_bitCount_0f7a4) := goodIn_app (goodIn_of _ (by decide +kernel)) ggX7_leave_J6_bitCount_0f7a4
theorem dX7_leave_0 : decode cX7_leave 0 = .ok (.aload_n 0, 1) := by decide +kernel
theorem dX7_leave_1 : decode cX7_leave 1 = .ok (.getfield 10, 3) := by decide +kernel
theorem dX7_leave_4 : decode cX7_leave 4 = .ok (.iload_n 1, 1) := by decide +kernel
theorem dX7_leave_5 : decode cX7_leave 5 = .ok (.invokevirtual 82, 3) := by decide +kernel
theorem dX7_leave_8 : decode cX7_leave 8 = .ok (.ifCond .ne 5, 3) := by decide +kernel
theorem dX7_leave_11 : decode cX7_leave 11 = .ok (.iconst (-1), 1) := by decide +kernel
theorem dX7_leave_12 : decode cX7_leave 12 = .ok (.ireturn, 1) := by decide +kernel
theorem dX7_leave_13 : decode cX7_leave 13 = .ok (.aload_n 0, 1) := by decide +kernel
theorem dX7_leave_14 : decode cX7_leave 14 = .ok (.getfield 10, 3) := by decide +kernel
theorem dX7_leave_17 : decode cX7_leave 17 = .ok (.iload_n 1, 1) := by decide +kernel
theorem dX7_leave_18 : decode cX7_leave 18 = .ok (.invokevirtual 86, 3) := by decide +kernel
theorem dX7_leave_21 : decode cX7_leave 21 = .ok (.aload_n 0, 1) := by decide +kernel
theorem dX7_leave_22 : decode cX7_leave 22 = .ok (.getfield 10, 3) := by decide +kernel
theorem dX7_leave_25 : decode cX7_leave 25 = .ok (.invokevirtual 72, 3) := by decide +kernel
theorem dX7_leave_28 : decode cX7_leave 28 = .ok (.invokestatic 76, 3) := by decide +kernel
theorem dX7_leave_31 : decode cX7_leave 31 = .ok (.ireturn, 1) := by decide +kernel
set_option maxRecDepth 20000 in
theorem ggX7_set_X7_within : GoodIn wsX7_set wsX7_within := goodIn_r _ [8] (by decide +kernel) (by decide +kernel)
set_option maxRecDepth 20000 in
theorem gX7_set_X7_within : GoodIn wsX7_set (va_wsS RX7 64 yX7_within wsX7_within) := goodIn_app (goodIn_of _ (by decide +kernel)) ggX7_set_X7_within
set_option maxRecDepth 20000 in
theorem ggX7_set_X7_at : GoodIn wsX7_set wsX7_at := goodIn_r _ [11] (by decide +kernel) (by decide +kernel)
set_option maxRecDepth 20000 in
theorem gX7_set_X7_at : GoodIn wsX7_set (va_wsS RX7 94 yX7_at wsX7_at) := goodIn_app (goodIn_of _ (by decide +kernel)) ggX7_set_X7_at
set_option maxRecDepth 20000 in
theorem ggX7_set_X5_rule : GoodIn wsX7_set wsX5_rule := goodIn_r _ [16, 17, 10, 7, 11, 31, 32, 33, 34, 35, 36, 37, 38, 39, 40, 41, 42, 43] (by decide +kernel) (by decide +kernel)
set_option maxRecDepth 20000 in
theorem gX7_set_X5_rule : GoodIn wsX7_set (wsV RX7 101 RX5 yX5_rule wsX5_rule) := goodIn_app (goodIn_of _ (by decide +kernel)) ggX7_set_X5_rule
set_option maxRecDepth 20000 in
theorem ggX7_set_X7_put : GoodIn wsX7_set wsX7_put := goodIn_r _ [20] (by decide +kernel) (by decide +kernel)
set_option maxRecDepth 20000 in
theorem gX7_set_X7_put : GoodIn wsX7_set (va_wsS RX7 107 yX7_put wsX7_put) := goodIn_app (goodIn_of _ (by decide +kernel)) ggX7_set_X7_put
theorem dX7_set_0 : decode cX7_set 0 = .ok (.iload_n 1, 1) := by decide +kernel
theorem dX7_set_1 : decode cX7_set 1 = .ok (.iconst 0, 1) := by decide +kernel
theorem dX7_set_2 : decode cX7_set 2 = .ok (.bipush 6, 2) := by decide +kernel
theorem dX7_set_4 : decode cX7_set 4 = .ok (.invokestatic 64, 3) := by decide +kernel
theorem dX7_set_7 : decode cX7_set 7 = .ok (.ifCond .eq 24, 3) := by decide +kernel
theorem dX7_set_10 : decode cX7_set 10 = .ok (.iload_n 2, 1) := by decide +kernel
theorem dX7_set_11 : decode cX7_set 11 = .ok (.getstatic 90, 3) := by decide +kernel
theorem dX7_set_14 : decode cX7_set 14 = .ok (.iload_n 1, 1) := by decide +kernel
theorem dX7_set_15 : decode cX7_set 15 = .ok (.invokestatic 94, 3) := by decide +kernel
theorem dX7_set_18 : decode cX7_set 18 = .ok (.getstatic 98, 3) := by decide +kernel
theorem dX7_set_21 : decode cX7_set 21 = .ok (.iload_n 1, 1) := by decide +kernel
theorem dX7_set_22 : decode cX7_set 22 = .ok (.invokestatic 94, 3) := by decide +kernel
theorem dX7_set_25 : decode cX7_set 25 = .ok (.invokestatic 64, 3) := by decide +kernel
theorem dX7_set_28 : decode cX7_set 28 = .ok (.ifCond .ne 6, 3) := by decide +kernel
theorem dX7_set_31 : decode cX7_set 31 = .ok (.bipush (-2), 2) := by decide +kernel
theorem dX7_set_33 : decode cX7_set 33 = .ok (.ireturn, 1) := by decide +kernel
theorem dX7_set_34 : decode cX7_set 34 = .ok (.aload_n 0, 1) := by decide +kernel
theorem dX7_set_35 : decode cX7_set 35 = .ok (.getfield 10, 3) := by decide +kernel
theorem dX7_set_38 : decode cX7_set 38 = .ok (.iload_n 1, 1) := by decide +kernel
theorem dX7_set_39 : decode cX7_set 39 = .ok (.invokevirtual 101, 3) := by decide +kernel
theorem dX7_set_42 : decode cX7_set 42 = .ok (.istore_n 3, 1) := by decide +kernel
theorem dX7_set_43 : decode cX7_set 43 = .ok (.aload_n 0, 1) := by decide +kernel
theorem dX7_set_44 : decode cX7_set 44 = .ok (.getfield 10, 3) := by decide +kernel
theorem dX7_set_47 : decode cX7_set 47 = .ok (.getfield 104, 3) := by decide +kernel
theorem dX7_set_50 : decode cX7_set 50 = .ok (.iload_n 1, 1) := by decide +kernel
theorem dX7_set_51 : decode cX7_set 51 = .ok (.iload_n 2, 1) := by decide +kernel
theorem dX7_set_52 : decode cX7_set 52 = .ok (.invokestatic 107, 3) := by decide +kernel
theorem dX7_set_55 : decode cX7_set 55 = .ok (.iload_n 3, 1) := by decide +kernel
theorem dX7_set_56 : decode cX7_set 56 = .ok (.ireturn, 1) := by decide +kernel
set_option maxRecDepth 20000 in
theorem ggX7_say_X7_within : GoodIn wsX7_say wsX7_within := goodIn_r _ [6] (by decide +kernel) (by decide +kernel)
set_option maxRecDepth 20000 in
theorem gX7_say_X7_within : GoodIn wsX7_say (va_wsS RX7 64 yX7_within wsX7_within) := goodIn_app (goodIn_of _ (by decide +kernel)) ggX7_say_X7_within
set_option maxRecDepth 20000 in
theorem ggX7_say_X3_add : GoodIn wsX7_say wsX3_add := goodIn_r _ [11, 12, 13, 14, 5, 15, 26, 27] (by decide +kernel) (by decide +kernel)
set_option maxRecDepth 20000 in
theorem gX7_say_X3_add : GoodIn wsX7_say (wsV RX7 111 RX3 yX3_add wsX3_add) := goodIn_app (goodIn_of _ (by decide +kernel)) ggX7_say_X3_add
theorem dX7_say_0 : decode cX7_say 0 = .ok (.iload_n 1, 1) := by decide +kernel
theorem dX7_say_1 : decode cX7_say 1 = .ok (.bipush 33, 2) := by decide +kernel
theorem dX7_say_3 : decode cX7_say 3 = .ok (.bipush 126, 2) := by decide +kernel
theorem dX7_say_5 : decode cX7_say 5 = .ok (.invokestatic 64, 3) := by decide +kernel
theorem dX7_say_8 : decode cX7_say 8 = .ok (.ifCond .ne 6, 3) := by decide +kernel
theorem dX7_say_11 : decode cX7_say 11 = .ok (.bipush (-2), 2) := by decide +kernel
theorem dX7_say_13 : decode cX7_say 13 = .ok (.ireturn, 1) := by decide +kernel
theorem dX7_say_14 : decode cX7_say 14 = .ok (.aload_n 0, 1) := by decide +kernel
theorem dX7_say_15 : decode cX7_say 15 = .ok (.getfield 32, 3) := by decide +kernel
theorem dX7_say_18 : decode cX7_say 18 = .ok (.iload_n 1, 1) := by decide +kernel
theorem dX7_say_19 : decode cX7_say 19 = .ok (.invokevirtual 111, 3) := by decide +kernel
theorem dX7_say_22 : decode cX7_say 22 = .ok (.ifCond .eq 13, 3) := by decide +kernel
theorem dX7_say_25 : decode cX7_say 25 = .ok (.aload_n 0, 1) := by decide +kernel
theorem dX7_say_26 : decode cX7_say 26 = .ok (.getfield 32, 3) := by decide +kernel
theorem dX7_say_29 : decode cX7_say 29 = .ok (.getfield 114, 3) := by decide +kernel
theorem dX7_say_32 : decode cX7_say 32 = .ok (.goto 5, 3) := by decide +kernel
theorem dX7_say_35 : decode cX7_say 35 = .ok (.bipush (-4), 2) := by decide +kernel
theorem dX7_say_37 : decode cX7_say 37 = .ok (.ireturn, 1) := by decide +kernel
set_option maxRecDepth 20000 in
theorem ggX7_wipe_X3_clear : GoodIn wsX7_wipe wsX3_clear := goodIn_r _ [7, 8, 19, 20] (by decide +kernel) (by decide +kernel)
set_option maxRecDepth 20000 in
theorem gX7_wipe_X3_clear : GoodIn wsX7_wipe (wsV RX7 118 RX3 yX3_clear wsX3_clear) := goodIn_app (goodIn_of _ (by decide +kernel)) ggX7_wipe_X3_clear
theorem dX7_wipe_0 : decode cX7_wipe 0 = .ok (.aload_n 0, 1) := by decide +kernel
theorem dX7_wipe_1 : decode cX7_wipe 1 = .ok (.getfield 32, 3) := by decide +kernel
theorem dX7_wipe_4 : decode cX7_wipe 4 = .ok (.getfield 114, 3) := by decide +kernel
theorem dX7_wipe_7 : decode cX7_wipe 7 = .ok (.istore_n 1, 1) := by decide +kernel
theorem dX7_wipe_8 : decode cX7_wipe 8 = .ok (.aload_n 0, 1) := by decide +kernel
theorem dX7_wipe_9 : decode cX7_wipe 9 = .ok (.getfield 32, 3) := by decide +kernel
theorem dX7_wipe_12 : decode cX7_wipe 12 = .ok (.invokevirtual 118, 3) := by decide +kernel
theorem dX7_wipe_15 : decode cX7_wipe 15 = .ok (.iload_n 1, 1) := by decide +kernel
theorem dX7_wipe_16 : decode cX7_wipe 16 = .ok (.ireturn, 1) := by decide +kernel
set_option maxRecDepth 20000 in
theorem ggX7_fault_X3_faultAt : GoodIn wsX7_fault wsX3_faultAt := goodIn_r _ [6, 7, 8, 9, 10, 11, 12, 13, 5, 14, 15, 16, 17, 18, 19, 30, 31] (by decide +kernel) (by decide +kernel)
set_option maxRecDepth 20000 in
theorem gX7_fault_X3_faultAt : GoodIn wsX7_fault (wsV RX7 121 RX3 yX3_faultAt wsX3_faultAt) := goodIn_app (goodIn_of _ (by decide +kernel)) ggX7_fault_X3_faultAt
theorem dX7_fault_0 : decode cX7_fault 0 = .ok (.aload_n 0, 1) := by decide +kernel
theorem dX7_fault_1 : decode cX7_fault 1 = .ok (.getfield 32, 3) := by decide +kernel
theorem dX7_fault_4 : decode cX7_fault 4 = .ok (.invokevirtual 121, 3) := by decide +kernel
theorem dX7_fault_7 : decode cX7_fault 7 = .ok (.ireturn, 1) := by decide +kernel
set_option maxRecDepth 20000 in
theorem ggX7_judge_X7_within : GoodIn wsX7_judge wsX7_within := goodIn_r _ [10] (by decide +kernel) (by decide +kernel)
set_option maxRecDepth 20000 in
theorem gX7_judge_X7_within : GoodIn wsX7_judge (va_wsS RX7 64 yX7_within wsX7_within) := goodIn_app (goodIn_of _ (by decide +kernel)) ggX7_judge_X7_within
set_option maxRecDepth 20000 in
theorem ggX7_judge_X7_playSummer : GoodIn wsX7_judge wsX7_playSummer := goodIn_r _ [14, 15, 1, 16, 3, 17, 18, 19, 20, 21, 22, 23, 24, 9, 25, 26, 27, 28, 29, 30, 31, 8, 10, 32, 33, 34, 35, 36, 37, 38, 39, 40, 41, 42, 43, 44, 45, 46, 47, 48, 49, 50, 51, 52, 53, 54, 55, 56, 57, 58, 59, 60, 61, 62, 63, 64, 65, 66, 67, 68, 69, 70, 71, 72, 73, 74, 75, 76, 77, 78, 79, 80, 81, 82, 83, 84, 85, 86, 87, 88, 89, 90, 91, 92, 93, 94, 95, 96, 97, 98, 99, 100, 101, 102, 103, 104, 105, 106, 107, 108, 109, 110, 111, 112, 113, 114, 115, 116, 117, 118, 119, 120, 121, 122, 123, 124, 125, 126, 127, 128, 129, 130, 131, 132, 133, 134, 135, 136, 137, 138, 139, 140, 141, 142, 143, 144, 145, 146, 147, 148, 149, 150, 151, 152, 153, 154, 155, 156, 157, 158, 159, 160, 161, 162, 163, 164, 165, 166] (by decide +kernel) (by decide +kernel)
set_option maxRecDepth 20000 in
theorem gX7_judge_X7_playSummer : GoodIn wsX7_judge (wsV RX7 124 RX7 yX7_playSummer wsX7_playSummer) := goodIn_app (goodIn_of _ (by decide +kernel)) ggX7_judge_X7_playSummer
theorem dX7_judge_0 : decode cX7_judge 0 = .ok (.iload_n 1, 1) := by decide +kernel
theorem dX7_judge_1 : decode cX7_judge 1 = .ok (.iconst 0, 1) := by decide +kernel
theorem dX7_judge_2 : decode cX7_judge 2 = .ok (.iconst 4, 1) := by decide +kernel
theorem dX7_judge_3 : decode cX7_judge 3 = .ok (.invokestatic 64, 3) := by decide +kernel
theorem dX7_judge_6 : decode cX7_judge 6 = .ok (.ifCond .ne 6, 3) := by decide +kernel
theorem dX7_judge_9 : decode cX7_judge 9 = .ok (.bipush (-2), 2) := by decide +kernel
theorem dX7_judge_11 : decode cX7_judge 11 = .ok (.ireturn, 1) := by decide +kernel
theorem dX7_judge_12 : decode cX7_judge 12 = .ok (.aload_n 0, 1) := by decide +kernel
theorem dX7_judge_13 : decode cX7_judge 13 = .ok (.invokevirtual 124, 3) := by decide +kernel
theorem dX7_judge_16 : decode cX7_judge 16 = .ok (.istore_n 2, 1) := by decide +kernel
theorem dX7_judge_17 : decode cX7_judge 17 = .ok (.iload_n 2, 1) := by decide +kernel
theorem dX7_judge_18 : decode cX7_judge 18 = .ok (.bipush (-5), 2) := by decide +kernel
theorem dX7_judge_20 : decode cX7_judge 20 = .ok (.if_icmp .eq 14, 3) := by decide +kernel
theorem dX7_judge_23 : decode cX7_judge 23 = .ok (.iload_n 2, 1) := by decide +kernel
theorem dX7_judge_24 : decode cX7_judge 24 = .ok (.bipush (-3), 2) := by decide +kernel
theorem dX7_judge_26 : decode cX7_judge 26 = .ok (.if_icmp .ne 10, 3) := by decide +kernel
theorem dX7_judge_29 : decode cX7_judge 29 = .ok (.iload_n 1, 1) := by decide +kernel
theorem dX7_judge_30 : decode cX7_judge 30 = .ok (.iconst 2, 1) := by decide +kernel
theorem dX7_judge_31 : decode cX7_judge 31 = .ok (.if_icmp .lt 5, 3) := by decide +kernel
theorem dX7_judge_34 : decode cX7_judge 34 = .ok (.iload_n 2, 1) := by decide +kernel
theorem dX7_judge_35 : decode cX7_judge 35 = .ok (.ireturn, 1) := by decide +kernel
theorem dX7_judge_36 : decode cX7_judge 36 = .ok (.iload_n 1, 1) := by decide +kernel
theorem dX7_judge_37 : decode cX7_judge 37 = .ok (.tableswitch 85 0 3 #[31, 50, 69, 77], 31) := by decide +kernel
theorem dX7_judge_68 : decode cX7_judge 68 = .ok (.iload_n 2, 1) := by decide +kernel
theorem dX7_judge_69 : decode cX7_judge 69 = .ok (.bipush (-3), 2) := by decide +kernel
theorem dX7_judge_71 : decode cX7_judge 71 = .ok (.if_icmp .ne 13, 3) := by decide +kernel
theorem dX7_judge_74 : decode cX7_judge 74 = .ok (.aload_n 0, 1) := by decide +kernel
theorem dX7_judge_75 : decode cX7_judge 75 = .ok (.getfield 39, 3) := by decide +kernel
theorem dX7_judge_78 : decode cX7_judge 78 = .ok (.getfield 127, 3) := by decide +kernel
theorem dX7_judge_81 : decode cX7_judge 81 = .ok (.goto 5, 3) := by decide +kernel
theorem dX7_judge_84 : decode cX7_judge 84 = .ok (.bipush (-6), 2) := by decide +kernel
theorem dX7_judge_86 : decode cX7_judge 86 = .ok (.ireturn, 1) := by decide +kernel
theorem dX7_judge_87 : decode cX7_judge 87 = .ok (.iload_n 2, 1) := by decide +kernel
theorem dX7_judge_88 : decode cX7_judge 88 = .ok (.bipush (-3), 2) := by decide +kernel
theorem dX7_judge_90 : decode cX7_judge 90 = .ok (.if_icmp .ne 13, 3) := by decide +kernel
theorem dX7_judge_93 : decode cX7_judge 93 = .ok (.aload_n 0, 1) := by decide +kernel
theorem dX7_judge_94 : decode cX7_judge 94 = .ok (.getfield 39, 3) := by decide +kernel
theorem dX7_judge_97 : decode cX7_judge 97 = .ok (.getfield 130, 3) := by decide +kernel
theorem dX7_judge_100 : decode cX7_judge 100 = .ok (.goto 5, 3) := by decide +kernel
theorem dX7_judge_103 : decode cX7_judge 103 = .ok (.bipush (-6), 2) := by decide +kernel
theorem dX7_judge_105 : decode cX7_judge 105 = .ok (.ireturn, 1) := by decide +kernel
theorem dX7_judge_106 : decode cX7_judge 106 = .ok (.aload_n 0, 1) := by decide +kernel
theorem dX7_judge_107 : decode cX7_judge 107 = .ok (.getfield 39, 3) := by decide +kernel
theorem dX7_judge_110 : decode cX7_judge 110 = .ok (.getfield 133, 3) := by decide +kernel
theorem dX7_judge_113 : decode cX7_judge 113 = .ok (.ireturn, 1) := by decide +kernel
theorem dX7_judge_114 : decode cX7_judge 114 = .ok (.aload_n 0, 1) := by decide +kernel
theorem dX7_judge_115 : decode cX7_judge 115 = .ok (.getfield 39, 3) := by decide +kernel
theorem dX7_judge_118 : decode cX7_judge 118 = .ok (.getfield 136, 3) := by decide +kernel
theorem dX7_judge_121 : decode cX7_judge 121 = .ok (.ireturn, 1) := by decide +kernel
theorem dX7_judge_122 : decode cX7_judge 122 = .ok (.aload_n 0, 1) := by decide +kernel
theorem dX7_judge_123 : decode cX7_judge 123 = .ok (.getfield 39, 3) := by decide +kernel
theorem dX7_judge_126 : decode cX7_judge 126 = .ok (.getfield 139, 3) := by decide +kernel
theorem dX7_judge_129 : decode cX7_judge 129 = .ok (.ireturn, 1) := by decide +kernel
set_option maxRecDepth 20000 in
theorem ggX7_state_X5_isThere : GoodIn wsX7_state wsX5_isThere := goodIn_r _ [6, 7, 8, 9, 10, 31, 32, 33, 34, 35, 36, 37, 38, 39, 40, 41, 42, 43] (by decide +kernel) (by decide +kernel)
set_option maxRecDepth 20000 in
theorem gX7_state_X5_isThere : GoodIn wsX7_state (wsV RX7 82 RX5 yX5_isThere wsX5_isThere) := goodIn_app (goodIn_of _ (by decide +kernel)) ggX7_state_X5_isThere
set_option maxRecDepth 20000 in
theorem ggX7_state_X7_within : GoodIn wsX7_state wsX7_within := goodIn_r _ [13] (by decide +kernel) (by decide +kernel)
set_option maxRecDepth 20000 in
theorem gX7_state_X7_within : GoodIn wsX7_state (va_wsS RX7 64 yX7_within wsX7_within) := goodIn_app (goodIn_of _ (by decide +kernel)) ggX7_state_X7_within
set_option maxRecDepth 20000 in
theorem ggX7_state_X5_standing : GoodIn wsX7_state wsX5_standing := goodIn_r _ [17, 18, 19, 20, 8, 9, 10, 31, 32, 33, 34, 35, 36, 37, 38, 39, 40, 41, 42, 43] (by decide +kernel) (by decide +kernel)
set_option maxRecDepth 20000 in
theorem gX7_state_X5_standing : GoodIn wsX7_state (wsV RX7 142 RX5 yX5_standing wsX5_standing) := goodIn_app (goodIn_of _ (by decide +kernel)) ggX7_state_X5_standing
theorem dX7_state_0 : decode cX7_state 0 = .ok (.aload_n 0, 1) := by decide +kernel
theorem dX7_state_1 : decode cX7_state 1 = .ok (.getfield 10, 3) := by decide +kernel
theorem dX7_state_4 : decode cX7_state 4 = .ok (.iload_n 1, 1) := by decide +kernel
theorem dX7_state_5 : decode cX7_state 5 = .ok (.invokevirtual 82, 3) := by decide +kernel
theorem dX7_state_8 : decode cX7_state 8 = .ok (.ifCond .ne 5, 3) := by decide +kernel
theorem dX7_state_11 : decode cX7_state 11 = .ok (.iconst (-1), 1) := by decide +kernel
theorem dX7_state_12 : decode cX7_state 12 = .ok (.ireturn, 1) := by decide +kernel
theorem dX7_state_13 : decode cX7_state 13 = .ok (.iload_n 2, 1) := by decide +kernel
theorem dX7_state_14 : decode cX7_state 14 = .ok (.iconst 0, 1) := by decide +kernel
theorem dX7_state_15 : decode cX7_state 15 = .ok (.iconst 2, 1) := by decide +kernel
theorem dX7_state_16 : decode cX7_state 16 = .ok (.invokestatic 64, 3) := by decide +kernel
theorem dX7_state_19 : decode cX7_state 19 = .ok (.ifCond .eq 15, 3) := by decide +kernel
theorem dX7_state_22 : decode cX7_state 22 = .ok (.aload_n 0, 1) := by decide +kernel
theorem dX7_state_23 : decode cX7_state 23 = .ok (.getfield 10, 3) := by decide +kernel
theorem dX7_state_26 : decode cX7_state 26 = .ok (.iload_n 1, 1) := by decide +kernel
theorem dX7_state_27 : decode cX7_state 27 = .ok (.iload_n 2, 1) := by decide +kernel
theorem dX7_state_28 : decode cX7_state 28 = .ok (.invokevirtual 142, 3) := by decide +kernel
theorem dX7_state_31 : decode cX7_state 31 = .ok (.goto 5, 3) := by decide +kernel
theorem dX7_state_34 : decode cX7_state 34 = .ok (.bipush (-2), 2) := by decide +kernel
theorem dX7_state_36 : decode cX7_state 36 = .ok (.ireturn, 1) := by decide +kernel
set_option maxRecDepth 20000 in
theorem ggX7_behind_X5_isThere : GoodIn wsX7_behind wsX5_isThere := goodIn_r _ [8, 9, 10, 11, 12, 152, 153, 154, 155, 156, 157, 158, 159, 160, 161, 162, 163, 164] (by decide +kernel) (by decide +kernel)
set_option maxRecDepth 20000 in
theorem gX7_behind_X5_isThere : GoodIn wsX7_behind (wsV RX7 82 RX5 yX5_isThere wsX5_isThere) := goodIn_app (goodIn_of _ (by decide +kernel)) ggX7_behind_X5_isThere
set_option maxRecDepth 20000 in
theorem ggX7_behind_X7_within : GoodIn wsX7_behind wsX7_within := goodIn_r _ [15] (by decide +kernel) (by decide +kernel)
set_option maxRecDepth 20000 in
theorem gX7_behind_X7_within : GoodIn wsX7_behind (va_wsS RX7 64 yX7_within wsX7_within) := goodIn_app (goodIn_of _ (by decide +kernel)) ggX7_behind_X7_within
set_option maxRecDepth 20000 in
theorem ggX7_behind_X7_playSummer : GoodIn wsX7_behind wsX7_playSummer := goodIn_r _ [19, 20, 2, 1, 21, 22, 23, 24, 25, 26, 27, 28, 10, 11, 12, 29, 30, 31, 32, 33, 34, 14, 15, 35, 36, 37, 38, 39, 40, 41, 42, 43, 44, 45, 46, 47, 48, 49, 50, 51, 52, 53, 54, 55, 56, 57, 7, 58, 59, 9, 60, 61, 62, 63, 64, 65, 66, 67, 68, 69, 70, 71, 72, 73, 74, 75, 76, 77, 78, 79, 80, 81, 82, 83, 84, 85, 86, 87, 88, 89, 90, 91, 92, 93, 94, 95, 96, 97, 98, 99, 100, 101, 102, 103, 5, 6, 8, 104, 105, 106, 107, 108, 109, 110, 111, 112, 113, 114, 115, 116, 117, 118, 119, 120, 121, 122, 123, 124, 125, 126, 127, 128, 133, 134, 135, 136, 137, 138, 139, 140, 141, 142, 143, 144, 145, 146, 147, 148, 149, 150, 151, 165, 166, 152, 153, 154, 155, 156, 157, 158, 159, 160, 161, 162, 163, 164, 167, 168] (by decide +kernel) (by decide +kernel)
set_option maxRecDepth 20000 in
theorem gX7_behind_X7_playSummer : GoodIn wsX7_behind (wsV RX7 124 RX7 yX7_playSummer wsX7_playSummer) := goodIn_app (goodIn_of _ (by decide +kernel)) ggX7_behind_X7_playSummer
set_option maxRecDepth 20000 in
theorem ggX7_behind_X5_standing : GoodIn wsX7_behind wsX5_standing := goodIn_r _ [132, 65, 64, 66, 10, 11, 12, 152, 153, 154, 155, 156, 157, 158, 159, 160, 161, 162, 163, 164] (by decide +kernel) (by decide +kernel)
set_option maxRecDepth 20000 in
theorem gX7_behind_X5_standing : GoodIn wsX7_behind (wsV RX7 142 RX5 yX5_standing wsX5_standing) := goodIn_app (goodIn_of _ (by decide +kernel)) ggX7_behind_X5_standing
theorem dX7_behind_0 : decode cX7_behind 0 = .ok (.aload_n 0, 1) := by decide +kernel
theorem dX7_behind_1 : decode cX7_behind 1 = .ok (.getfield 10, 3) := by decide +kernel
theorem dX7_behind_4 : decode cX7_behind 4 = .ok (.iload_n 1, 1) := by decide +kernel
theorem dX7_behind_5 : decode cX7_behind 5 = .ok (.invokevirtual 82, 3) := by decide +kernel
theorem dX7_behind_8 : decode cX7_behind 8 = .ok (.ifCond .ne 5, 3) := by decide +kernel
theorem dX7_behind_11 : decode cX7_behind 11 = .ok (.iconst (-1), 1) := by decide +kernel
theorem dX7_behind_12 : decode cX7_behind 12 = .ok (.ireturn, 1) := by decide +kernel
theorem dX7_behind_13 : decode cX7_behind 13 = .ok (.iload_n 2, 1) := by decide +kernel
theorem dX7_behind_14 : decode cX7_behind 14 = .ok (.iconst 0, 1) := by decide +kernel
theorem dX7_behind_15 : decode cX7_behind 15 = .ok (.iconst 2, 1) := by decide +kernel
theorem dX7_behind_16 : decode cX7_behind 16 = .ok (.invokestatic 64, 3) := by decide +kernel
theorem dX7_behind_19 : decode cX7_behind 19 = .ok (.ifCond .ne 6, 3) := by decide +kernel
theorem dX7_behind_22 : decode cX7_behind 22 = .ok (.bipush (-2), 2) := by decide +kernel
theorem dX7_behind_24 : decode cX7_behind 24 = .ok (.ireturn, 1) := by decide +kernel
theorem dX7_behind_25 : decode cX7_behind 25 = .ok (.aload_n 0, 1) := by decide +kernel
theorem dX7_behind_26 : decode cX7_behind 26 = .ok (.invokevirtual 124, 3) := by decide +kernel
theorem dX7_behind_29 : decode cX7_behind 29 = .ok (.istore_n 3, 1) := by decide +kernel
theorem dX7_behind_30 : decode cX7_behind 30 = .ok (.iload_n 3, 1) := by decide +kernel
theorem dX7_behind_31 : decode cX7_behind 31 = .ok (.ifCond .eq 7, 3) := by decide +kernel
theorem dX7_behind_34 : decode cX7_behind 34 = .ok (.iload_n 3, 1) := by decide +kernel
theorem dX7_behind_35 : decode cX7_behind 35 = .ok (.goto 15, 3) := by decide +kernel
theorem dX7_behind_38 : decode cX7_behind 38 = .ok (.aload_n 0, 1) := by decide +kernel
theorem dX7_behind_39 : decode cX7_behind 39 = .ok (.getfield 39, 3) := by decide +kernel
theorem dX7_behind_42 : decode cX7_behind 42 = .ok (.getfield 146, 3) := by decide +kernel
theorem dX7_behind_45 : decode cX7_behind 45 = .ok (.iload_n 1, 1) := by decide +kernel
theorem dX7_behind_46 : decode cX7_behind 46 = .ok (.iload_n 2, 1) := by decide +kernel
theorem dX7_behind_47 : decode cX7_behind 47 = .ok (.invokevirtual 142, 3) := by decide +kernel
theorem dX7_behind_50 : decode cX7_behind 50 = .ok (.ireturn, 1) := by decide +kernel
set_option maxRecDepth 20000 in
theorem ggX7_done_X7_playSummer : GoodIn wsX7_done wsX7_playSummer := goodIn_r _ [10, 4, 2, 1, 11, 12, 13, 14, 15, 16, 17, 18, 19, 9, 20, 21, 22, 23, 24, 25, 26, 27, 28, 29, 30, 31, 32, 33, 34, 35, 36, 37, 38, 39, 40, 41, 42, 43, 44, 45, 46, 47, 48, 49, 50, 51, 52, 53, 54, 55, 56, 57, 58, 59, 60, 61, 62, 63, 64, 65, 66, 67, 68, 69, 70, 71, 72, 73, 74, 75, 76, 77, 78, 79, 80, 81, 82, 83, 84, 85, 86, 87, 88, 89, 90, 91, 92, 93, 94, 95, 96, 97, 98, 99, 100, 101, 102, 103, 104, 105, 106, 107, 108, 109, 110, 111, 112, 113, 114, 115, 116, 117, 118, 119, 120, 121, 122, 123, 124, 125, 126, 127, 133, 134, 135, 136, 137, 138, 139, 140, 141, 142, 143, 144, 145, 146, 147, 148, 149, 150, 151, 152, 153, 154, 155, 156, 157, 158, 159, 160, 161, 162, 163, 164, 165, 166, 167, 168] (by decide +kernel) (by decide +kernel)
set_option maxRecDepth 20000 in
theorem gX7_done_X7_playSummer : GoodIn wsX7_done (wsV RX7 124 RX7 yX7_playSummer wsX7_playSummer) := goodIn_app (goodIn_of _ (by decide +kernel)) ggX7_done_X7_playSummer
set_option maxRecDepth 20000 in
theorem ggX7_done_X5_copyFrom : GoodIn wsX7_done wsX5_copyFrom := goodIn_r _ [53, 54, 55, 56, 57, 58, 59, 60, 61, 62, 63, 64, 65, 66, 67, 9, 68, 69, 19, 20, 70, 71, 72, 154, 155, 156, 157, 158, 159, 160, 161, 162, 163, 164, 165, 166] (by decide +kernel) (by decide +kernel)
set_option maxRecDepth 20000 in
theorem gX7_done_X5_copyFrom : GoodIn wsX7_done (wsV RX7 149 RX5 yX5_copyFrom wsX5_copyFrom) := goodIn_app (goodIn_of _ (by decide +kernel)) ggX7_done_X5_copyFrom
set_option maxRecDepth 20000 in
theorem ggX7_done_X3_clear : GoodIn wsX7_done wsX3_clear := goodIn_r _ [132, 17, 152, 153] (by decide +kernel) (by decide +kernel)
set_option maxRecDepth 20000 in
theorem gX7_done_X3_clear : GoodIn wsX7_done (wsV RX7 118 RX3 yX3_clear wsX3_clear) := goodIn_app (goodIn_of _ (by decide +kernel)) ggX7_done_X3_clear
theorem dX7_done_0 : decode cX7_done 0 = .ok (.aload_n 0, 1) := by decide +kernel
theorem dX7_done_1 : decode cX7_done 1 = .ok (.invokevirtual 124, 3) := by decide +kernel
theorem dX7_done_4 : decode cX7_done 4 = .ok (.istore_n 1, 1) := by decide +kernel
theorem dX7_done_5 : decode cX7_done 5 = .ok (.iload_n 1, 1) := by decide +kernel
theorem dX7_done_6 : decode cX7_done 6 = .ok (.ifCond .eq 5, 3) := by decide +kernel
theorem dX7_done_9 : decode cX7_done 9 = .ok (.iload_n 1, 1) := by decide +kernel
theorem dX7_done_10 : decode cX7_done 10 = .ok (.ireturn, 1) := by decide +kernel
theorem dX7_done_11 : decode cX7_done 11 = .ok (.aload_n 0, 1) := by decide +kernel
theorem dX7_done_12 : decode cX7_done 12 = .ok (.getfield 10, 3) := by decide +kernel
theorem dX7_done_15 : decode cX7_done 15 = .ok (.aload_n 0, 1) := by decide +kernel
theorem dX7_done_16 : decode cX7_done 16 = .ok (.getfield 39, 3) := by decide +kernel
theorem dX7_done_19 : decode cX7_done 19 = .ok (.getfield 146, 3) := by decide +kernel
theorem dX7_done_22 : decode cX7_done 22 = .ok (.invokevirtual 149, 3) := by decide +kernel
theorem dX7_done_25 : decode cX7_done 25 = .ok (.aload_n 0, 1) := by decide +kernel
theorem dX7_done_26 : decode cX7_done 26 = .ok (.getfield 32, 3) := by decide +kernel
theorem dX7_done_29 : decode cX7_done 29 = .ok (.invokevirtual 118, 3) := by decide +kernel
theorem dX7_done_32 : decode cX7_done 32 = .ok (.aload_n 0, 1) := by decide +kernel
theorem dX7_done_33 : decode cX7_done 33 = .ok (.getfield 39, 3) := by decide +kernel
theorem dX7_done_36 : decode cX7_done 36 = .ok (.getfield 127, 3) := by decide +kernel
theorem dX7_done_39 : decode cX7_done 39 = .ok (.ireturn, 1) := by decide +kernel
set_option maxRecDepth 20000 in
theorem ggX7_ties_X7_within : GoodIn wsX7_ties wsX7_within := goodIn_r _ [6] (by decide +kernel) (by decide +kernel)
set_option maxRecDepth 20000 in
theorem gX7_ties_X7_within : GoodIn wsX7_ties (va_wsS RX7 64 yX7_within wsX7_within) := goodIn_app (goodIn_of _ (by decide +kernel)) ggX7_ties_X7_within
set_option maxRecDepth 20000 in
theorem ggX7_ties_X7_playSummer : GoodIn wsX7_ties wsX7_playSummer := goodIn_r _ [10, 11, 1, 12, 13, 14, 15, 16, 17, 18, 19, 20, 21, 5, 22, 23, 24, 25, 26, 27, 28, 4, 6, 29, 30, 31, 32, 33, 34, 35, 36, 37, 38, 39, 40, 41, 42, 43, 44, 45, 46, 47, 48, 49, 50, 51, 52, 53, 54, 55, 56, 57, 58, 59, 60, 61, 62, 63, 64, 65, 66, 67, 68, 69, 70, 71, 72, 73, 74, 75, 76, 77, 78, 79, 80, 81, 82, 83, 84, 85, 86, 87, 88, 89, 90, 91, 92, 93, 94, 95, 96, 97, 98, 99, 100, 101, 102, 103, 104, 105, 106, 107, 108, 109, 110, 111, 112, 113, 114, 115, 116, 117, 118, 119, 120, 121, 122, 123, 124, 125, 126, 127, 132, 133, 134, 135, 136, 137, 138, 139, 140, 141, 142, 143, 144, 145, 146, 147, 148, 149, 150, 151, 152, 153, 154, 155, 156, 157, 158, 159, 160, 161, 162, 163, 164, 165, 166, 167] (by decide +kernel) (by decide +kernel)
set_option maxRecDepth 20000 in
theorem gX7_ties_X7_playSummer : GoodIn wsX7_ties (wsV RX7 124 RX7 yX7_playSummer wsX7_playSummer) := goodIn_app (goodIn_of _ (by decide +kernel)) ggX7_ties_X7_playSummer
set_option maxRecDepth 20000 in
theorem ggX7_ties_X4_closest : GoodIn wsX7_ties wsX4_closest := goodIn_r _ [131, 43, 21, 5, 22, 142, 143, 144, 145, 146, 147, 148, 149, 150] (by decide +kernel) (by decide +kernel)
set_option maxRecDepth 20000 in
theorem gX7_ties_X4_closest : GoodIn wsX7_ties (wsV RX7 153 RX4 yX4_closest wsX4_closest) := goodIn_app (goodIn_of _ (by decide +kernel)) ggX7_ties_X4_closest
set_option maxRecDepth 20000 in
theorem ggX7_ties_X7_at : GoodIn wsX7_ties wsX7_at := goodIn_r _ [22] (by decide +kernel) (by decide +kernel)
set_option maxRecDepth 20000 in
theorem gX7_ties_X7_at : GoodIn wsX7_ties (va_wsS RX7 94 yX7_at wsX7_at) := goodIn_app (goodIn_of _ (by decide +kernel)) ggX7_ties_X7_at
theorem dX7_ties_0 : decode cX7_ties 0 = .ok (.iload_n 1, 1) := by decide +kernel
theorem dX7_ties_1 : decode cX7_ties 1 = .ok (.iconst 0, 1) := by decide +kernel
theorem dX7_ties_2 : decode cX7_ties 2 = .ok (.iconst 1, 1) := by decide +kernel
theorem dX7_ties_3 : decode cX7_ties 3 = .ok (.invokestatic 64, 3) := by decide +kernel
theorem dX7_ties_6 : decode cX7_ties 6 = .ok (.ifCond .ne 6, 3) := by decide +kernel
theorem dX7_ties_9 : decode cX7_ties 9 = .ok (.bipush (-2), 2) := by decide +kernel
theorem dX7_ties_11 : decode cX7_ties 11 = .ok (.ireturn, 1) := by decide +kernel
theorem dX7_ties_12 : decode cX7_ties 12 = .ok (.aload_n 0, 1) := by decide +kernel
theorem dX7_ties_13 : decode cX7_ties 13 = .ok (.invokevirtual 124, 3) := by decide +kernel
theorem dX7_ties_16 : decode cX7_ties 16 = .ok (.istore_n 2, 1) := by decide +kernel
theorem dX7_ties_17 : decode cX7_ties 17 = .ok (.iload_n 2, 1) := by decide +kernel
theorem dX7_ties_18 : decode cX7_ties 18 = .ok (.ifCond .eq 5, 3) := by decide +kernel
theorem dX7_ties_21 : decode cX7_ties 21 = .ok (.iload_n 2, 1) := by decide +kernel
theorem dX7_ties_22 : decode cX7_ties 22 = .ok (.ireturn, 1) := by decide +kernel
theorem dX7_ties_23 : decode cX7_ties 23 = .ok (.aload_n 0, 1) := by decide +kernel
theorem dX7_ties_24 : decode cX7_ties 24 = .ok (.getfield 39, 3) := by decide +kernel
theorem dX7_ties_27 : decode cX7_ties 27 = .ok (.invokevirtual 153, 3) := by decide +kernel
theorem dX7_ties_30 : decode cX7_ties 30 = .ok (.istore_n 3, 1) := by decide +kernel
theorem dX7_ties_31 : decode cX7_ties 31 = .ok (.iload_n 3, 1) := by decide +kernel
theorem dX7_ties_32 : decode cX7_ties 32 = .ok (.ifCond .ge 6, 3) := by decide +kernel
theorem dX7_ties_35 : decode cX7_ties 35 = .ok (.bipush (-6), 2) := by decide +kernel
theorem dX7_ties_37 : decode cX7_ties 37 = .ok (.ireturn, 1) := by decide +kernel
theorem dX7_ties_38 : decode cX7_ties 38 = .ok (.iload_n 1, 1) := by decide +kernel
theorem dX7_ties_39 : decode cX7_ties 39 = .ok (.ifCond .ne 18, 3) := by decide +kernel
theorem dX7_ties_42 : decode cX7_ties 42 = .ok (.iload_n 3, 1) := by decide +kernel
theorem dX7_ties_43 : decode cX7_ties 43 = .ok (.bipush 6, 2) := by decide +kernel
theorem dX7_ties_45 : decode cX7_ties 45 = .ok (.idiv, 1) := by decide +kernel
theorem dX7_ties_46 : decode cX7_ties 46 = .ok (.bipush 10, 2) := by decide +kernel
theorem dX7_ties_48 : decode cX7_ties 48 = .ok (.imul, 1) := by decide +kernel
theorem dX7_ties_49 : decode cX7_ties 49 = .ok (.iload_n 3, 1) := by decide +kernel
theorem dX7_ties_50 : decode cX7_ties 50 = .ok (.bipush 6, 2) := by decide +kernel
theorem dX7_ties_52 : decode cX7_ties 52 = .ok (.irem, 1) := by decide +kernel
theorem dX7_ties_53 : decode cX7_ties 53 = .ok (.iadd, 1) := by decide +kernel
theorem dX7_ties_54 : decode cX7_ties 54 = .ok (.goto 14, 3) := by decide +kernel
theorem dX7_ties_57 : decode cX7_ties 57 = .ok (.aload_n 0, 1) := by decide +kernel
theorem dX7_ties_58 : decode cX7_ties 58 = .ok (.getfield 39, 3) := by decide +kernel
theorem dX7_ties_61 : decode cX7_ties 61 = .ok (.getfield 156, 3) := by decide +kernel
theorem dX7_ties_64 : decode cX7_ties 64 = .ok (.iload_n 3, 1) := by decide +kernel
theorem dX7_ties_65 : decode cX7_ties 65 = .ok (.invokestatic 94, 3) := by decide +kernel
theorem dX7_ties_68 : decode cX7_ties 68 = .ok (.ireturn, 1) := by decide +kernel
set_option maxRecDepth 20000 in
theorem ggX7_unhurt_X7_within : GoodIn wsX7_unhurt wsX7_within := goodIn_r _ [10] (by decide +kernel) (by decide +kernel)
set_option maxRecDepth 20000 in
theorem gX7_unhurt_X7_within : GoodIn wsX7_unhurt (va_wsS RX7 64 yX7_within wsX7_within) := goodIn_app (goodIn_of _ (by decide +kernel)) ggX7_unhurt_X7_within
set_option maxRecDepth 20000 in
theorem ggX7_unhurt_X7_playSummer : GoodIn wsX7_unhurt wsX7_playSummer := goodIn_r _ [14, 15, 3, 16, 17, 18, 19, 20, 21, 22, 23, 24, 25, 9, 26, 27, 28, 29, 30, 31, 32, 8, 10, 33, 34, 35, 36, 37, 38, 39, 40, 41, 42, 43, 44, 45, 46, 47, 48, 49, 50, 51, 52, 53, 54, 55, 56, 57, 58, 59, 60, 61, 62, 63, 64, 65, 66, 67, 68, 69, 70, 71, 72, 73, 74, 75, 76, 77, 78, 79, 80, 81, 82, 83, 84, 85, 86, 87, 88, 89, 90, 91, 92, 93, 94, 95, 96, 97, 98, 99, 100, 101, 102, 103, 104, 105, 106, 107, 108, 109, 110, 111, 112, 113, 114, 115, 116, 117, 118, 119, 120, 121, 122, 123, 124, 125, 126, 127, 128, 129, 130, 131, 136, 137, 138, 139, 140, 141, 142, 143, 144, 145, 146, 147, 148, 149, 150, 151, 152, 153, 154, 155, 156, 157, 158, 159, 160, 161, 162, 163, 164, 165, 166, 167, 168, 169, 170, 171] (by decide +kernel) (by decide +kernel)
set_option maxRecDepth 20000 in
theorem gX7_unhurt_X7_playSummer : GoodIn wsX7_unhurt (wsV RX7 124 RX7 yX7_playSummer wsX7_playSummer) := goodIn_app (goodIn_of _ (by decide +kernel)) ggX7_unhurt_X7_playSummer
set_option maxRecDepth 20000 in
theorem ggX7_unhurt_X0_lowest : GoodIn wsX7_unhurt wsX0_lowest := goodIn_r _ [135, 83, 82, 170, 171] (by decide +kernel) (by decide +kernel)
set_option maxRecDepth 20000 in
theorem gX7_unhurt_X0_lowest : GoodIn wsX7_unhurt (wsV RX7 172 RX0 yX0_lowest wsX0_lowest) := goodIn_app (goodIn_of _ (by decide +kernel)) ggX7_unhurt_X0_lowest
theorem dX7_unhurt_0 : decode cX7_unhurt 0 = .ok (.iload_n 1, 1) := by decide +kernel
theorem dX7_unhurt_1 : decode cX7_unhurt 1 = .ok (.iconst 0, 1) := by decide +kernel
theorem dX7_unhurt_2 : decode cX7_unhurt 2 = .ok (.iconst 1, 1) := by decide +kernel
theorem dX7_unhurt_3 : decode cX7_unhurt 3 = .ok (.invokestatic 64, 3) := by decide +kernel
theorem dX7_unhurt_6 : decode cX7_unhurt 6 = .ok (.ifCond .ne 7, 3) := by decide +kernel
theorem dX7_unhurt_9 : decode cX7_unhurt 9 = .ok (.ldc2_w 159, 3) := by decide +kernel
theorem dX7_unhurt_12 : decode cX7_unhurt 12 = .ok (.lreturn, 1) := by decide +kernel
theorem dX7_unhurt_13 : decode cX7_unhurt 13 = .ok (.aload_n 0, 1) := by decide +kernel
theorem dX7_unhurt_14 : decode cX7_unhurt 14 = .ok (.invokevirtual 124, 3) := by decide +kernel
theorem dX7_unhurt_17 : decode cX7_unhurt 17 = .ok (.istore_n 2, 1) := by decide +kernel
theorem dX7_unhurt_18 : decode cX7_unhurt 18 = .ok (.iload_n 2, 1) := by decide +kernel
theorem dX7_unhurt_19 : decode cX7_unhurt 19 = .ok (.ifCond .eq 10, 3) := by decide +kernel
theorem dX7_unhurt_22 : decode cX7_unhurt 22 = .ok (.ldc2_w 161, 3) := by decide +kernel
theorem dX7_unhurt_25 : decode cX7_unhurt 25 = .ok (.iload_n 2, 1) := by decide +kernel
theorem dX7_unhurt_26 : decode cX7_unhurt 26 = .ok (.i2l, 1) := by decide +kernel
theorem dX7_unhurt_27 : decode cX7_unhurt 27 = .ok (.ladd, 1) := by decide +kernel
theorem dX7_unhurt_28 : decode cX7_unhurt 28 = .ok (.lreturn, 1) := by decide +kernel
theorem dX7_unhurt_29 : decode cX7_unhurt 29 = .ok (.aload_n 0, 1) := by decide +kernel
theorem dX7_unhurt_30 : decode cX7_unhurt 30 = .ok (.getfield 39, 3) := by decide +kernel
theorem dX7_unhurt_33 : decode cX7_unhurt 33 = .ok (.getfield 163, 3) := by decide +kernel
theorem dX7_unhurt_36 : decode cX7_unhurt 36 = .ok (.bipush 15, 2) := by decide +kernel
theorem dX7_unhurt_38 : decode cX7_unhurt 38 = .ok (.if_icmp .le 9, 3) := by decide +kernel
theorem dX7_unhurt_41 : decode cX7_unhurt 41 = .ok (.ldc2_w 166, 3) := by decide +kernel
theorem dX7_unhurt_44 : decode cX7_unhurt 44 = .ok (.goto 14, 3) := by decide +kernel
theorem dX7_unhurt_47 : decode cX7_unhurt 47 = .ok (.aload_n 0, 1) := by decide +kernel
theorem dX7_unhurt_48 : decode cX7_unhurt 48 = .ok (.getfield 39, 3) := by decide +kernel
theorem dX7_unhurt_51 : decode cX7_unhurt 51 = .ok (.getfield 168, 3) := by decide +kernel
theorem dX7_unhurt_54 : decode cX7_unhurt 54 = .ok (.iload_n 1, 1) := by decide +kernel
theorem dX7_unhurt_55 : decode cX7_unhurt 55 = .ok (.invokevirtual 172, 3) := by decide +kernel
theorem dX7_unhurt_58 : decode cX7_unhurt 58 = .ok (.lreturn, 1) := by decide +kernel
set_option maxRecDepth 20000 in
theorem ggX7_odds_X7_refusalOfHeight : GoodIn wsX7_odds wsX7_refusalOfHeight := goodIn_r _ [6, 1, 7, 8, 9, 10, 11, 12, 13, 5, 14, 15, 16, 17, 31, 32, 33, 34, 35, 36, 37, 38, 39, 40, 41, 42, 43, 44, 45, 46, 47, 48, 49, 50, 51, 52, 53] (by decide +kernel) (by decide +kernel)
set_option maxRecDepth 20000 in
theorem gX7_odds_X7_refusalOfHeight : GoodIn wsX7_odds (wsV RX7 178 RX7 yX7_refusalOfHeight wsX7_refusalOfHeight) := goodIn_app (goodIn_of _ (by decide +kernel)) ggX7_odds_X7_refusalOfHeight
set_option maxRecDepth 20000 in
theorem ggX7_odds_X5_oddsOf : GoodIn wsX7_odds wsX5_oddsOf := goodIn_r _ [21, 22, 23, 24, 25, 26, 27, 28, 29, 30, 13, 5, 14, 41, 42, 43, 44, 45, 46, 47, 48, 49, 50, 51, 52, 53] (by decide +kernel) (by decide +kernel)
set_option maxRecDepth 20000 in
theorem gX7_odds_X5_oddsOf : GoodIn wsX7_odds (wsV RX7 181 RX5 yX5_oddsOf wsX5_oddsOf) := goodIn_app (goodIn_of _ (by decide +kernel)) ggX7_odds_X5_oddsOf
theorem dX7_odds_0 : decode cX7_odds 0 = .ok (.aload_n 0, 1) := by decide +kernel
theorem dX7_odds_1 : decode cX7_odds 1 = .ok (.iload_n 1, 1) := by decide +kernel
theorem dX7_odds_2 : decode cX7_odds 2 = .ok (.iload_n 2, 1) := by decide +kernel
theorem dX7_odds_3 : decode cX7_odds 3 = .ok (.invokevirtual 178, 3) := by decide +kernel
theorem dX7_odds_6 : decode cX7_odds 6 = .ok (.istore_n 3, 1) := by decide +kernel
theorem dX7_odds_7 : decode cX7_odds 7 = .ok (.iload_n 3, 1) := by decide +kernel
theorem dX7_odds_8 : decode cX7_odds 8 = .ok (.ifCond .eq 7, 3) := by decide +kernel
theorem dX7_odds_11 : decode cX7_odds 11 = .ok (.iload_n 3, 1) := by decide +kernel
theorem dX7_odds_12 : decode cX7_odds 12 = .ok (.goto 12, 3) := by decide +kernel
theorem dX7_odds_15 : decode cX7_odds 15 = .ok (.aload_n 0, 1) := by decide +kernel
theorem dX7_odds_16 : decode cX7_odds 16 = .ok (.getfield 10, 3) := by decide +kernel
theorem dX7_odds_19 : decode cX7_odds 19 = .ok (.iload_n 1, 1) := by decide +kernel
theorem dX7_odds_20 : decode cX7_odds 20 = .ok (.iload_n 2, 1) := by decide +kernel
theorem dX7_odds_21 : decode cX7_odds 21 = .ok (.invokevirtual 181, 3) := by decide +kernel
theorem dX7_odds_24 : decode cX7_odds 24 = .ok (.ireturn, 1) := by decide +kernel
set_option maxRecDepth 20000 in
theorem ggX7_worth_X7_refusalOfHeight : GoodIn wsX7_worth wsX7_refusalOfHeight := goodIn_r _ [7, 1, 8, 9, 10, 11, 12, 13, 14, 6, 15, 16, 17, 18, 45, 46, 47, 48, 49, 50, 51, 52, 53, 54, 55, 56, 57, 58, 59, 60, 61, 62, 63, 64, 65, 66, 67] (by decide +kernel) (by decide +kernel)
set_option maxRecDepth 20000 in
theorem gX7_worth_X7_refusalOfHeight : GoodIn wsX7_worth (wsV RX7 178 RX7 yX7_refusalOfHeight wsX7_refusalOfHeight) := goodIn_app (goodIn_of _ (by decide +kernel)) ggX7_worth_X7_refusalOfHeight
set_option maxRecDepth 20000 in
theorem ggX7_worth_X7_within : GoodIn wsX7_worth wsX7_within := goodIn_r _ [18] (by decide +kernel) (by decide +kernel)
set_option maxRecDepth 20000 in
theorem gX7_worth_X7_within : GoodIn wsX7_worth (va_wsS RX7 64 yX7_within wsX7_within) := goodIn_app (goodIn_of _ (by decide +kernel)) ggX7_worth_X7_within
set_option maxRecDepth 20000 in
theorem ggX7_worth_X5_prideOf : GoodIn wsX7_worth wsX5_prideOf := goodIn_r _ [22, 23, 14, 6, 15, 55, 56, 57, 58, 59, 60, 61, 62, 63, 64, 65, 66, 67] (by decide +kernel) (by decide +kernel)
set_option maxRecDepth 20000 in
theorem gX7_worth_X5_prideOf : GoodIn wsX7_worth (wsV RX7 184 RX5 yX5_prideOf wsX5_prideOf) := goodIn_app (goodIn_of _ (by decide +kernel)) ggX7_worth_X5_prideOf
set_option maxRecDepth 20000 in
theorem ggX7_worth_X5_worthDone : GoodIn wsX7_worth wsX5_worthDone := goodIn_r _ [27, 28, 29, 14, 6, 15, 30, 31, 32, 11, 33, 34, 35, 36, 37, 38, 39, 40, 41, 55, 56, 57, 58, 59, 60, 61, 62, 63, 64, 65, 66, 67] (by decide +kernel) (by decide +kernel)
set_option maxRecDepth 20000 in
theorem gX7_worth_X5_worthDone : GoodIn wsX7_worth (wsV RX7 188 RX5 yX5_worthDone wsX5_worthDone) := goodIn_app (goodIn_of _ (by decide +kernel)) ggX7_worth_X5_worthDone
set_option maxRecDepth 20000 in
theorem ggX7_worth_X5_worthRefused : GoodIn wsX7_worth wsX5_worthRefused := goodIn_r _ [44] (by decide +kernel) (by decide +kernel)
set_option maxRecDepth 20000 in
theorem gX7_worth_X5_worthRefused : GoodIn wsX7_worth (va_wsS RX7 192 yX5_worthRefused wsX5_worthRefused) := goodIn_app (goodIn_of _ (by decide +kernel)) ggX7_worth_X5_worthRefused
theorem dX7_worth_0 : decode cX7_worth 0 = .ok (.aload_n 0, 1) := by decide +kernel
theorem dX7_worth_1 : decode cX7_worth 1 = .ok (.iload_n 1, 1) := by decide +kernel
theorem dX7_worth_2 : decode cX7_worth 2 = .ok (.iload_n 2, 1) := by decide +kernel
theorem dX7_worth_3 : decode cX7_worth 3 = .ok (.invokevirtual 178, 3) := by decide +kernel
theorem dX7_worth_6 : decode cX7_worth 6 = .ok (.istore 4, 2) := by decide +kernel
theorem dX7_worth_8 : decode cX7_worth 8 = .ok (.iload 4, 2) := by decide +kernel
theorem dX7_worth_10 : decode cX7_worth 10 = .ok (.ifCond .eq 6, 3) := by decide +kernel
theorem dX7_worth_13 : decode cX7_worth 13 = .ok (.iload 4, 2) := by decide +kernel
theorem dX7_worth_15 : decode cX7_worth 15 = .ok (.ireturn, 1) := by decide +kernel
theorem dX7_worth_16 : decode cX7_worth 16 = .ok (.iload_n 3, 1) := by decide +kernel
theorem dX7_worth_17 : decode cX7_worth 17 = .ok (.iconst 0, 1) := by decide +kernel
theorem dX7_worth_18 : decode cX7_worth 18 = .ok (.iconst 1, 1) := by decide +kernel
theorem dX7_worth_19 : decode cX7_worth 19 = .ok (.invokestatic 64, 3) := by decide +kernel
theorem dX7_worth_22 : decode cX7_worth 22 = .ok (.ifCond .ne 6, 3) := by decide +kernel
theorem dX7_worth_25 : decode cX7_worth 25 = .ok (.bipush (-2), 2) := by decide +kernel
theorem dX7_worth_27 : decode cX7_worth 27 = .ok (.ireturn, 1) := by decide +kernel
theorem dX7_worth_28 : decode cX7_worth 28 = .ok (.aload_n 0, 1) := by decide +kernel
theorem dX7_worth_29 : decode cX7_worth 29 = .ok (.getfield 10, 3) := by decide +kernel
theorem dX7_worth_32 : decode cX7_worth 32 = .ok (.iload_n 1, 1) := by decide +kernel
theorem dX7_worth_33 : decode cX7_worth 33 = .ok (.invokevirtual 184, 3) := by decide +kernel
theorem dX7_worth_36 : decode cX7_worth 36 = .ok (.istore 5, 2) := by decide +kernel
theorem dX7_worth_38 : decode cX7_worth 38 = .ok (.ldc 187, 2) := by decide +kernel
theorem dX7_worth_40 : decode cX7_worth 40 = .ok (.iload_n 3, 1) := by decide +kernel
theorem dX7_worth_41 : decode cX7_worth 41 = .ok (.ifCond .ne 17, 3) := by decide +kernel
theorem dX7_worth_44 : decode cX7_worth 44 = .ok (.aload_n 0, 1) := by decide +kernel
theorem dX7_worth_45 : decode cX7_worth 45 = .ok (.getfield 10, 3) := by decide +kernel
theorem dX7_worth_48 : decode cX7_worth 48 = .ok (.iload_n 1, 1) := by decide +kernel
theorem dX7_worth_49 : decode cX7_worth 49 = .ok (.iload_n 2, 1) := by decide +kernel
theorem dX7_worth_50 : decode cX7_worth 50 = .ok (.iload 5, 2) := by decide +kernel
theorem dX7_worth_52 : decode cX7_worth 52 = .ok (.invokevirtual 188, 3) := by decide +kernel
theorem dX7_worth_55 : decode cX7_worth 55 = .ok (.goto 9, 3) := by decide +kernel
theorem dX7_worth_58 : decode cX7_worth 58 = .ok (.iload_n 2, 1) := by decide +kernel
theorem dX7_worth_59 : decode cX7_worth 59 = .ok (.iload 5, 2) := by decide +kernel
theorem dX7_worth_61 : decode cX7_worth 61 = .ok (.invokestatic 192, 3) := by decide +kernel
theorem dX7_worth_64 : decode cX7_worth 64 = .ok (.iadd, 1) := by decide +kernel
theorem dX7_worth_65 : decode cX7_worth 65 = .ok (.ireturn, 1) := by decide +kernel
set_option maxRecDepth 20000 in
theorem ggX7_does_X7_refusalOfHeight : GoodIn wsX7_does wsX7_refusalOfHeight := goodIn_r _ [6, 1, 7, 8, 9, 10, 11, 12, 13, 5, 14, 15, 16, 17, 48, 49, 50, 51, 52, 53, 54, 55, 56, 57, 58, 59, 60, 61, 62, 63, 64, 65, 66, 67, 68, 69, 70] (by decide +kernel) (by decide +kernel)
set_option maxRecDepth 20000 in
theorem gX7_does_X7_refusalOfHeight : GoodIn wsX7_does (wsV RX7 178 RX7 yX7_refusalOfHeight wsX7_refusalOfHeight) := goodIn_app (goodIn_of _ (by decide +kernel)) ggX7_does_X7_refusalOfHeight
set_option maxRecDepth 20000 in
theorem ggX7_does_X5_prideOf : GoodIn wsX7_does wsX5_prideOf := goodIn_r _ [21, 22, 13, 5, 14, 58, 59, 60, 61, 62, 63, 64, 65, 66, 67, 68, 69, 70] (by decide +kernel) (by decide +kernel)
set_option maxRecDepth 20000 in
theorem gX7_does_X5_prideOf : GoodIn wsX7_does (wsV RX7 184 RX5 yX5_prideOf wsX5_prideOf) := goodIn_app (goodIn_of _ (by decide +kernel)) ggX7_does_X5_prideOf
set_option maxRecDepth 20000 in
theorem ggX7_does_X5_dares : GoodIn wsX7_does wsX5_dares := goodIn_r _ [26, 27, 28, 29, 10, 30, 31, 32, 13, 5, 14, 33, 34, 35, 36, 37, 38, 39, 40, 41, 42, 43, 44, 45, 46, 47, 58, 59, 60, 61, 62, 63, 64, 65, 66, 67, 68, 69, 70] (by decide +kernel) (by decide +kernel)
set_option maxRecDepth 20000 in
theorem gX7_does_X5_dares : GoodIn wsX7_does (wsV RX7 195 RX5 yX5_dares wsX5_dares) := goodIn_app (goodIn_of _ (by decide +kernel)) ggX7_does_X5_dares
theorem dX7_does_0 : decode cX7_does 0 = .ok (.aload_n 0, 1) := by decide +kernel
theorem dX7_does_1 : decode cX7_does 1 = .ok (.iload_n 1, 1) := by decide +kernel
theorem dX7_does_2 : decode cX7_does 2 = .ok (.iload_n 2, 1) := by decide +kernel
theorem dX7_does_3 : decode cX7_does 3 = .ok (.invokevirtual 178, 3) := by decide +kernel
theorem dX7_does_6 : decode cX7_does 6 = .ok (.istore_n 3, 1) := by decide +kernel
theorem dX7_does_7 : decode cX7_does 7 = .ok (.iload_n 3, 1) := by decide +kernel
theorem dX7_does_8 : decode cX7_does 8 = .ok (.ifCond .eq 5, 3) := by decide +kernel
theorem dX7_does_11 : decode cX7_does 11 = .ok (.iload_n 3, 1) := by decide +kernel
theorem dX7_does_12 : decode cX7_does 12 = .ok (.ireturn, 1) := by decide +kernel
theorem dX7_does_13 : decode cX7_does 13 = .ok (.aload_n 0, 1) := by decide +kernel
theorem dX7_does_14 : decode cX7_does 14 = .ok (.getfield 10, 3) := by decide +kernel
theorem dX7_does_17 : decode cX7_does 17 = .ok (.iload_n 1, 1) := by decide +kernel
theorem dX7_does_18 : decode cX7_does 18 = .ok (.iload_n 2, 1) := by decide +kernel
theorem dX7_does_19 : decode cX7_does 19 = .ok (.aload_n 0, 1) := by decide +kernel
theorem dX7_does_20 : decode cX7_does 20 = .ok (.getfield 10, 3) := by decide +kernel
theorem dX7_does_23 : decode cX7_does 23 = .ok (.iload_n 1, 1) := by decide +kernel
theorem dX7_does_24 : decode cX7_does 24 = .ok (.invokevirtual 184, 3) := by decide +kernel
theorem dX7_does_27 : decode cX7_does 27 = .ok (.invokevirtual 195, 3) := by decide +kernel
theorem dX7_does_30 : decode cX7_does 30 = .ok (.ifCond .eq 7, 3) := by decide +kernel
theorem dX7_does_33 : decode cX7_does 33 = .ok (.iconst 1, 1) := by decide +kernel
theorem dX7_does_34 : decode cX7_does 34 = .ok (.goto 4, 3) := by decide +kernel
theorem dX7_does_37 : decode cX7_does 37 = .ok (.iconst 0, 1) := by decide +kernel
theorem dX7_does_38 : decode cX7_does 38 = .ok (.ireturn, 1) := by decide +kernel
set_option maxRecDepth 20000 in
theorem ggX7_nerve_X5_isThere : GoodIn wsX7_nerve wsX5_isThere := goodIn_r _ [6, 7, 8, 9, 10, 58, 59, 60, 61, 62, 63, 64, 65, 66, 67, 68, 69, 70] (by decide +kernel) (by decide +kernel)
set_option maxRecDepth 20000 in
theorem gX7_nerve_X5_isThere : GoodIn wsX7_nerve (wsV RX7 82 RX5 yX5_isThere wsX5_isThere) := goodIn_app (goodIn_of _ (by decide +kernel)) ggX7_nerve_X5_isThere
set_option maxRecDepth 20000 in
theorem ggX7_nerve_X7_within : GoodIn wsX7_nerve wsX7_within := goodIn_r _ [13] (by decide +kernel) (by decide +kernel)
set_option maxRecDepth 20000 in
theorem gX7_nerve_X7_within : GoodIn wsX7_nerve (va_wsS RX7 64 yX7_within wsX7_within) := goodIn_app (goodIn_of _ (by decide +kernel)) ggX7_nerve_X7_within
set_option maxRecDepth 20000 in
theorem ggX7_nerve_X5_surest : GoodIn wsX7_nerve wsX5_surest := goodIn_r _ [17, 18, 19, 20, 5, 21, 22, 23, 24, 25, 26, 27, 28, 29, 30, 8, 9, 10, 58, 59, 60, 61, 62, 63, 64, 65, 66, 67, 68, 69, 70] (by decide +kernel) (by decide +kernel)
set_option maxRecDepth 20000 in
theorem gX7_nerve_X5_surest : GoodIn wsX7_nerve (wsV RX7 198 RX5 yX5_surest wsX5_surest) := goodIn_app (goodIn_of _ (by decide +kernel)) ggX7_nerve_X5_surest
set_option maxRecDepth 20000 in
theorem ggX7_nerve_X5_leastRefused : GoodIn wsX7_nerve wsX5_leastRefused := goodIn_r _ [34, 35, 8, 9, 10, 36, 37, 38, 5, 39, 40, 41, 42, 43, 22, 44, 18, 19, 20, 21, 23, 24, 25, 26, 27, 28, 29, 30, 45, 46, 47, 58, 59, 60, 61, 62, 63, 64, 65, 66, 67, 68, 69, 70] (by decide +kernel) (by decide +kernel)
set_option maxRecDepth 20000 in
theorem gX7_nerve_X5_leastRefused : GoodIn wsX7_nerve (wsV RX7 201 RX5 yX5_leastRefused wsX5_leastRefused) := goodIn_app (goodIn_of _ (by decide +kernel)) ggX7_nerve_X5_leastRefused
theorem dX7_nerve_0 : decode cX7_nerve 0 = .ok (.aload_n 0, 1) := by decide +kernel
theorem dX7_nerve_1 : decode cX7_nerve 1 = .ok (.getfield 10, 3) := by decide +kernel
theorem dX7_nerve_4 : decode cX7_nerve 4 = .ok (.iload_n 1, 1) := by decide +kernel
theorem dX7_nerve_5 : decode cX7_nerve 5 = .ok (.invokevirtual 82, 3) := by decide +kernel
theorem dX7_nerve_8 : decode cX7_nerve 8 = .ok (.ifCond .ne 5, 3) := by decide +kernel
theorem dX7_nerve_11 : decode cX7_nerve 11 = .ok (.iconst (-1), 1) := by decide +kernel
theorem dX7_nerve_12 : decode cX7_nerve 12 = .ok (.ireturn, 1) := by decide +kernel
theorem dX7_nerve_13 : decode cX7_nerve 13 = .ok (.iload_n 2, 1) := by decide +kernel
theorem dX7_nerve_14 : decode cX7_nerve 14 = .ok (.iconst 0, 1) := by decide +kernel
theorem dX7_nerve_15 : decode cX7_nerve 15 = .ok (.iconst 2, 1) := by decide +kernel
theorem dX7_nerve_16 : decode cX7_nerve 16 = .ok (.invokestatic 64, 3) := by decide +kernel
theorem dX7_nerve_19 : decode cX7_nerve 19 = .ok (.ifCond .ne 6, 3) := by decide +kernel
theorem dX7_nerve_22 : decode cX7_nerve 22 = .ok (.bipush (-2), 2) := by decide +kernel
theorem dX7_nerve_24 : decode cX7_nerve 24 = .ok (.ireturn, 1) := by decide +kernel
theorem dX7_nerve_25 : decode cX7_nerve 25 = .ok (.iload_n 2, 1) := by decide +kernel
theorem dX7_nerve_26 : decode cX7_nerve 26 = .ok (.iconst 2, 1) := by decide +kernel
theorem dX7_nerve_27 : decode cX7_nerve 27 = .ok (.if_icmp .ne 12, 3) := by decide +kernel
theorem dX7_nerve_30 : decode cX7_nerve 30 = .ok (.aload_n 0, 1) := by decide +kernel
theorem dX7_nerve_31 : decode cX7_nerve 31 = .ok (.getfield 10, 3) := by decide +kernel
theorem dX7_nerve_34 : decode cX7_nerve 34 = .ok (.iload_n 1, 1) := by decide +kernel
theorem dX7_nerve_35 : decode cX7_nerve 35 = .ok (.invokevirtual 198, 3) := by decide +kernel
theorem dX7_nerve_38 : decode cX7_nerve 38 = .ok (.ireturn, 1) := by decide +kernel
theorem dX7_nerve_39 : decode cX7_nerve 39 = .ok (.aload_n 0, 1) := by decide +kernel
theorem dX7_nerve_40 : decode cX7_nerve 40 = .ok (.getfield 10, 3) := by decide +kernel
theorem dX7_nerve_43 : decode cX7_nerve 43 = .ok (.iload_n 1, 1) := by decide +kernel
theorem dX7_nerve_44 : decode cX7_nerve 44 = .ok (.invokevirtual 201, 3) := by decide +kernel
theorem dX7_nerve_47 : decode cX7_nerve 47 = .ok (.istore_n 3, 1) := by decide +kernel
theorem dX7_nerve_48 : decode cX7_nerve 48 = .ok (.iload_n 2, 1) := by decide +kernel
theorem dX7_nerve_49 : decode cX7_nerve 49 = .ok (.iconst 1, 1) := by decide +kernel
theorem dX7_nerve_50 : decode cX7_nerve 50 = .ok (.if_icmp .ne 16, 3) := by decide +kernel
theorem dX7_nerve_53 : decode cX7_nerve 53 = .ok (.iload_n 3, 1) := by decide +kernel
theorem dX7_nerve_54 : decode cX7_nerve 54 = .ok (.bipush 15, 2) := by decide +kernel
theorem dX7_nerve_56 : decode cX7_nerve 56 = .ok (.if_icmp .le 8, 3) := by decide +kernel
theorem dX7_nerve_59 : decode cX7_nerve 59 = .ok (.bipush (-6), 2) := by decide +kernel
theorem dX7_nerve_61 : decode cX7_nerve 61 = .ok (.goto 4, 3) := by decide +kernel
theorem dX7_nerve_64 : decode cX7_nerve 64 = .ok (.iload_n 3, 1) := by decide +kernel
theorem dX7_nerve_65 : decode cX7_nerve 65 = .ok (.ireturn, 1) := by decide +kernel
theorem dX7_nerve_66 : decode cX7_nerve 66 = .ok (.iload_n 3, 1) := by decide +kernel
theorem dX7_nerve_67 : decode cX7_nerve 67 = .ok (.iconst 1, 1) := by decide +kernel
theorem dX7_nerve_68 : decode cX7_nerve 68 = .ok (.isub, 1) := by decide +kernel
theorem dX7_nerve_69 : decode cX7_nerve 69 = .ok (.ireturn, 1) := by decide +kernel
set_option maxRecDepth 20000 in
theorem ggX7_climb_X7_refusalOfClimb : GoodIn wsX7_climb wsX7_refusalOfClimb := goodIn_r _ [10, 2, 11, 12, 13, 14, 15, 16, 17, 9, 18, 19, 20, 21, 79, 80, 81, 82, 83, 84, 85, 86, 87, 88, 93, 94, 95, 96, 97, 98, 99, 100, 101, 102, 103, 104, 105] (by decide +kernel) (by decide +kernel)
set_option maxRecDepth 20000 in
theorem gX7_climb_X7_refusalOfClimb : GoodIn wsX7_climb (wsV RX7 204 RX7 yX7_refusalOfClimb wsX7_refusalOfClimb) := goodIn_app (goodIn_of _ (by decide +kernel)) ggX7_climb_X7_refusalOfClimb
set_option maxRecDepth 20000 in
theorem ggX7_climb_X7_within : GoodIn wsX7_climb wsX7_within := goodIn_r _ [21] (by decide +kernel) (by decide +kernel)
set_option maxRecDepth 20000 in
theorem gX7_climb_X7_within : GoodIn wsX7_climb (va_wsS RX7 64 yX7_within wsX7_within) := goodIn_app (goodIn_of _ (by decide +kernel)) ggX7_climb_X7_within
set_option maxRecDepth 20000 in
theorem ggX7_climb_X1_go : GoodIn wsX7_climb wsX1_go := goodIn_r _ [26, 27, 28, 29, 30, 31, 32, 33, 34, 35, 36, 37, 38, 39, 40, 41, 42, 43, 44, 14, 45, 46, 17, 9, 18, 47, 48, 49, 50, 51, 52, 53, 54, 55, 56, 57, 58, 59, 60, 61, 62, 63, 64, 65, 66, 67, 68, 69, 70, 71, 72, 73, 74, 75, 76, 77, 78, 89, 90, 91, 92, 106, 107, 93, 94, 95, 96, 97, 98, 99, 100, 101, 102, 103, 104, 105] (by decide +kernel) (by decide +kernel)
set_option maxRecDepth 20000 in
theorem gX7_climb_X1_go : GoodIn wsX7_climb (wsV RX7 208 RX1 yX1_go wsX1_go) := goodIn_app (goodIn_of _ (by decide +kernel)) ggX7_climb_X1_go
theorem dX7_climb_0 : decode cX7_climb 0 = .ok (.aload_n 0, 1) := by decide +kernel
theorem dX7_climb_1 : decode cX7_climb 1 = .ok (.iload_n 1, 1) := by decide +kernel
theorem dX7_climb_2 : decode cX7_climb 2 = .ok (.iload_n 2, 1) := by decide +kernel
theorem dX7_climb_3 : decode cX7_climb 3 = .ok (.iload_n 3, 1) := by decide +kernel
theorem dX7_climb_4 : decode cX7_climb 4 = .ok (.iload 4, 2) := by decide +kernel
theorem dX7_climb_6 : decode cX7_climb 6 = .ok (.invokevirtual 204, 3) := by decide +kernel
theorem dX7_climb_9 : decode cX7_climb 9 = .ok (.istore 6, 2) := by decide +kernel
theorem dX7_climb_11 : decode cX7_climb 11 = .ok (.iload 6, 2) := by decide +kernel
theorem dX7_climb_13 : decode cX7_climb 13 = .ok (.ifCond .eq 6, 3) := by decide +kernel
theorem dX7_climb_16 : decode cX7_climb 16 = .ok (.iload 6, 2) := by decide +kernel
theorem dX7_climb_18 : decode cX7_climb 18 = .ok (.ireturn, 1) := by decide +kernel
theorem dX7_climb_19 : decode cX7_climb 19 = .ok (.iload 5, 2) := by decide +kernel
theorem dX7_climb_21 : decode cX7_climb 21 = .ok (.iconst 0, 1) := by decide +kernel
theorem dX7_climb_22 : decode cX7_climb 22 = .ok (.iconst 2, 1) := by decide +kernel
theorem dX7_climb_23 : decode cX7_climb 23 = .ok (.invokestatic 64, 3) := by decide +kernel
theorem dX7_climb_26 : decode cX7_climb 26 = .ok (.ifCond .ne 6, 3) := by decide +kernel
theorem dX7_climb_29 : decode cX7_climb 29 = .ok (.bipush (-2), 2) := by decide +kernel
theorem dX7_climb_31 : decode cX7_climb 31 = .ok (.ireturn, 1) := by decide +kernel
theorem dX7_climb_32 : decode cX7_climb 32 = .ok (.aload_n 0, 1) := by decide +kernel
theorem dX7_climb_33 : decode cX7_climb 33 = .ok (.getfield 46, 3) := by decide +kernel
theorem dX7_climb_36 : decode cX7_climb 36 = .ok (.aload_n 0, 1) := by decide +kernel
theorem dX7_climb_37 : decode cX7_climb 37 = .ok (.getfield 10, 3) := by decide +kernel
theorem dX7_climb_40 : decode cX7_climb 40 = .ok (.iload_n 1, 1) := by decide +kernel
theorem dX7_climb_41 : decode cX7_climb 41 = .ok (.iload_n 2, 1) := by decide +kernel
theorem dX7_climb_42 : decode cX7_climb 42 = .ok (.iload_n 3, 1) := by decide +kernel
theorem dX7_climb_43 : decode cX7_climb 43 = .ok (.iload 4, 2) := by decide +kernel
theorem dX7_climb_45 : decode cX7_climb 45 = .ok (.invokevirtual 208, 3) := by decide +kernel
theorem dX7_climb_48 : decode cX7_climb 48 = .ok (.iload 5, 2) := by decide +kernel
theorem dX7_climb_50 : decode cX7_climb 50 = .ok (.lookupswitch 42 #[(0, 26), (1, 34)], 26) := by decide +kernel
theorem dX7_climb_76 : decode cX7_climb 76 = .ok (.aload_n 0, 1) := by decide +kernel
theorem dX7_climb_77 : decode cX7_climb 77 = .ok (.getfield 46, 3) := by decide +kernel
theorem dX7_climb_80 : decode cX7_climb 80 = .ok (.getfield 211, 3) := by decide +kernel
theorem dX7_climb_83 : decode cX7_climb 83 = .ok (.ireturn, 1) := by decide +kernel
theorem dX7_climb_84 : decode cX7_climb 84 = .ok (.aload_n 0, 1) := by decide +kernel
theorem dX7_climb_85 : decode cX7_climb 85 = .ok (.getfield 46, 3) := by decide +kernel
theorem dX7_climb_88 : decode cX7_climb 88 = .ok (.getfield 212, 3) := by decide +kernel
theorem dX7_climb_91 : decode cX7_climb 91 = .ok (.ireturn, 1) := by decide +kernel
theorem dX7_climb_92 : decode cX7_climb 92 = .ok (.aload_n 0, 1) := by decide +kernel
theorem dX7_climb_93 : decode cX7_climb 93 = .ok (.getfield 46, 3) := by decide +kernel
theorem dX7_climb_96 : decode cX7_climb 96 = .ok (.getfield 215, 3) := by decide +kernel
theorem dX7_climb_99 : decode cX7_climb 99 = .ok (.ireturn, 1) := by decide +kernel
set_option maxRecDepth 20000 in
theorem ggX7_safe_X7_refusalOfClimb : GoodIn wsX7_safe wsX7_refusalOfClimb := goodIn_r _ [10, 4, 11, 12, 13, 14, 15, 16, 17, 9, 18, 19, 20, 21, 83, 84, 85, 86, 87, 88, 89, 90, 91, 92, 97, 98, 99, 100, 101, 102, 103, 104, 105, 106, 107, 108, 109] (by decide +kernel) (by decide +kernel)
set_option maxRecDepth 20000 in
theorem gX7_safe_X7_refusalOfClimb : GoodIn wsX7_safe (wsV RX7 204 RX7 yX7_refusalOfClimb wsX7_refusalOfClimb) := goodIn_app (goodIn_of _ (by decide +kernel)) ggX7_safe_X7_refusalOfClimb
set_option maxRecDepth 20000 in
theorem ggX7_safe_X7_within : GoodIn wsX7_safe wsX7_within := goodIn_r _ [21] (by decide +kernel) (by decide +kernel)
set_option maxRecDepth 20000 in
theorem gX7_safe_X7_within : GoodIn wsX7_safe (va_wsS RX7 64 yX7_within wsX7_within) := goodIn_app (goodIn_of _ (by decide +kernel)) ggX7_safe_X7_within
set_option maxRecDepth 20000 in
theorem ggX7_safe_X1_go : GoodIn wsX7_safe wsX1_go := goodIn_r _ [26, 27, 28, 29, 30, 31, 32, 33, 34, 35, 36, 37, 38, 39, 40, 41, 42, 43, 44, 14, 45, 46, 17, 9, 18, 47, 48, 49, 50, 51, 52, 53, 54, 55, 56, 57, 58, 59, 60, 61, 62, 63, 64, 65, 66, 67, 68, 69, 70, 71, 72, 73, 74, 75, 76, 77, 78, 93, 94, 95, 96, 110, 111, 97, 98, 99, 100, 101, 102, 103, 104, 105, 106, 107, 108, 109] (by decide +kernel) (by decide +kernel)
set_option maxRecDepth 20000 in
theorem gX7_safe_X1_go : GoodIn wsX7_safe (wsV RX7 208 RX1 yX1_go wsX1_go) := goodIn_app (goodIn_of _ (by decide +kernel)) ggX7_safe_X1_go
set_option maxRecDepth 20000 in
theorem ggX7_safe_X0_lowest : GoodIn wsX7_safe wsX0_lowest := goodIn_r _ [82, 41, 40, 110, 111] (by decide +kernel) (by decide +kernel)
set_option maxRecDepth 20000 in
theorem gX7_safe_X0_lowest : GoodIn wsX7_safe (wsV RX7 172 RX0 yX0_lowest wsX0_lowest) := goodIn_app (goodIn_of _ (by decide +kernel)) ggX7_safe_X0_lowest
theorem dX7_safe_0 : decode cX7_safe 0 = .ok (.aload_n 0, 1) := by decide +kernel
theorem dX7_safe_1 : decode cX7_safe 1 = .ok (.iload_n 1, 1) := by decide +kernel
theorem dX7_safe_2 : decode cX7_safe 2 = .ok (.iload_n 2, 1) := by decide +kernel
theorem dX7_safe_3 : decode cX7_safe 3 = .ok (.iload_n 3, 1) := by decide +kernel
theorem dX7_safe_4 : decode cX7_safe 4 = .ok (.iload 4, 2) := by decide +kernel
theorem dX7_safe_6 : decode cX7_safe 6 = .ok (.invokevirtual 204, 3) := by decide +kernel
theorem dX7_safe_9 : decode cX7_safe 9 = .ok (.istore 6, 2) := by decide +kernel
theorem dX7_safe_11 : decode cX7_safe 11 = .ok (.iload 6, 2) := by decide +kernel
theorem dX7_safe_13 : decode cX7_safe 13 = .ok (.ifCond .eq 11, 3) := by decide +kernel
theorem dX7_safe_16 : decode cX7_safe 16 = .ok (.ldc2_w 161, 3) := by decide +kernel
theorem dX7_safe_19 : decode cX7_safe 19 = .ok (.iload 6, 2) := by decide +kernel
theorem dX7_safe_21 : decode cX7_safe 21 = .ok (.i2l, 1) := by decide +kernel
theorem dX7_safe_22 : decode cX7_safe 22 = .ok (.ladd, 1) := by decide +kernel
theorem dX7_safe_23 : decode cX7_safe 23 = .ok (.lreturn, 1) := by decide +kernel
theorem dX7_safe_24 : decode cX7_safe 24 = .ok (.iload 5, 2) := by decide +kernel
theorem dX7_safe_26 : decode cX7_safe 26 = .ok (.iconst 0, 1) := by decide +kernel
theorem dX7_safe_27 : decode cX7_safe 27 = .ok (.iconst 1, 1) := by decide +kernel
theorem dX7_safe_28 : decode cX7_safe 28 = .ok (.invokestatic 64, 3) := by decide +kernel
theorem dX7_safe_31 : decode cX7_safe 31 = .ok (.ifCond .ne 7, 3) := by decide +kernel
theorem dX7_safe_34 : decode cX7_safe 34 = .ok (.ldc2_w 159, 3) := by decide +kernel
theorem dX7_safe_37 : decode cX7_safe 37 = .ok (.lreturn, 1) := by decide +kernel
theorem dX7_safe_38 : decode cX7_safe 38 = .ok (.aload_n 0, 1) := by decide +kernel
theorem dX7_safe_39 : decode cX7_safe 39 = .ok (.getfield 46, 3) := by decide +kernel
theorem dX7_safe_42 : decode cX7_safe 42 = .ok (.aload_n 0, 1) := by decide +kernel
theorem dX7_safe_43 : decode cX7_safe 43 = .ok (.getfield 10, 3) := by decide +kernel
theorem dX7_safe_46 : decode cX7_safe 46 = .ok (.iload_n 1, 1) := by decide +kernel
theorem dX7_safe_47 : decode cX7_safe 47 = .ok (.iload_n 2, 1) := by decide +kernel
theorem dX7_safe_48 : decode cX7_safe 48 = .ok (.iload_n 3, 1) := by decide +kernel
theorem dX7_safe_49 : decode cX7_safe 49 = .ok (.iload 4, 2) := by decide +kernel
theorem dX7_safe_51 : decode cX7_safe 51 = .ok (.invokevirtual 208, 3) := by decide +kernel
theorem dX7_safe_54 : decode cX7_safe 54 = .ok (.aload_n 0, 1) := by decide +kernel
theorem dX7_safe_55 : decode cX7_safe 55 = .ok (.getfield 46, 3) := by decide +kernel
theorem dX7_safe_58 : decode cX7_safe 58 = .ok (.getfield 218, 3) := by decide +kernel
theorem dX7_safe_61 : decode cX7_safe 61 = .ok (.iload 5, 2) := by decide +kernel
theorem dX7_safe_63 : decode cX7_safe 63 = .ok (.invokevirtual 172, 3) := by decide +kernel
theorem dX7_safe_66 : decode cX7_safe 66 = .ok (.lreturn, 1) := by decide +kernel
set_option maxRecDepth 20000 in
theorem ggX7_law_X7_refusalOfClimb : GoodIn wsX7_law wsX7_refusalOfClimb := goodIn_r _ [8, 2, 9, 10, 11, 12, 13, 14, 15, 7, 16, 17, 18, 19, 81, 82, 83, 84, 85, 86, 87, 88, 89, 90, 95, 96, 97, 98, 99, 100, 101, 102, 103, 104, 105, 106, 107] (by decide +kernel) (by decide +kernel)
set_option maxRecDepth 20000 in
theorem gX7_law_X7_refusalOfClimb : GoodIn wsX7_law (wsV RX7 204 RX7 yX7_refusalOfClimb wsX7_refusalOfClimb) := goodIn_app (goodIn_of _ (by decide +kernel)) ggX7_law_X7_refusalOfClimb
set_option maxRecDepth 20000 in
theorem ggX7_law_X7_within : GoodIn wsX7_law wsX7_within := goodIn_r _ [19] (by decide +kernel) (by decide +kernel)
set_option maxRecDepth 20000 in
theorem gX7_law_X7_within : GoodIn wsX7_law (va_wsS RX7 64 yX7_within wsX7_within) := goodIn_app (goodIn_of _ (by decide +kernel)) ggX7_law_X7_within
set_option maxRecDepth 20000 in
theorem ggX7_law_X1_go : GoodIn wsX7_law wsX1_go := goodIn_r _ [24, 25, 26, 27, 28, 29, 30, 31, 32, 33, 34, 35, 36, 37, 38, 39, 40, 41, 42, 12, 43, 44, 15, 7, 16, 45, 46, 47, 48, 49, 50, 51, 52, 53, 54, 55, 56, 57, 58, 59, 60, 61, 62, 63, 64, 65, 66, 67, 68, 69, 70, 71, 72, 73, 74, 75, 76, 91, 92, 93, 94, 108, 109, 95, 96, 97, 98, 99, 100, 101, 102, 103, 104, 105, 106, 107] (by decide +kernel) (by decide +kernel)
set_option maxRecDepth 20000 in
theorem gX7_law_X1_go : GoodIn wsX7_law (wsV RX7 208 RX1 yX1_go wsX1_go) := goodIn_app (goodIn_of _ (by decide +kernel)) ggX7_law_X1_go
set_option maxRecDepth 20000 in
theorem ggX7_law_X0_isAtLeast : GoodIn wsX7_law wsX0_isAtLeast := goodIn_r _ [80, 38, 39, 108, 109] (by decide +kernel) (by decide +kernel)
set_option maxRecDepth 20000 in
theorem gX7_law_X0_isAtLeast : GoodIn wsX7_law (wsV RX7 219 RX0 yX0_isAtLeast wsX0_isAtLeast) := goodIn_app (goodIn_of _ (by decide +kernel)) ggX7_law_X0_isAtLeast
theorem dX7_law_0 : decode cX7_law 0 = .ok (.aload_n 0, 1) := by decide +kernel
theorem dX7_law_1 : decode cX7_law 1 = .ok (.iload_n 1, 1) := by decide +kernel
theorem dX7_law_2 : decode cX7_law 2 = .ok (.iload_n 2, 1) := by decide +kernel
theorem dX7_law_3 : decode cX7_law 3 = .ok (.iload_n 3, 1) := by decide +kernel
theorem dX7_law_4 : decode cX7_law 4 = .ok (.bipush 15, 2) := by decide +kernel
theorem dX7_law_6 : decode cX7_law 6 = .ok (.invokevirtual 204, 3) := by decide +kernel
theorem dX7_law_9 : decode cX7_law 9 = .ok (.istore 6, 2) := by decide +kernel
theorem dX7_law_11 : decode cX7_law 11 = .ok (.iload 6, 2) := by decide +kernel
theorem dX7_law_13 : decode cX7_law 13 = .ok (.ifCond .eq 6, 3) := by decide +kernel
theorem dX7_law_16 : decode cX7_law 16 = .ok (.iload 6, 2) := by decide +kernel
theorem dX7_law_18 : decode cX7_law 18 = .ok (.ireturn, 1) := by decide +kernel
theorem dX7_law_19 : decode cX7_law 19 = .ok (.iload 5, 2) := by decide +kernel
theorem dX7_law_21 : decode cX7_law 21 = .ok (.iconst 1, 1) := by decide +kernel
theorem dX7_law_22 : decode cX7_law 22 = .ok (.bipush 100, 2) := by decide +kernel
theorem dX7_law_24 : decode cX7_law 24 = .ok (.invokestatic 64, 3) := by decide +kernel
theorem dX7_law_27 : decode cX7_law 27 = .ok (.ifCond .eq 14, 3) := by decide +kernel
theorem dX7_law_30 : decode cX7_law 30 = .ok (.iload 4, 2) := by decide +kernel
theorem dX7_law_32 : decode cX7_law 32 = .ok (.iconst 0, 1) := by decide +kernel
theorem dX7_law_33 : decode cX7_law 33 = .ok (.iload 5, 2) := by decide +kernel
theorem dX7_law_35 : decode cX7_law 35 = .ok (.invokestatic 64, 3) := by decide +kernel
theorem dX7_law_38 : decode cX7_law 38 = .ok (.ifCond .ne 6, 3) := by decide +kernel
theorem dX7_law_41 : decode cX7_law 41 = .ok (.bipush (-2), 2) := by decide +kernel
theorem dX7_law_43 : decode cX7_law 43 = .ok (.ireturn, 1) := by decide +kernel
theorem dX7_law_44 : decode cX7_law 44 = .ok (.bipush 15, 2) := by decide +kernel
theorem dX7_law_46 : decode cX7_law 46 = .ok (.istore 7, 2) := by decide +kernel
theorem dX7_law_48 : decode cX7_law 48 = .ok (.iload 7, 2) := by decide +kernel
theorem dX7_law_50 : decode cX7_law 50 = .ok (.iload_n 3, 1) := by decide +kernel
theorem dX7_law_51 : decode cX7_law 51 = .ok (.if_icmp .lt 45, 3) := by decide +kernel
theorem dX7_law_54 : decode cX7_law 54 = .ok (.aload_n 0, 1) := by decide +kernel
theorem dX7_law_55 : decode cX7_law 55 = .ok (.getfield 46, 3) := by decide +kernel
theorem dX7_law_58 : decode cX7_law 58 = .ok (.aload_n 0, 1) := by decide +kernel
theorem dX7_law_59 : decode cX7_law 59 = .ok (.getfield 10, 3) := by decide +kernel
theorem dX7_law_62 : decode cX7_law 62 = .ok (.iload_n 1, 1) := by decide +kernel
theorem dX7_law_63 : decode cX7_law 63 = .ok (.iload_n 2, 1) := by decide +kernel
theorem dX7_law_64 : decode cX7_law 64 = .ok (.iload_n 3, 1) := by decide +kernel
theorem dX7_law_65 : decode cX7_law 65 = .ok (.iload 7, 2) := by decide +kernel
theorem dX7_law_67 : decode cX7_law 67 = .ok (.invokevirtual 208, 3) := by decide +kernel
theorem dX7_law_70 : decode cX7_law 70 = .ok (.aload_n 0, 1) := by decide +kernel
theorem dX7_law_71 : decode cX7_law 71 = .ok (.getfield 46, 3) := by decide +kernel
theorem dX7_law_74 : decode cX7_law 74 = .ok (.getfield 218, 3) := by decide +kernel
theorem dX7_law_77 : decode cX7_law 77 = .ok (.iload 4, 2) := by decide +kernel
theorem dX7_law_79 : decode cX7_law 79 = .ok (.iload 5, 2) := by decide +kernel
theorem dX7_law_81 : decode cX7_law 81 = .ok (.invokevirtual 219, 3) := by decide +kernel
theorem dX7_law_84 : decode cX7_law 84 = .ok (.ifCond .eq 6, 3) := by decide +kernel
theorem dX7_law_87 : decode cX7_law 87 = .ok (.iload 7, 2) := by decide +kernel
theorem dX7_law_89 : decode cX7_law 89 = .ok (.ireturn, 1) := by decide +kernel
theorem dX7_law_90 : decode cX7_law 90 = .ok (.iinc 7 (-1), 3) := by decide +kernel
theorem dX7_law_93 : decode cX7_law 93 = .ok (.goto (-45), 3) := by decide +kernel
theorem dX7_law_96 : decode cX7_law 96 = .ok (.bipush (-6), 2) := by decide +kernel
theorem dX7_law_98 : decode cX7_law 98 = .ok (.ireturn, 1) := by decide +kernel
set_option maxRecDepth 20000 in
theorem ggX7_game_X7_refusalOfClimb : GoodIn wsX7_game wsX7_refusalOfClimb := goodIn_r _ [11, 2, 12, 13, 14, 15, 16, 17, 18, 10, 19, 20, 21, 22, 70, 71, 72, 73, 74, 75, 76, 77, 78, 79, 83, 84, 85, 86, 87, 88, 89, 90, 91, 92, 93, 94, 95] (by decide +kernel) (by decide +kernel)
set_option maxRecDepth 20000 in
theorem gX7_game_X7_refusalOfClimb : GoodIn wsX7_game (wsV RX7 204 RX7 yX7_refusalOfClimb wsX7_refusalOfClimb) := goodIn_app (goodIn_of _ (by decide +kernel)) ggX7_game_X7_refusalOfClimb
set_option maxRecDepth 20000 in
theorem ggX7_game_X7_within : GoodIn wsX7_game wsX7_within := goodIn_r _ [22] (by decide +kernel) (by decide +kernel)
set_option maxRecDepth 20000 in
theorem gX7_game_X7_within : GoodIn wsX7_game (va_wsS RX7 64 yX7_within wsX7_within) := goodIn_app (goodIn_of _ (by decide +kernel)) ggX7_game_X7_within
set_option maxRecDepth 20000 in
theorem ggX7_game_X2_solve : GoodIn wsX7_game wsX2_solve := goodIn_r _ [27, 28, 29, 30, 31, 32, 33, 34, 35, 36, 37, 15, 38, 39, 18, 10, 19, 40, 41, 42, 26, 43, 44, 45, 46, 47, 48, 49, 50, 51, 52, 53, 54, 55, 56, 57, 58, 59, 60, 61, 62, 63, 64, 65, 66, 67, 68, 69, 80, 81, 82, 83, 84, 85, 86, 87, 88, 89, 90, 91, 92, 93, 94, 95] (by decide +kernel) (by decide +kernel)
set_option maxRecDepth 20000 in
theorem gX7_game_X2_solve : GoodIn wsX7_game (wsV RX7 223 RX2 yX2_solve wsX2_solve) := goodIn_app (goodIn_of _ (by decide +kernel)) ggX7_game_X2_solve
theorem dX7_game_0 : decode cX7_game 0 = .ok (.aload_n 0, 1) := by decide +kernel
theorem dX7_game_1 : decode cX7_game 1 = .ok (.iload_n 1, 1) := by decide +kernel
theorem dX7_game_2 : decode cX7_game 2 = .ok (.iload_n 2, 1) := by decide +kernel
theorem dX7_game_3 : decode cX7_game 3 = .ok (.iload_n 3, 1) := by decide +kernel
theorem dX7_game_4 : decode cX7_game 4 = .ok (.iload 4, 2) := by decide +kernel
theorem dX7_game_6 : decode cX7_game 6 = .ok (.invokevirtual 204, 3) := by decide +kernel
theorem dX7_game_9 : decode cX7_game 9 = .ok (.istore 6, 2) := by decide +kernel
theorem dX7_game_11 : decode cX7_game 11 = .ok (.iload 6, 2) := by decide +kernel
theorem dX7_game_13 : decode cX7_game 13 = .ok (.ifCond .eq 6, 3) := by decide +kernel
theorem dX7_game_16 : decode cX7_game 16 = .ok (.iload 6, 2) := by decide +kernel
theorem dX7_game_18 : decode cX7_game 18 = .ok (.ireturn, 1) := by decide +kernel
theorem dX7_game_19 : decode cX7_game 19 = .ok (.iload 5, 2) := by decide +kernel
theorem dX7_game_21 : decode cX7_game 21 = .ok (.iconst 0, 1) := by decide +kernel
theorem dX7_game_22 : decode cX7_game 22 = .ok (.iconst 2, 1) := by decide +kernel
theorem dX7_game_23 : decode cX7_game 23 = .ok (.invokestatic 64, 3) := by decide +kernel
theorem dX7_game_26 : decode cX7_game 26 = .ok (.ifCond .ne 6, 3) := by decide +kernel
theorem dX7_game_29 : decode cX7_game 29 = .ok (.bipush (-2), 2) := by decide +kernel
theorem dX7_game_31 : decode cX7_game 31 = .ok (.ireturn, 1) := by decide +kernel
theorem dX7_game_32 : decode cX7_game 32 = .ok (.aload_n 0, 1) := by decide +kernel
theorem dX7_game_33 : decode cX7_game 33 = .ok (.getfield 53, 3) := by decide +kernel
theorem dX7_game_36 : decode cX7_game 36 = .ok (.aload_n 0, 1) := by decide +kernel
theorem dX7_game_37 : decode cX7_game 37 = .ok (.getfield 10, 3) := by decide +kernel
theorem dX7_game_40 : decode cX7_game 40 = .ok (.iload_n 1, 1) := by decide +kernel
theorem dX7_game_41 : decode cX7_game 41 = .ok (.iload_n 2, 1) := by decide +kernel
theorem dX7_game_42 : decode cX7_game 42 = .ok (.iload_n 3, 1) := by decide +kernel
theorem dX7_game_43 : decode cX7_game 43 = .ok (.iload 4, 2) := by decide +kernel
theorem dX7_game_45 : decode cX7_game 45 = .ok (.invokevirtual 223, 3) := by decide +kernel
theorem dX7_game_48 : decode cX7_game 48 = .ok (.iload 5, 2) := by decide +kernel
theorem dX7_game_50 : decode cX7_game 50 = .ok (.lookupswitch 45 #[(0, 26), (1, 34)], 26) := by decide +kernel
theorem dX7_game_76 : decode cX7_game 76 = .ok (.aload_n 0, 1) := by decide +kernel
theorem dX7_game_77 : decode cX7_game 77 = .ok (.getfield 53, 3) := by decide +kernel
theorem dX7_game_80 : decode cX7_game 80 = .ok (.getfield 226, 3) := by decide +kernel
theorem dX7_game_83 : decode cX7_game 83 = .ok (.ireturn, 1) := by decide +kernel
theorem dX7_game_84 : decode cX7_game 84 = .ok (.ldc 187, 2) := by decide +kernel
theorem dX7_game_86 : decode cX7_game 86 = .ok (.aload_n 0, 1) := by decide +kernel
theorem dX7_game_87 : decode cX7_game 87 = .ok (.getfield 53, 3) := by decide +kernel
theorem dX7_game_90 : decode cX7_game 90 = .ok (.getfield 229, 3) := by decide +kernel
theorem dX7_game_93 : decode cX7_game 93 = .ok (.iadd, 1) := by decide +kernel
theorem dX7_game_94 : decode cX7_game 94 = .ok (.ireturn, 1) := by decide +kernel
theorem dX7_game_95 : decode cX7_game 95 = .ok (.ldc 187, 2) := by decide +kernel
theorem dX7_game_97 : decode cX7_game 97 = .ok (.aload_n 0, 1) := by decide +kernel
theorem dX7_game_98 : decode cX7_game 98 = .ok (.getfield 53, 3) := by decide +kernel
theorem dX7_game_101 : decode cX7_game 101 = .ok (.getfield 232, 3) := by decide +kernel
theorem dX7_game_104 : decode cX7_game 104 = .ok (.iadd, 1) := by decide +kernel
theorem dX7_game_105 : decode cX7_game 105 = .ok (.ireturn, 1) := by decide +kernel
set_option maxRecDepth 20000 in
theorem ggX7_enough_X5_isThere : GoodIn wsX7_enough wsX5_isThere := goodIn_r _ [6, 7, 8, 9, 10, 39, 40, 41, 42, 43, 44, 45, 46, 47, 48, 49, 50, 51] (by decide +kernel) (by decide +kernel)
set_option maxRecDepth 20000 in
theorem gX7_enough_X5_isThere : GoodIn wsX7_enough (wsV RX7 82 RX5 yX5_isThere wsX5_isThere) := goodIn_app (goodIn_of _ (by decide +kernel)) ggX7_enough_X5_isThere
set_option maxRecDepth 20000 in
theorem ggX7_enough_X5_joined : GoodIn wsX7_enough wsX5_joined := goodIn_r _ [14, 15, 16, 17, 5, 18, 19, 20, 21, 22, 23, 24, 25, 26, 27, 28, 3, 4, 6, 7, 8, 9, 10, 39, 40, 41, 42, 43, 44, 45, 46, 47, 48, 49, 50, 51] (by decide +kernel) (by decide +kernel)
set_option maxRecDepth 20000 in
theorem gX7_enough_X5_joined : GoodIn wsX7_enough (wsV RX7 235 RX5 yX5_joined wsX5_joined) := goodIn_app (goodIn_of _ (by decide +kernel)) ggX7_enough_X5_joined
theorem dX7_enough_0 : decode cX7_enough 0 = .ok (.aload_n 0, 1) := by decide +kernel
theorem dX7_enough_1 : decode cX7_enough 1 = .ok (.getfield 10, 3) := by decide +kernel
theorem dX7_enough_4 : decode cX7_enough 4 = .ok (.iload_n 1, 1) := by decide +kernel
theorem dX7_enough_5 : decode cX7_enough 5 = .ok (.invokevirtual 82, 3) := by decide +kernel
theorem dX7_enough_8 : decode cX7_enough 8 = .ok (.ifCond .eq 16, 3) := by decide +kernel
theorem dX7_enough_11 : decode cX7_enough 11 = .ok (.aload_n 0, 1) := by decide +kernel
theorem dX7_enough_12 : decode cX7_enough 12 = .ok (.getfield 10, 3) := by decide +kernel
theorem dX7_enough_15 : decode cX7_enough 15 = .ok (.iconst 1, 1) := by decide +kernel
theorem dX7_enough_16 : decode cX7_enough 16 = .ok (.iload_n 1, 1) := by decide +kernel
theorem dX7_enough_17 : decode cX7_enough 17 = .ok (.ishl, 1) := by decide +kernel
theorem dX7_enough_18 : decode cX7_enough 18 = .ok (.invokevirtual 235, 3) := by decide +kernel
theorem dX7_enough_21 : decode cX7_enough 21 = .ok (.goto 4, 3) := by decide +kernel
theorem dX7_enough_24 : decode cX7_enough 24 = .ok (.iconst (-1), 1) := by decide +kernel
theorem dX7_enough_25 : decode cX7_enough 25 = .ok (.ireturn, 1) := by decide +kernel
set_option maxRecDepth 20000 in
theorem ggX7_holds_X5_isThere : GoodIn wsX7_holds wsX5_isThere := goodIn_r _ [6, 7, 8, 9, 10, 47, 48, 49, 50, 51, 52, 53, 54, 55, 56, 57, 58, 59] (by decide +kernel) (by decide +kernel)
set_option maxRecDepth 20000 in
theorem gX7_holds_X5_isThere : GoodIn wsX7_holds (wsV RX7 82 RX5 yX5_isThere wsX5_isThere) := goodIn_app (goodIn_of _ (by decide +kernel)) ggX7_holds_X5_isThere
set_option maxRecDepth 20000 in
theorem ggX7_holds_X5_joined : GoodIn wsX7_holds wsX5_joined := goodIn_r _ [14, 15, 16, 17, 5, 18, 19, 20, 21, 22, 23, 24, 25, 26, 27, 28, 3, 4, 6, 7, 8, 9, 10, 47, 48, 49, 50, 51, 52, 53, 54, 55, 56, 57, 58, 59] (by decide +kernel) (by decide +kernel)
set_option maxRecDepth 20000 in
theorem gX7_holds_X5_joined : GoodIn wsX7_holds (wsV RX7 235 RX5 yX5_joined wsX5_joined) := goodIn_app (goodIn_of _ (by decide +kernel)) ggX7_holds_X5_joined
set_option maxRecDepth 20000 in
theorem ggX7_holds_X5_isMost : GoodIn wsX7_holds wsX5_isMost := goodIn_r _ [32, 21, 22, 23, 24, 25, 26, 27, 33, 34, 35, 5, 36, 7, 8, 9, 10, 47, 48, 49, 50, 51, 52, 53, 54, 55, 56, 57, 58, 59] (by decide +kernel) (by decide +kernel)
set_option maxRecDepth 20000 in
theorem gX7_holds_X5_isMost : GoodIn wsX7_holds (wsV RX7 238 RX5 yX5_isMost wsX5_isMost) := goodIn_app (goodIn_of _ (by decide +kernel)) ggX7_holds_X5_isMost
theorem dX7_holds_0 : decode cX7_holds 0 = .ok (.aload_n 0, 1) := by decide +kernel
theorem dX7_holds_1 : decode cX7_holds 1 = .ok (.getfield 10, 3) := by decide +kernel
theorem dX7_holds_4 : decode cX7_holds 4 = .ok (.iload_n 1, 1) := by decide +kernel
theorem dX7_holds_5 : decode cX7_holds 5 = .ok (.invokevirtual 82, 3) := by decide +kernel
theorem dX7_holds_8 : decode cX7_holds 8 = .ok (.ifCond .ne 5, 3) := by decide +kernel
theorem dX7_holds_11 : decode cX7_holds 11 = .ok (.iconst (-1), 1) := by decide +kernel
theorem dX7_holds_12 : decode cX7_holds 12 = .ok (.ireturn, 1) := by decide +kernel
theorem dX7_holds_13 : decode cX7_holds 13 = .ok (.aload_n 0, 1) := by decide +kernel
theorem dX7_holds_14 : decode cX7_holds 14 = .ok (.getfield 10, 3) := by decide +kernel
theorem dX7_holds_17 : decode cX7_holds 17 = .ok (.aload_n 0, 1) := by decide +kernel
theorem dX7_holds_18 : decode cX7_holds 18 = .ok (.getfield 10, 3) := by decide +kernel
theorem dX7_holds_21 : decode cX7_holds 21 = .ok (.iconst 1, 1) := by decide +kernel
theorem dX7_holds_22 : decode cX7_holds 22 = .ok (.iload_n 1, 1) := by decide +kernel
theorem dX7_holds_23 : decode cX7_holds 23 = .ok (.ishl, 1) := by decide +kernel
theorem dX7_holds_24 : decode cX7_holds 24 = .ok (.invokevirtual 235, 3) := by decide +kernel
theorem dX7_holds_27 : decode cX7_holds 27 = .ok (.invokevirtual 238, 3) := by decide +kernel
theorem dX7_holds_30 : decode cX7_holds 30 = .ok (.ifCond .eq 7, 3) := by decide +kernel
theorem dX7_holds_33 : decode cX7_holds 33 = .ok (.iconst 1, 1) := by decide +kernel
theorem dX7_holds_34 : decode cX7_holds 34 = .ok (.goto 4, 3) := by decide +kernel
theorem dX7_holds_37 : decode cX7_holds 37 = .ok (.iconst 0, 1) := by decide +kernel
theorem dX7_holds_38 : decode cX7_holds 38 = .ok (.ireturn, 1) := by decide +kernel
set_option maxRecDepth 20000 in
theorem ggX7_won_X7_within : GoodIn wsX7_won wsX7_within := goodIn_r _ [5] (by decide +kernel) (by decide +kernel)
set_option maxRecDepth 20000 in
theorem gX7_won_X7_within : GoodIn wsX7_won (va_wsS RX7 64 yX7_within wsX7_within) := goodIn_app (goodIn_of _ (by decide +kernel)) ggX7_won_X7_within
set_option maxRecDepth 20000 in
theorem ggX7_won_X5_fewestToHold : GoodIn wsX7_won wsX5_fewestToHold := goodIn_r _ [10, 11, 12, 13, 14, 9, 15, 16, 17, 4, 18, 19, 20, 21, 22, 23, 24, 25, 26, 27, 28, 29, 30, 31, 32, 33, 34, 35, 36, 37, 38, 39, 40, 41, 42, 54, 55, 56, 57, 58, 59, 60, 61, 62, 63, 64, 65, 66] (by decide +kernel) (by decide +kernel)
set_option maxRecDepth 20000 in
theorem gX7_won_X5_fewestToHold : GoodIn wsX7_won (wsV RX7 241 RX5 yX5_fewestToHold wsX5_fewestToHold) := goodIn_app (goodIn_of _ (by decide +kernel)) ggX7_won_X5_fewestToHold
set_option maxRecDepth 20000 in
theorem ggX7_won_J6_bitCount_0f7a4 : GoodIn wsX7_won wsJ6_bitCount_0f7a4 := goodIn_r _ [22, 23, 24, 25] (by decide +kernel) (by decide +kernel)
set_option maxRecDepth 20000 in
theorem gX7_won_J6_bitCount_0f7a4 : GoodIn wsX7_won (va_wsS RX7 76 yJ6_bitCount_0f7a4 wsJ6_bitCount_0f7a4) := goodIn_app (goodIn_of _ (by decide +kernel)) ggX7_won_J6_bitCount_0f7a4
theorem dX7_won_0 : decode cX7_won 0 = .ok (.iload_n 1, 1) := by decide +kernel
theorem dX7_won_1 : decode cX7_won 1 = .ok (.iconst 0, 1) := by decide +kernel
theorem dX7_won_2 : decode cX7_won 2 = .ok (.iconst 1, 1) := by decide +kernel
theorem dX7_won_3 : decode cX7_won 3 = .ok (.invokestatic 64, 3) := by decide +kernel
theorem dX7_won_6 : decode cX7_won 6 = .ok (.ifCond .ne 6, 3) := by decide +kernel
theorem dX7_won_9 : decode cX7_won 9 = .ok (.bipush (-2), 2) := by decide +kernel
theorem dX7_won_11 : decode cX7_won 11 = .ok (.ireturn, 1) := by decide +kernel
theorem dX7_won_12 : decode cX7_won 12 = .ok (.aload_n 0, 1) := by decide +kernel
theorem dX7_won_13 : decode cX7_won 13 = .ok (.getfield 10, 3) := by decide +kernel
theorem dX7_won_16 : decode cX7_won 16 = .ok (.invokevirtual 241, 3) := by decide +kernel
theorem dX7_won_19 : decode cX7_won 19 = .ok (.istore_n 2, 1) := by decide +kernel
theorem dX7_won_20 : decode cX7_won 20 = .ok (.iload_n 2, 1) := by decide +kernel
theorem dX7_won_21 : decode cX7_won 21 = .ok (.ifCond .ne 6, 3) := by decide +kernel
theorem dX7_won_24 : decode cX7_won 24 = .ok (.bipush (-6), 2) := by decide +kernel
theorem dX7_won_26 : decode cX7_won 26 = .ok (.ireturn, 1) := by decide +kernel
theorem dX7_won_27 : decode cX7_won 27 = .ok (.iload_n 1, 1) := by decide +kernel
theorem dX7_won_28 : decode cX7_won 28 = .ok (.ifCond .ne 10, 3) := by decide +kernel
theorem dX7_won_31 : decode cX7_won 31 = .ok (.iload_n 2, 1) := by decide +kernel
theorem dX7_won_32 : decode cX7_won 32 = .ok (.invokestatic 76, 3) := by decide +kernel
theorem dX7_won_35 : decode cX7_won 35 = .ok (.goto 4, 3) := by decide +kernel
theorem dX7_won_38 : decode cX7_won 38 = .ok (.iload_n 2, 1) := by decide +kernel
theorem dX7_won_39 : decode cX7_won 39 = .ok (.ireturn, 1) := by decide +kernel
set_option maxRecDepth 20000 in
theorem ggX7_refuser_X7_refusalOfHeight : GoodIn wsX7_refuser wsX7_refusalOfHeight := goodIn_r _ [6, 1, 7, 8, 9, 10, 11, 12, 13, 5, 14, 15, 16, 17, 51, 52, 53, 54, 55, 56, 57, 58, 59, 60, 61, 62, 63, 64, 65, 66, 67, 68, 69, 70, 71, 72, 73] (by decide +kernel) (by decide +kernel)
set_option maxRecDepth 20000 in
theorem gX7_refuser_X7_refusalOfHeight : GoodIn wsX7_refuser (wsV RX7 178 RX7 yX7_refusalOfHeight wsX7_refusalOfHeight) := goodIn_app (goodIn_of _ (by decide +kernel)) ggX7_refuser_X7_refusalOfHeight
set_option maxRecDepth 20000 in
theorem ggX7_refuser_X5_wouldRefuse : GoodIn wsX7_refuser wsX5_wouldRefuse := goodIn_r _ [21, 22, 23, 24, 25, 8, 9, 10, 11, 12, 13, 5, 14, 26, 27, 28, 29, 30, 31, 32, 33, 34, 35, 36, 37, 38, 39, 40, 41, 42, 43, 44, 45, 46, 47, 48, 49, 50, 61, 62, 63, 64, 65, 66, 67, 68, 69, 70, 71, 72, 73] (by decide +kernel) (by decide +kernel)
set_option maxRecDepth 20000 in
theorem gX7_refuser_X5_wouldRefuse : GoodIn wsX7_refuser (wsV RX7 244 RX5 yX5_wouldRefuse wsX5_wouldRefuse) := goodIn_app (goodIn_of _ (by decide +kernel)) ggX7_refuser_X5_wouldRefuse
theorem dX7_refuser_0 : decode cX7_refuser 0 = .ok (.aload_n 0, 1) := by decide +kernel
theorem dX7_refuser_1 : decode cX7_refuser 1 = .ok (.iload_n 1, 1) := by decide +kernel
theorem dX7_refuser_2 : decode cX7_refuser 2 = .ok (.iload_n 2, 1) := by decide +kernel
theorem dX7_refuser_3 : decode cX7_refuser 3 = .ok (.invokevirtual 178, 3) := by decide +kernel
theorem dX7_refuser_6 : decode cX7_refuser 6 = .ok (.istore_n 3, 1) := by decide +kernel
theorem dX7_refuser_7 : decode cX7_refuser 7 = .ok (.iload_n 3, 1) := by decide +kernel
theorem dX7_refuser_8 : decode cX7_refuser 8 = .ok (.ifCond .eq 5, 3) := by decide +kernel
theorem dX7_refuser_11 : decode cX7_refuser 11 = .ok (.iload_n 3, 1) := by decide +kernel
theorem dX7_refuser_12 : decode cX7_refuser 12 = .ok (.ireturn, 1) := by decide +kernel
theorem dX7_refuser_13 : decode cX7_refuser 13 = .ok (.iconst 0, 1) := by decide +kernel
theorem dX7_refuser_14 : decode cX7_refuser 14 = .ok (.istore 4, 2) := by decide +kernel
theorem dX7_refuser_16 : decode cX7_refuser 16 = .ok (.iload 4, 2) := by decide +kernel
theorem dX7_refuser_18 : decode cX7_refuser 18 = .ok (.bipush 6, 2) := by decide +kernel
theorem dX7_refuser_20 : decode cX7_refuser 20 = .ok (.if_icmp .ge 31, 3) := by decide +kernel
theorem dX7_refuser_23 : decode cX7_refuser 23 = .ok (.iload 4, 2) := by decide +kernel
theorem dX7_refuser_25 : decode cX7_refuser 25 = .ok (.iload_n 1, 1) := by decide +kernel
theorem dX7_refuser_26 : decode cX7_refuser 26 = .ok (.if_icmp .eq 19, 3) := by decide +kernel
theorem dX7_refuser_29 : decode cX7_refuser 29 = .ok (.aload_n 0, 1) := by decide +kernel
theorem dX7_refuser_30 : decode cX7_refuser 30 = .ok (.getfield 10, 3) := by decide +kernel
theorem dX7_refuser_33 : decode cX7_refuser 33 = .ok (.iload 4, 2) := by decide +kernel
theorem dX7_refuser_35 : decode cX7_refuser 35 = .ok (.iload_n 2, 1) := by decide +kernel
theorem dX7_refuser_36 : decode cX7_refuser 36 = .ok (.invokevirtual 244, 3) := by decide +kernel
theorem dX7_refuser_39 : decode cX7_refuser 39 = .ok (.ifCond .eq 6, 3) := by decide +kernel
theorem dX7_refuser_42 : decode cX7_refuser 42 = .ok (.iload 4, 2) := by decide +kernel
theorem dX7_refuser_44 : decode cX7_refuser 44 = .ok (.ireturn, 1) := by decide +kernel
theorem dX7_refuser_45 : decode cX7_refuser 45 = .ok (.iinc 4 1, 3) := by decide +kernel
theorem dX7_refuser_48 : decode cX7_refuser 48 = .ok (.goto (-32), 3) := by decide +kernel
theorem dX7_refuser_51 : decode cX7_refuser 51 = .ok (.bipush (-6), 2) := by decide +kernel
theorem dX7_refuser_53 : decode cX7_refuser 53 = .ok (.ireturn, 1) := by decide +kernel
set_option maxRecDepth 20000 in
theorem ggX7_likely_X7_refusalOfHeight : GoodIn wsX7_likely wsX7_refusalOfHeight := goodIn_r _ [6, 1, 7, 8, 9, 10, 11, 12, 13, 5, 14, 15, 16, 17, 43, 44, 45, 46, 47, 48, 49, 50, 51, 52, 53, 54, 55, 56, 57, 58, 59, 60, 61, 62, 63, 64, 65] (by decide +kernel) (by decide +kernel)
set_option maxRecDepth 20000 in
theorem gX7_likely_X7_refusalOfHeight : GoodIn wsX7_likely (wsV RX7 178 RX7 yX7_refusalOfHeight wsX7_refusalOfHeight) := goodIn_app (goodIn_of _ (by decide +kernel)) ggX7_likely_X7_refusalOfHeight
set_option maxRecDepth 20000 in
theorem ggX7_likely_X5_dares : GoodIn wsX7_likely wsX5_dares := goodIn_r _ [21, 22, 23, 24, 10, 25, 26, 27, 13, 5, 14, 28, 29, 30, 31, 32, 33, 34, 35, 36, 37, 38, 39, 40, 41, 42, 53, 54, 55, 56, 57, 58, 59, 60, 61, 62, 63, 64, 65] (by decide +kernel) (by decide +kernel)
set_option maxRecDepth 20000 in
theorem gX7_likely_X5_dares : GoodIn wsX7_likely (wsV RX7 195 RX5 yX5_dares wsX5_dares) := goodIn_app (goodIn_of _ (by decide +kernel)) ggX7_likely_X5_dares
theorem dX7_likely_0 : decode cX7_likely 0 = .ok (.aload_n 0, 1) := by decide +kernel
theorem dX7_likely_1 : decode cX7_likely 1 = .ok (.iload_n 1, 1) := by decide +kernel
theorem dX7_likely_2 : decode cX7_likely 2 = .ok (.iload_n 2, 1) := by decide +kernel
theorem dX7_likely_3 : decode cX7_likely 3 = .ok (.invokevirtual 178, 3) := by decide +kernel
theorem dX7_likely_6 : decode cX7_likely 6 = .ok (.istore_n 3, 1) := by decide +kernel
theorem dX7_likely_7 : decode cX7_likely 7 = .ok (.iload_n 3, 1) := by decide +kernel
theorem dX7_likely_8 : decode cX7_likely 8 = .ok (.ifCond .eq 5, 3) := by decide +kernel
theorem dX7_likely_11 : decode cX7_likely 11 = .ok (.iload_n 3, 1) := by decide +kernel
theorem dX7_likely_12 : decode cX7_likely 12 = .ok (.ireturn, 1) := by decide +kernel
theorem dX7_likely_13 : decode cX7_likely 13 = .ok (.iconst 0, 1) := by decide +kernel
theorem dX7_likely_14 : decode cX7_likely 14 = .ok (.istore 4, 2) := by decide +kernel
theorem dX7_likely_16 : decode cX7_likely 16 = .ok (.iconst 0, 1) := by decide +kernel
theorem dX7_likely_17 : decode cX7_likely 17 = .ok (.istore 5, 2) := by decide +kernel
theorem dX7_likely_19 : decode cX7_likely 19 = .ok (.iload 5, 2) := by decide +kernel
theorem dX7_likely_21 : decode cX7_likely 21 = .ok (.bipush 9, 2) := by decide +kernel
theorem dX7_likely_23 : decode cX7_likely 23 = .ok (.if_icmp .gt 26, 3) := by decide +kernel
theorem dX7_likely_26 : decode cX7_likely 26 = .ok (.aload_n 0, 1) := by decide +kernel
theorem dX7_likely_27 : decode cX7_likely 27 = .ok (.getfield 10, 3) := by decide +kernel
theorem dX7_likely_30 : decode cX7_likely 30 = .ok (.iload_n 1, 1) := by decide +kernel
theorem dX7_likely_31 : decode cX7_likely 31 = .ok (.iload_n 2, 1) := by decide +kernel
theorem dX7_likely_32 : decode cX7_likely 32 = .ok (.iload 5, 2) := by decide +kernel
theorem dX7_likely_34 : decode cX7_likely 34 = .ok (.invokevirtual 195, 3) := by decide +kernel
theorem dX7_likely_37 : decode cX7_likely 37 = .ok (.ifCond .eq 6, 3) := by decide +kernel
theorem dX7_likely_40 : decode cX7_likely 40 = .ok (.iinc 4 1, 3) := by decide +kernel
theorem dX7_likely_43 : decode cX7_likely 43 = .ok (.iinc 5 1, 3) := by decide +kernel
theorem dX7_likely_46 : decode cX7_likely 46 = .ok (.goto (-27), 3) := by decide +kernel
theorem dX7_likely_49 : decode cX7_likely 49 = .ok (.iload 4, 2) := by decide +kernel
theorem dX7_likely_51 : decode cX7_likely 51 = .ok (.ireturn, 1) := by decide +kernel
set_option maxRecDepth 20000 in
theorem ggX7_seen_X7_refusalOfHeight : GoodIn wsX7_seen wsX7_refusalOfHeight := goodIn_r _ [7, 1, 8, 9, 10, 11, 12, 13, 14, 6, 15, 16, 17, 18, 29, 30, 31, 32, 33, 34, 35, 36, 37, 38, 39, 40, 41, 42, 43, 44, 45, 46, 47, 48, 49, 50, 51] (by decide +kernel) (by decide +kernel)
set_option maxRecDepth 20000 in
theorem gX7_seen_X7_refusalOfHeight : GoodIn wsX7_seen (wsV RX7 178 RX7 yX7_refusalOfHeight wsX7_refusalOfHeight) := goodIn_app (goodIn_of _ (by decide +kernel)) ggX7_seen_X7_refusalOfHeight
set_option maxRecDepth 20000 in
theorem ggX7_seen_X7_within : GoodIn wsX7_seen wsX7_within := goodIn_r _ [18] (by decide +kernel) (by decide +kernel)
set_option maxRecDepth 20000 in
theorem gX7_seen_X7_within : GoodIn wsX7_seen (va_wsS RX7 64 yX7_within wsX7_within) := goodIn_app (goodIn_of _ (by decide +kernel)) ggX7_seen_X7_within
set_option maxRecDepth 20000 in
theorem ggX7_seen_X5_see : GoodIn wsX7_seen wsX5_see := goodIn_r _ [22, 23, 24, 25, 26, 27, 6, 28, 39, 40, 41, 42, 43, 44, 45, 46, 47, 48, 49, 50, 51] (by decide +kernel) (by decide +kernel)
set_option maxRecDepth 20000 in
theorem gX7_seen_X5_see : GoodIn wsX7_seen (wsV RX7 247 RX5 yX5_see wsX5_see) := goodIn_app (goodIn_of _ (by decide +kernel)) ggX7_seen_X5_see
theorem dX7_seen_0 : decode cX7_seen 0 = .ok (.aload_n 0, 1) := by decide +kernel
theorem dX7_seen_1 : decode cX7_seen 1 = .ok (.iload_n 1, 1) := by decide +kernel
theorem dX7_seen_2 : decode cX7_seen 2 = .ok (.iload_n 2, 1) := by decide +kernel
theorem dX7_seen_3 : decode cX7_seen 3 = .ok (.invokevirtual 178, 3) := by decide +kernel
theorem dX7_seen_6 : decode cX7_seen 6 = .ok (.istore 4, 2) := by decide +kernel
theorem dX7_seen_8 : decode cX7_seen 8 = .ok (.iload 4, 2) := by decide +kernel
theorem dX7_seen_10 : decode cX7_seen 10 = .ok (.ifCond .eq 6, 3) := by decide +kernel
theorem dX7_seen_13 : decode cX7_seen 13 = .ok (.iload 4, 2) := by decide +kernel
theorem dX7_seen_15 : decode cX7_seen 15 = .ok (.ireturn, 1) := by decide +kernel
theorem dX7_seen_16 : decode cX7_seen 16 = .ok (.iload_n 3, 1) := by decide +kernel
theorem dX7_seen_17 : decode cX7_seen 17 = .ok (.iconst 0, 1) := by decide +kernel
theorem dX7_seen_18 : decode cX7_seen 18 = .ok (.iconst 1, 1) := by decide +kernel
theorem dX7_seen_19 : decode cX7_seen 19 = .ok (.invokestatic 64, 3) := by decide +kernel
theorem dX7_seen_22 : decode cX7_seen 22 = .ok (.ifCond .ne 6, 3) := by decide +kernel
theorem dX7_seen_25 : decode cX7_seen 25 = .ok (.bipush (-2), 2) := by decide +kernel
theorem dX7_seen_27 : decode cX7_seen 27 = .ok (.ireturn, 1) := by decide +kernel
theorem dX7_seen_28 : decode cX7_seen 28 = .ok (.aload_n 0, 1) := by decide +kernel
theorem dX7_seen_29 : decode cX7_seen 29 = .ok (.getfield 10, 3) := by decide +kernel
theorem dX7_seen_32 : decode cX7_seen 32 = .ok (.iload_n 1, 1) := by decide +kernel
theorem dX7_seen_33 : decode cX7_seen 33 = .ok (.iload_n 2, 1) := by decide +kernel
theorem dX7_seen_34 : decode cX7_seen 34 = .ok (.iload_n 3, 1) := by decide +kernel
theorem dX7_seen_35 : decode cX7_seen 35 = .ok (.invokevirtual 247, 3) := by decide +kernel
theorem dX7_seen_38 : decode cX7_seen 38 = .ok (.ifCond .eq 13, 3) := by decide +kernel
theorem dX7_seen_41 : decode cX7_seen 41 = .ok (.aload_n 0, 1) := by decide +kernel
theorem dX7_seen_42 : decode cX7_seen 42 = .ok (.getfield 10, 3) := by decide +kernel
theorem dX7_seen_45 : decode cX7_seen 45 = .ok (.getfield 250, 3) := by decide +kernel
theorem dX7_seen_48 : decode cX7_seen 48 = .ok (.goto 5, 3) := by decide +kernel
theorem dX7_seen_51 : decode cX7_seen 51 = .ok (.bipush (-4), 2) := by decide +kernel
theorem dX7_seen_53 : decode cX7_seen 53 = .ok (.ireturn, 1) := by decide +kernel
theorem dX7_forget_0 : decode cX7_forget 0 = .ok (.aload_n 0, 1) := by decide +kernel
theorem dX7_forget_1 : decode cX7_forget 1 = .ok (.getfield 10, 3) := by decide +kernel
theorem dX7_forget_4 : decode cX7_forget 4 = .ok (.getfield 250, 3) := by decide +kernel
theorem dX7_forget_7 : decode cX7_forget 7 = .ok (.istore_n 1, 1) := by decide +kernel
theorem dX7_forget_8 : decode cX7_forget 8 = .ok (.aload_n 0, 1) := by decide +kernel
theorem dX7_forget_9 : decode cX7_forget 9 = .ok (.getfield 10, 3) := by decide +kernel
theorem dX7_forget_12 : decode cX7_forget 12 = .ok (.iconst 0, 1) := by decide +kernel
theorem dX7_forget_13 : decode cX7_forget 13 = .ok (.putfield 250, 3) := by decide +kernel
theorem dX7_forget_16 : decode cX7_forget 16 = .ok (.iload_n 1, 1) := by decide +kernel
theorem dX7_forget_17 : decode cX7_forget 17 = .ok (.ireturn, 1) := by decide +kernel
set_option maxRecDepth 20000 in
theorem ggX7_prides_X5_isThere : GoodIn wsX7_prides wsX5_isThere := goodIn_r _ [6, 7, 8, 9, 10, 57, 58, 59, 60, 61, 62, 63, 64, 65, 66, 67, 68, 69] (by decide +kernel) (by decide +kernel)
set_option maxRecDepth 20000 in
theorem gX7_prides_X5_isThere : GoodIn wsX7_prides (wsV RX7 82 RX5 yX5_isThere wsX5_isThere) := goodIn_app (goodIn_of _ (by decide +kernel)) ggX7_prides_X5_isThere
set_option maxRecDepth 20000 in
theorem ggX7_prides_X7_within : GoodIn wsX7_prides wsX7_within := goodIn_r _ [13] (by decide +kernel) (by decide +kernel)
set_option maxRecDepth 20000 in
theorem gX7_prides_X7_within : GoodIn wsX7_prides (va_wsS RX7 64 yX7_within wsX7_within) := goodIn_app (goodIn_of _ (by decide +kernel)) ggX7_prides_X7_within
set_option maxRecDepth 20000 in
theorem ggX7_prides_X5_fitsSights : GoodIn wsX7_prides wsX5_fitsSights := goodIn_r _ [17, 18, 19, 20, 21, 8, 9, 10, 22, 23, 24, 5, 25, 26, 27, 28, 29, 30, 31, 32, 33, 34, 35, 36, 37, 38, 39, 40, 41, 42, 43, 44, 45, 46, 57, 58, 59, 60, 61, 62, 63, 64, 65, 66, 67, 68, 69] (by decide +kernel) (by decide +kernel)
set_option maxRecDepth 20000 in
theorem gX7_prides_X5_fitsSights : GoodIn wsX7_prides (wsV RX7 253 RX5 yX5_fitsSights wsX5_fitsSights) := goodIn_app (goodIn_of _ (by decide +kernel)) ggX7_prides_X5_fitsSights
theorem dX7_prides_0 : decode cX7_prides 0 = .ok (.aload_n 0, 1) := by decide +kernel
theorem dX7_prides_1 : decode cX7_prides 1 = .ok (.getfield 10, 3) := by decide +kernel
theorem dX7_prides_4 : decode cX7_prides 4 = .ok (.iload_n 1, 1) := by decide +kernel
theorem dX7_prides_5 : decode cX7_prides 5 = .ok (.invokevirtual 82, 3) := by decide +kernel
theorem dX7_prides_8 : decode cX7_prides 8 = .ok (.ifCond .ne 5, 3) := by decide +kernel
theorem dX7_prides_11 : decode cX7_prides 11 = .ok (.iconst (-1), 1) := by decide +kernel
theorem dX7_prides_12 : decode cX7_prides 12 = .ok (.ireturn, 1) := by decide +kernel
theorem dX7_prides_13 : decode cX7_prides 13 = .ok (.iload_n 2, 1) := by decide +kernel
theorem dX7_prides_14 : decode cX7_prides 14 = .ok (.iconst 0, 1) := by decide +kernel
theorem dX7_prides_15 : decode cX7_prides 15 = .ok (.iconst 2, 1) := by decide +kernel
theorem dX7_prides_16 : decode cX7_prides 16 = .ok (.invokestatic 64, 3) := by decide +kernel
theorem dX7_prides_19 : decode cX7_prides 19 = .ok (.ifCond .ne 6, 3) := by decide +kernel
theorem dX7_prides_22 : decode cX7_prides 22 = .ok (.bipush (-2), 2) := by decide +kernel
theorem dX7_prides_24 : decode cX7_prides 24 = .ok (.ireturn, 1) := by decide +kernel
theorem dX7_prides_25 : decode cX7_prides 25 = .ok (.iconst 0, 1) := by decide +kernel
theorem dX7_prides_26 : decode cX7_prides 26 = .ok (.istore_n 3, 1) := by decide +kernel
theorem dX7_prides_27 : decode cX7_prides 27 = .ok (.bipush (-6), 2) := by decide +kernel
theorem dX7_prides_29 : decode cX7_prides 29 = .ok (.istore 4, 2) := by decide +kernel
theorem dX7_prides_31 : decode cX7_prides 31 = .ok (.bipush (-6), 2) := by decide +kernel
theorem dX7_prides_33 : decode cX7_prides 33 = .ok (.istore 5, 2) := by decide +kernel
theorem dX7_prides_35 : decode cX7_prides 35 = .ok (.iconst 0, 1) := by decide +kernel
theorem dX7_prides_36 : decode cX7_prides 36 = .ok (.istore 6, 2) := by decide +kernel
theorem dX7_prides_38 : decode cX7_prides 38 = .ok (.iload 6, 2) := by decide +kernel
theorem dX7_prides_40 : decode cX7_prides 40 = .ok (.bipush 9, 2) := by decide +kernel
theorem dX7_prides_42 : decode cX7_prides 42 = .ok (.if_icmp .gt 42, 3) := by decide +kernel
theorem dX7_prides_45 : decode cX7_prides 45 = .ok (.aload_n 0, 1) := by decide +kernel
theorem dX7_prides_46 : decode cX7_prides 46 = .ok (.getfield 10, 3) := by decide +kernel
theorem dX7_prides_49 : decode cX7_prides 49 = .ok (.iload_n 1, 1) := by decide +kernel
theorem dX7_prides_50 : decode cX7_prides 50 = .ok (.iload 6, 2) := by decide +kernel
theorem dX7_prides_52 : decode cX7_prides 52 = .ok (.invokevirtual 253, 3) := by decide +kernel
theorem dX7_prides_55 : decode cX7_prides 55 = .ok (.ifCond .eq 23, 3) := by decide +kernel
theorem dX7_prides_58 : decode cX7_prides 58 = .ok (.iload_n 3, 1) := by decide +kernel
theorem dX7_prides_59 : decode cX7_prides 59 = .ok (.ifCond .ne 8, 3) := by decide +kernel
theorem dX7_prides_62 : decode cX7_prides 62 = .ok (.iload 6, 2) := by decide +kernel
theorem dX7_prides_64 : decode cX7_prides 64 = .ok (.goto 5, 3) := by decide +kernel
theorem dX7_prides_67 : decode cX7_prides 67 = .ok (.iload 4, 2) := by decide +kernel
theorem dX7_prides_69 : decode cX7_prides 69 = .ok (.istore 4, 2) := by decide +kernel
theorem dX7_prides_71 : decode cX7_prides 71 = .ok (.iload 6, 2) := by decide +kernel
theorem dX7_prides_73 : decode cX7_prides 73 = .ok (.istore 5, 2) := by decide +kernel
theorem dX7_prides_75 : decode cX7_prides 75 = .ok (.iinc 3 1, 3) := by decide +kernel
theorem dX7_prides_78 : decode cX7_prides 78 = .ok (.iinc 6 1, 3) := by decide +kernel
theorem dX7_prides_81 : decode cX7_prides 81 = .ok (.goto (-43), 3) := by decide +kernel
theorem dX7_prides_84 : decode cX7_prides 84 = .ok (.iload_n 2, 1) := by decide +kernel
theorem dX7_prides_85 : decode cX7_prides 85 = .ok (.ifCond .ne 5, 3) := by decide +kernel
theorem dX7_prides_88 : decode cX7_prides 88 = .ok (.iload_n 3, 1) := by decide +kernel
theorem dX7_prides_89 : decode cX7_prides 89 = .ok (.ireturn, 1) := by decide +kernel
theorem dX7_prides_90 : decode cX7_prides 90 = .ok (.iload_n 2, 1) := by decide +kernel
theorem dX7_prides_91 : decode cX7_prides 91 = .ok (.iconst 1, 1) := by decide +kernel
theorem dX7_prides_92 : decode cX7_prides 92 = .ok (.if_icmp .ne 8, 3) := by decide +kernel
theorem dX7_prides_95 : decode cX7_prides 95 = .ok (.iload 4, 2) := by decide +kernel
theorem dX7_prides_97 : decode cX7_prides 97 = .ok (.goto 5, 3) := by decide +kernel
theorem dX7_prides_100 : decode cX7_prides 100 = .ok (.iload 5, 2) := by decide +kernel
theorem dX7_prides_102 : decode cX7_prides 102 = .ok (.ireturn, 1) := by decide +kernel
set_option maxRecDepth 20000 in
theorem ggX7_year_X7_at : GoodIn wsX7_year wsX7_at := goodIn_r _ [10] (by decide +kernel) (by decide +kernel)
set_option maxRecDepth 20000 in
theorem gX7_year_X7_at : GoodIn wsX7_year (va_wsS RX7 94 yX7_at wsX7_at) := goodIn_app (goodIn_of _ (by decide +kernel)) ggX7_year_X7_at
set_option maxRecDepth 20000 in
theorem ggX7_year_X7_within : GoodIn wsX7_year wsX7_within := goodIn_r _ [13] (by decide +kernel) (by decide +kernel)
set_option maxRecDepth 20000 in
theorem gX7_year_X7_within : GoodIn wsX7_year (va_wsS RX7 64 yX7_within wsX7_within) := goodIn_app (goodIn_of _ (by decide +kernel)) ggX7_year_X7_within
set_option maxRecDepth 20000 in
theorem ggX7_year_X6_pass : GoodIn wsX7_year wsX6_pass := goodIn_r _ [18, 19, 20, 21, 22, 23, 24, 25, 26, 27, 28, 29, 30, 31, 32, 33, 34, 35, 36, 37, 38, 39, 40, 41, 9, 42, 7, 8, 10, 43, 44, 45, 46, 47, 48, 49, 50, 51, 17, 52, 53, 54, 55, 56, 57, 58, 59, 60, 61, 62, 63, 64, 65, 66, 67, 68, 69, 70, 71, 72, 73, 74, 75, 76, 77, 78, 79, 80, 81, 82, 83, 84, 85, 86, 87, 88, 89, 90, 91, 92, 93, 94, 95, 96, 97, 98, 99, 100, 101, 102, 103, 104, 115, 116, 117, 118, 119, 120, 121, 122, 123, 124, 125, 126, 127, 128, 129, 130, 131] (by decide +kernel) (by decide +kernel)
set_option maxRecDepth 20000 in
theorem gX7_year_X6_pass : GoodIn wsX7_year (wsV RX7 256 RX6 yX6_pass wsX6_pass) := goodIn_app (goodIn_of _ (by decide +kernel)) ggX7_year_X6_pass
theorem dX7_year_0 : decode cX7_year 0 = .ok (.iload_n 1, 1) := by decide +kernel
theorem dX7_year_1 : decode cX7_year 1 = .ok (.iconst 0, 1) := by decide +kernel
theorem dX7_year_2 : decode cX7_year 2 = .ok (.getstatic 98, 3) := by decide +kernel
theorem dX7_year_5 : decode cX7_year 5 = .ok (.bipush 6, 2) := by decide +kernel
theorem dX7_year_7 : decode cX7_year 7 = .ok (.invokestatic 94, 3) := by decide +kernel
theorem dX7_year_10 : decode cX7_year 10 = .ok (.invokestatic 64, 3) := by decide +kernel
theorem dX7_year_13 : decode cX7_year 13 = .ok (.ifCond .eq 22, 3) := by decide +kernel
theorem dX7_year_16 : decode cX7_year 16 = .ok (.iload_n 2, 1) := by decide +kernel
theorem dX7_year_17 : decode cX7_year 17 = .ok (.iconst 1, 1) := by decide +kernel
theorem dX7_year_18 : decode cX7_year 18 = .ok (.bipush 99, 2) := by decide +kernel
theorem dX7_year_20 : decode cX7_year 20 = .ok (.invokestatic 64, 3) := by decide +kernel
theorem dX7_year_23 : decode cX7_year 23 = .ok (.ifCond .eq 12, 3) := by decide +kernel
theorem dX7_year_26 : decode cX7_year 26 = .ok (.iload_n 3, 1) := by decide +kernel
theorem dX7_year_27 : decode cX7_year 27 = .ok (.iconst 0, 1) := by decide +kernel
theorem dX7_year_28 : decode cX7_year 28 = .ok (.iconst 2, 1) := by decide +kernel
theorem dX7_year_29 : decode cX7_year 29 = .ok (.invokestatic 64, 3) := by decide +kernel
theorem dX7_year_32 : decode cX7_year 32 = .ok (.ifCond .ne 6, 3) := by decide +kernel
theorem dX7_year_35 : decode cX7_year 35 = .ok (.bipush (-2), 2) := by decide +kernel
theorem dX7_year_37 : decode cX7_year 37 = .ok (.ireturn, 1) := by decide +kernel
theorem dX7_year_38 : decode cX7_year 38 = .ok (.aload_n 0, 1) := by decide +kernel
theorem dX7_year_39 : decode cX7_year 39 = .ok (.getfield 60, 3) := by decide +kernel
theorem dX7_year_42 : decode cX7_year 42 = .ok (.aload_n 0, 1) := by decide +kernel
theorem dX7_year_43 : decode cX7_year 43 = .ok (.getfield 10, 3) := by decide +kernel
theorem dX7_year_46 : decode cX7_year 46 = .ok (.iload_n 1, 1) := by decide +kernel
theorem dX7_year_47 : decode cX7_year 47 = .ok (.iload_n 2, 1) := by decide +kernel
theorem dX7_year_48 : decode cX7_year 48 = .ok (.invokevirtual 256, 3) := by decide +kernel
theorem dX7_year_51 : decode cX7_year 51 = .ok (.iload_n 3, 1) := by decide +kernel
theorem dX7_year_52 : decode cX7_year 52 = .ok (.lookupswitch 44 #[(0, 28), (1, 36)], 28) := by decide +kernel
theorem dX7_year_80 : decode cX7_year 80 = .ok (.aload_n 0, 1) := by decide +kernel
theorem dX7_year_81 : decode cX7_year 81 = .ok (.getfield 60, 3) := by decide +kernel
theorem dX7_year_84 : decode cX7_year 84 = .ok (.getfield 260, 3) := by decide +kernel
theorem dX7_year_87 : decode cX7_year 87 = .ok (.ireturn, 1) := by decide +kernel
theorem dX7_year_88 : decode cX7_year 88 = .ok (.aload_n 0, 1) := by decide +kernel
theorem dX7_year_89 : decode cX7_year 89 = .ok (.getfield 60, 3) := by decide +kernel
theorem dX7_year_92 : decode cX7_year 92 = .ok (.getfield 261, 3) := by decide +kernel
theorem dX7_year_95 : decode cX7_year 95 = .ok (.ireturn, 1) := by decide +kernel
theorem dX7_year_96 : decode cX7_year 96 = .ok (.aload_n 0, 1) := by decide +kernel
theorem dX7_year_97 : decode cX7_year 97 = .ok (.getfield 60, 3) := by decide +kernel
theorem dX7_year_100 : decode cX7_year 100 = .ok (.getfield 262, 3) := by decide +kernel
theorem dX7_year_103 : decode cX7_year 103 = .ok (.ireturn, 1) := by decide +kernel
set_option maxRecDepth 20000 in
theorem ggX7_image_X7_within : GoodIn wsX7_image wsX7_within := goodIn_r _ [9] (by decide +kernel) (by decide +kernel)
set_option maxRecDepth 20000 in
theorem gX7_image_X7_within : GoodIn wsX7_image (va_wsS RX7 64 yX7_within wsX7_within) := goodIn_app (goodIn_of _ (by decide +kernel)) ggX7_image_X7_within
set_option maxRecDepth 20000 in
theorem ggX7_image_X5_copyFrom : GoodIn wsX7_image wsX5_copyFrom := goodIn_r _ [14, 15, 16, 17, 18, 19, 20, 21, 22, 23, 24, 25, 26, 27, 28, 8, 29, 30, 31, 32, 33, 34, 35, 46, 47, 48, 49, 50, 51, 52, 53, 54, 55, 56, 57, 58] (by decide +kernel) (by decide +kernel)
set_option maxRecDepth 20000 in
theorem gX7_image_X5_copyFrom : GoodIn wsX7_image (wsV RX7 149 RX5 yX5_copyFrom wsX5_copyFrom) := goodIn_app (goodIn_of _ (by decide +kernel)) ggX7_image_X5_copyFrom
theorem dX7_image_0 : decode cX7_image 0 = .ok (.iload_n 1, 1) := by decide +kernel
theorem dX7_image_1 : decode cX7_image 1 = .ok (.iconst 0, 1) := by decide +kernel
theorem dX7_image_2 : decode cX7_image 2 = .ok (.iconst 1, 1) := by decide +kernel
theorem dX7_image_3 : decode cX7_image 3 = .ok (.invokestatic 64, 3) := by decide +kernel
theorem dX7_image_6 : decode cX7_image 6 = .ok (.ifCond .ne 6, 3) := by decide +kernel
theorem dX7_image_9 : decode cX7_image 9 = .ok (.bipush (-2), 2) := by decide +kernel
theorem dX7_image_11 : decode cX7_image 11 = .ok (.ireturn, 1) := by decide +kernel
theorem dX7_image_12 : decode cX7_image 12 = .ok (.iload_n 1, 1) := by decide +kernel
theorem dX7_image_13 : decode cX7_image 13 = .ok (.ifCond .ne 22, 3) := by decide +kernel
theorem dX7_image_16 : decode cX7_image 16 = .ok (.aload_n 0, 1) := by decide +kernel
theorem dX7_image_17 : decode cX7_image 17 = .ok (.getfield 16, 3) := by decide +kernel
theorem dX7_image_20 : decode cX7_image 20 = .ok (.aload_n 0, 1) := by decide +kernel
theorem dX7_image_21 : decode cX7_image 21 = .ok (.getfield 10, 3) := by decide +kernel
theorem dX7_image_24 : decode cX7_image 24 = .ok (.invokevirtual 149, 3) := by decide +kernel
theorem dX7_image_27 : decode cX7_image 27 = .ok (.aload_n 0, 1) := by decide +kernel
theorem dX7_image_28 : decode cX7_image 28 = .ok (.iconst 1, 1) := by decide +kernel
theorem dX7_image_29 : decode cX7_image 29 = .ok (.putfield 22, 3) := by decide +kernel
theorem dX7_image_32 : decode cX7_image 32 = .ok (.goto 19, 3) := by decide +kernel
theorem dX7_image_35 : decode cX7_image 35 = .ok (.aload_n 0, 1) := by decide +kernel
theorem dX7_image_36 : decode cX7_image 36 = .ok (.getfield 19, 3) := by decide +kernel
theorem dX7_image_39 : decode cX7_image 39 = .ok (.aload_n 0, 1) := by decide +kernel
theorem dX7_image_40 : decode cX7_image 40 = .ok (.getfield 10, 3) := by decide +kernel
theorem dX7_image_43 : decode cX7_image 43 = .ok (.invokevirtual 149, 3) := by decide +kernel
theorem dX7_image_46 : decode cX7_image 46 = .ok (.aload_n 0, 1) := by decide +kernel
theorem dX7_image_47 : decode cX7_image 47 = .ok (.iconst 1, 1) := by decide +kernel
theorem dX7_image_48 : decode cX7_image 48 = .ok (.putfield 26, 3) := by decide +kernel
theorem dX7_image_51 : decode cX7_image 51 = .ok (.iconst 1, 1) := by decide +kernel
theorem dX7_image_52 : decode cX7_image 52 = .ok (.ireturn, 1) := by decide +kernel
set_option maxRecDepth 20000 in
theorem ggX7_restore_X7_within : GoodIn wsX7_restore wsX7_within := goodIn_r _ [9] (by decide +kernel) (by decide +kernel)
set_option maxRecDepth 20000 in
theorem gX7_restore_X7_within : GoodIn wsX7_restore (va_wsS RX7 64 yX7_within wsX7_within) := goodIn_app (goodIn_of _ (by decide +kernel)) ggX7_restore_X7_within
set_option maxRecDepth 20000 in
theorem ggX7_restore_X5_copyFrom : GoodIn wsX7_restore wsX5_copyFrom := goodIn_r _ [14, 15, 16, 17, 18, 19, 20, 21, 22, 23, 24, 25, 26, 27, 28, 8, 29, 30, 31, 32, 33, 34, 35, 46, 47, 48, 49, 50, 51, 52, 53, 54, 55, 56, 57, 58] (by decide +kernel) (by decide +kernel)
set_option maxRecDepth 20000 in
theorem gX7_restore_X5_copyFrom : GoodIn wsX7_restore (wsV RX7 149 RX5 yX5_copyFrom wsX5_copyFrom) := goodIn_app (goodIn_of _ (by decide +kernel)) ggX7_restore_X5_copyFrom
theorem dX7_restore_0 : decode cX7_restore 0 = .ok (.iload_n 1, 1) := by decide +kernel
theorem dX7_restore_1 : decode cX7_restore 1 = .ok (.iconst 0, 1) := by decide +kernel
theorem dX7_restore_2 : decode cX7_restore 2 = .ok (.iconst 1, 1) := by decide +kernel
theorem dX7_restore_3 : decode cX7_restore 3 = .ok (.invokestatic 64, 3) := by decide +kernel
theorem dX7_restore_6 : decode cX7_restore 6 = .ok (.ifCond .ne 6, 3) := by decide +kernel
theorem dX7_restore_9 : decode cX7_restore 9 = .ok (.bipush (-2), 2) := by decide +kernel
theorem dX7_restore_11 : decode cX7_restore 11 = .ok (.ireturn, 1) := by decide +kernel
theorem dX7_restore_12 : decode cX7_restore 12 = .ok (.iload_n 1, 1) := by decide +kernel
theorem dX7_restore_13 : decode cX7_restore 13 = .ok (.ifCond .ne 13, 3) := by decide +kernel
theorem dX7_restore_16 : decode cX7_restore 16 = .ok (.aload_n 0, 1) := by decide +kernel
theorem dX7_restore_17 : decode cX7_restore 17 = .ok (.getfield 22, 3) := by decide +kernel
theorem dX7_restore_20 : decode cX7_restore 20 = .ok (.ifCond .ne 16, 3) := by decide +kernel
theorem dX7_restore_23 : decode cX7_restore 23 = .ok (.goto 10, 3) := by decide +kernel
theorem dX7_restore_26 : decode cX7_restore 26 = .ok (.aload_n 0, 1) := by decide +kernel
theorem dX7_restore_27 : decode cX7_restore 27 = .ok (.getfield 26, 3) := by decide +kernel
theorem dX7_restore_30 : decode cX7_restore 30 = .ok (.ifCond .ne 6, 3) := by decide +kernel
theorem dX7_restore_33 : decode cX7_restore 33 = .ok (.bipush (-3), 2) := by decide +kernel
theorem dX7_restore_35 : decode cX7_restore 35 = .ok (.ireturn, 1) := by decide +kernel
theorem dX7_restore_36 : decode cX7_restore 36 = .ok (.aload_n 0, 1) := by decide +kernel
theorem dX7_restore_37 : decode cX7_restore 37 = .ok (.getfield 10, 3) := by decide +kernel
theorem dX7_restore_40 : decode cX7_restore 40 = .ok (.iload_n 1, 1) := by decide +kernel
theorem dX7_restore_41 : decode cX7_restore 41 = .ok (.ifCond .ne 10, 3) := by decide +kernel
theorem dX7_restore_44 : decode cX7_restore 44 = .ok (.aload_n 0, 1) := by decide +kernel
theorem dX7_restore_45 : decode cX7_restore 45 = .ok (.getfield 16, 3) := by decide +kernel
theorem dX7_restore_48 : decode cX7_restore 48 = .ok (.goto 7, 3) := by decide +kernel
theorem dX7_restore_51 : decode cX7_restore 51 = .ok (.aload_n 0, 1) := by decide +kernel
theorem dX7_restore_52 : decode cX7_restore 52 = .ok (.getfield 19, 3) := by decide +kernel
theorem dX7_restore_55 : decode cX7_restore 55 = .ok (.invokevirtual 149, 3) := by decide +kernel
theorem dX7_restore_58 : decode cX7_restore 58 = .ok (.iconst 1, 1) := by decide +kernel
theorem dX7_restore_59 : decode cX7_restore 59 = .ok (.ireturn, 1) := by decide +kernel
set_option maxRecDepth 20000 in
theorem ggX7_told_X5_bits : GoodIn wsX7_told wsX5_bits := goodIn_r _ [9, 10, 11, 12, 13, 47, 48, 49, 50, 51, 52, 53, 54, 55, 56, 57, 58, 59] (by decide +kernel) (by decide +kernel)
set_option maxRecDepth 20000 in
theorem gX7_told_X5_bits : GoodIn wsX7_told (wsV RX7 72 RX5 yX5_bits wsX5_bits) := goodIn_app (goodIn_of _ (by decide +kernel)) ggX7_told_X5_bits
set_option maxRecDepth 20000 in
theorem ggX7_told_X7_within : GoodIn wsX7_told wsX7_within := goodIn_r _ [16] (by decide +kernel) (by decide +kernel)
set_option maxRecDepth 20000 in
theorem gX7_told_X7_within : GoodIn wsX7_told (va_wsS RX7 64 yX7_within wsX7_within) := goodIn_app (goodIn_of _ (by decide +kernel)) ggX7_told_X7_within
set_option maxRecDepth 20000 in
theorem ggX7_told_X5_rule : GoodIn wsX7_told wsX5_rule := goodIn_r _ [20, 21, 11, 12, 13, 47, 48, 49, 50, 51, 52, 53, 54, 55, 56, 57, 58, 59] (by decide +kernel) (by decide +kernel)
set_option maxRecDepth 20000 in
theorem gX7_told_X5_rule : GoodIn wsX7_told (wsV RX7 101 RX5 yX5_rule wsX5_rule) := goodIn_app (goodIn_of _ (by decide +kernel)) ggX7_told_X5_rule
set_option maxRecDepth 20000 in
theorem ggX7_told_X7_trait : GoodIn wsX7_told wsX7_trait := goodIn_r _ [25, 3, 26, 27, 28, 29, 30, 31, 32, 8, 33, 10, 11, 12, 13, 34, 35, 36, 37, 38, 39, 40, 41, 42, 43, 44, 47, 48, 49, 50, 51, 52, 53, 54, 55, 56, 57, 58, 59] (by decide +kernel) (by decide +kernel)
set_option maxRecDepth 20000 in
theorem gX7_told_X7_trait : GoodIn wsX7_told (wsV RX7 265 RX7 yX7_trait wsX7_trait) := goodIn_app (goodIn_of _ (by decide +kernel)) ggX7_told_X7_trait
theorem dX7_told_0 : decode cX7_told 0 = .ok (.iload_n 1, 1) := by decide +kernel
theorem dX7_told_1 : decode cX7_told 1 = .ok (.ifCond .ne 11, 3) := by decide +kernel
theorem dX7_told_4 : decode cX7_told 4 = .ok (.aload_n 0, 1) := by decide +kernel
theorem dX7_told_5 : decode cX7_told 5 = .ok (.getfield 32, 3) := by decide +kernel
theorem dX7_told_8 : decode cX7_told 8 = .ok (.getfield 114, 3) := by decide +kernel
theorem dX7_told_11 : decode cX7_told 11 = .ok (.ireturn, 1) := by decide +kernel
theorem dX7_told_12 : decode cX7_told 12 = .ok (.iload_n 1, 1) := by decide +kernel
theorem dX7_told_13 : decode cX7_told 13 = .ok (.iconst 1, 1) := by decide +kernel
theorem dX7_told_14 : decode cX7_told 14 = .ok (.if_icmp .ne 11, 3) := by decide +kernel
theorem dX7_told_17 : decode cX7_told 17 = .ok (.aload_n 0, 1) := by decide +kernel
theorem dX7_told_18 : decode cX7_told 18 = .ok (.getfield 10, 3) := by decide +kernel
theorem dX7_told_21 : decode cX7_told 21 = .ok (.invokevirtual 72, 3) := by decide +kernel
theorem dX7_told_24 : decode cX7_told 24 = .ok (.ireturn, 1) := by decide +kernel
theorem dX7_told_25 : decode cX7_told 25 = .ok (.iload_n 1, 1) := by decide +kernel
theorem dX7_told_26 : decode cX7_told 26 = .ok (.iconst 2, 1) := by decide +kernel
theorem dX7_told_27 : decode cX7_told 27 = .ok (.bipush 8, 2) := by decide +kernel
theorem dX7_told_29 : decode cX7_told 29 = .ok (.invokestatic 64, 3) := by decide +kernel
theorem dX7_told_32 : decode cX7_told 32 = .ok (.ifCond .eq 14, 3) := by decide +kernel
theorem dX7_told_35 : decode cX7_told 35 = .ok (.aload_n 0, 1) := by decide +kernel
theorem dX7_told_36 : decode cX7_told 36 = .ok (.getfield 10, 3) := by decide +kernel
theorem dX7_told_39 : decode cX7_told 39 = .ok (.iload_n 1, 1) := by decide +kernel
theorem dX7_told_40 : decode cX7_told 40 = .ok (.iconst 2, 1) := by decide +kernel
theorem dX7_told_41 : decode cX7_told 41 = .ok (.isub, 1) := by decide +kernel
theorem dX7_told_42 : decode cX7_told 42 = .ok (.invokevirtual 101, 3) := by decide +kernel
theorem dX7_told_45 : decode cX7_told 45 = .ok (.ireturn, 1) := by decide +kernel
theorem dX7_told_46 : decode cX7_told 46 = .ok (.iload_n 1, 1) := by decide +kernel
theorem dX7_told_47 : decode cX7_told 47 = .ok (.bipush 9, 2) := by decide +kernel
theorem dX7_told_49 : decode cX7_told 49 = .ok (.if_icmp .ne 11, 3) := by decide +kernel
theorem dX7_told_52 : decode cX7_told 52 = .ok (.aload_n 0, 1) := by decide +kernel
theorem dX7_told_53 : decode cX7_told 53 = .ok (.getfield 10, 3) := by decide +kernel
theorem dX7_told_56 : decode cX7_told 56 = .ok (.getfield 250, 3) := by decide +kernel
theorem dX7_told_59 : decode cX7_told 59 = .ok (.ireturn, 1) := by decide +kernel
theorem dX7_told_60 : decode cX7_told 60 = .ok (.iload_n 1, 1) := by decide +kernel
theorem dX7_told_61 : decode cX7_told 61 = .ok (.bipush 10, 2) := by decide +kernel
theorem dX7_told_63 : decode cX7_told 63 = .ok (.if_icmp .ge 8, 3) := by decide +kernel
theorem dX7_told_66 : decode cX7_told 66 = .ok (.bipush (-2), 2) := by decide +kernel
theorem dX7_told_68 : decode cX7_told 68 = .ok (.goto 17, 3) := by decide +kernel
theorem dX7_told_71 : decode cX7_told 71 = .ok (.aload_n 0, 1) := by decide +kernel
theorem dX7_told_72 : decode cX7_told 72 = .ok (.iload_n 1, 1) := by decide +kernel
theorem dX7_told_73 : decode cX7_told 73 = .ok (.bipush 10, 2) := by decide +kernel
theorem dX7_told_75 : decode cX7_told 75 = .ok (.idiv, 1) := by decide +kernel
theorem dX7_told_76 : decode cX7_told 76 = .ok (.iconst 1, 1) := by decide +kernel
theorem dX7_told_77 : decode cX7_told 77 = .ok (.isub, 1) := by decide +kernel
theorem dX7_told_78 : decode cX7_told 78 = .ok (.iload_n 1, 1) := by decide +kernel
theorem dX7_told_79 : decode cX7_told 79 = .ok (.bipush 10, 2) := by decide +kernel
theorem dX7_told_81 : decode cX7_told 81 = .ok (.irem, 1) := by decide +kernel
theorem dX7_told_82 : decode cX7_told 82 = .ok (.invokevirtual 265, 3) := by decide +kernel
theorem dX7_told_85 : decode cX7_told 85 = .ok (.ireturn, 1) := by decide +kernel
set_option maxRecDepth 20000 in
theorem ggX7_trait_X5_isThere : GoodIn wsX7_trait wsX5_isThere := goodIn_r _ [10, 11, 12, 13, 14, 26, 27, 28, 29, 30, 31, 32, 33, 34, 35, 36, 37, 38] (by decide +kernel) (by decide +kernel)
set_option maxRecDepth 20000 in
theorem gX7_trait_X5_isThere : GoodIn wsX7_trait (wsV RX7 82 RX5 yX5_isThere wsX5_isThere) := goodIn_app (goodIn_of _ (by decide +kernel)) ggX7_trait_X5_isThere
set_option maxRecDepth 20000 in
theorem ggX7_trait_X7_at : GoodIn wsX7_trait wsX7_at := goodIn_r _ [14] (by decide +kernel) (by decide +kernel)
set_option maxRecDepth 20000 in
theorem gX7_trait_X7_at : GoodIn wsX7_trait (va_wsS RX7 94 yX7_at wsX7_at) := goodIn_app (goodIn_of _ (by decide +kernel)) ggX7_trait_X7_at
theorem dX7_trait_0 : decode cX7_trait 0 = .ok (.aload_n 0, 1) := by decide +kernel
theorem dX7_trait_1 : decode cX7_trait 1 = .ok (.getfield 10, 3) := by decide +kernel
theorem dX7_trait_4 : decode cX7_trait 4 = .ok (.iload_n 1, 1) := by decide +kernel
theorem dX7_trait_5 : decode cX7_trait 5 = .ok (.invokevirtual 82, 3) := by decide +kernel
theorem dX7_trait_8 : decode cX7_trait 8 = .ok (.ifCond .ne 6, 3) := by decide +kernel
theorem dX7_trait_11 : decode cX7_trait 11 = .ok (.bipush (-2), 2) := by decide +kernel
theorem dX7_trait_13 : decode cX7_trait 13 = .ok (.ireturn, 1) := by decide +kernel
theorem dX7_trait_14 : decode cX7_trait 14 = .ok (.iload_n 2, 1) := by decide +kernel
theorem dX7_trait_15 : decode cX7_trait 15 = .ok (.tableswitch 77 0 3 #[29, 41, 53, 65], 29) := by decide +kernel
theorem dX7_trait_44 : decode cX7_trait 44 = .ok (.aload_n 0, 1) := by decide +kernel
theorem dX7_trait_45 : decode cX7_trait 45 = .ok (.getfield 10, 3) := by decide +kernel
theorem dX7_trait_48 : decode cX7_trait 48 = .ok (.getfield 268, 3) := by decide +kernel
theorem dX7_trait_51 : decode cX7_trait 51 = .ok (.iload_n 1, 1) := by decide +kernel
theorem dX7_trait_52 : decode cX7_trait 52 = .ok (.invokestatic 94, 3) := by decide +kernel
theorem dX7_trait_55 : decode cX7_trait 55 = .ok (.ireturn, 1) := by decide +kernel
theorem dX7_trait_56 : decode cX7_trait 56 = .ok (.aload_n 0, 1) := by decide +kernel
theorem dX7_trait_57 : decode cX7_trait 57 = .ok (.getfield 10, 3) := by decide +kernel
theorem dX7_trait_60 : decode cX7_trait 60 = .ok (.getfield 271, 3) := by decide +kernel
theorem dX7_trait_63 : decode cX7_trait 63 = .ok (.iload_n 1, 1) := by decide +kernel
theorem dX7_trait_64 : decode cX7_trait 64 = .ok (.invokestatic 94, 3) := by decide +kernel
theorem dX7_trait_67 : decode cX7_trait 67 = .ok (.ireturn, 1) := by decide +kernel
theorem dX7_trait_68 : decode cX7_trait 68 = .ok (.aload_n 0, 1) := by decide +kernel
theorem dX7_trait_69 : decode cX7_trait 69 = .ok (.getfield 10, 3) := by decide +kernel
theorem dX7_trait_72 : decode cX7_trait 72 = .ok (.getfield 274, 3) := by decide +kernel
theorem dX7_trait_75 : decode cX7_trait 75 = .ok (.iload_n 1, 1) := by decide +kernel
theorem dX7_trait_76 : decode cX7_trait 76 = .ok (.invokestatic 94, 3) := by decide +kernel
theorem dX7_trait_79 : decode cX7_trait 79 = .ok (.ireturn, 1) := by decide +kernel
theorem dX7_trait_80 : decode cX7_trait 80 = .ok (.aload_n 0, 1) := by decide +kernel
theorem dX7_trait_81 : decode cX7_trait 81 = .ok (.getfield 10, 3) := by decide +kernel
theorem dX7_trait_84 : decode cX7_trait 84 = .ok (.getfield 277, 3) := by decide +kernel
theorem dX7_trait_87 : decode cX7_trait 87 = .ok (.iload_n 1, 1) := by decide +kernel
theorem dX7_trait_88 : decode cX7_trait 88 = .ok (.invokestatic 94, 3) := by decide +kernel
theorem dX7_trait_91 : decode cX7_trait 91 = .ok (.ireturn, 1) := by decide +kernel
theorem dX7_trait_92 : decode cX7_trait 92 = .ok (.bipush (-2), 2) := by decide +kernel
theorem dX7_trait_94 : decode cX7_trait 94 = .ok (.ireturn, 1) := by decide +kernel
set_option maxRecDepth 20000 in
theorem ggX7_playSummer_X3_faultAt : GoodIn wsX7_playSummer wsX3_faultAt := goodIn_r _ [9, 10, 11, 12, 13, 14, 15, 16, 8, 17, 18, 19, 20, 21, 22, 141, 142] (by decide +kernel) (by decide +kernel)
set_option maxRecDepth 20000 in
theorem gX7_playSummer_X3_faultAt : GoodIn wsX7_playSummer (wsV RX7 121 RX3 yX3_faultAt wsX3_faultAt) := goodIn_app (goodIn_of _ (by decide +kernel)) ggX7_playSummer_X3_faultAt
set_option maxRecDepth 20000 in
theorem ggX7_playSummer_X4_play : GoodIn wsX7_playSummer wsX4_play := goodIn_r _ [27, 28, 29, 30, 31, 32, 33, 34, 35, 26, 36, 37, 38, 39, 40, 41, 42, 43, 44, 45, 46, 47, 48, 49, 50, 51, 52, 53, 54, 55, 56, 57, 58, 59, 60, 61, 13, 62, 63, 12, 14, 64, 65, 66, 67, 68, 69, 70, 71, 72, 73, 74, 75, 76, 77, 78, 79, 80, 81, 82, 83, 84, 85, 86, 87, 88, 89, 90, 91, 92, 93, 94, 95, 96, 97, 98, 99, 100, 101, 102, 103, 104, 105, 106, 107, 108, 109, 110, 111, 112, 113, 114, 115, 116, 117, 118, 119, 120, 121, 141, 142, 132, 133, 134, 135, 136, 137, 138, 139, 140, 143, 144, 145, 146, 147, 148, 149, 150, 151, 152, 153, 154, 155, 156, 157] (by decide +kernel) (by decide +kernel)
set_option maxRecDepth 20000 in
theorem gX7_playSummer_X4_play : GoodIn wsX7_playSummer (wsV RX7 280 RX4 yX4_play wsX4_play) := goodIn_app (goodIn_of _ (by decide +kernel)) ggX7_playSummer_X4_play
theorem dX7_playSummer_0 : decode cX7_playSummer 0 = .ok (.aload_n 0, 1) := by decide +kernel
theorem dX7_playSummer_1 : decode cX7_playSummer 1 = .ok (.getfield 32, 3) := by decide +kernel
theorem dX7_playSummer_4 : decode cX7_playSummer 4 = .ok (.invokevirtual 121, 3) := by decide +kernel
theorem dX7_playSummer_7 : decode cX7_playSummer 7 = .ok (.bipush (-6), 2) := by decide +kernel
theorem dX7_playSummer_9 : decode cX7_playSummer 9 = .ok (.if_icmp .eq 6, 3) := by decide +kernel
theorem dX7_playSummer_12 : decode cX7_playSummer 12 = .ok (.bipush (-5), 2) := by decide +kernel
theorem dX7_playSummer_14 : decode cX7_playSummer 14 = .ok (.ireturn, 1) := by decide +kernel
theorem dX7_playSummer_15 : decode cX7_playSummer 15 = .ok (.aload_n 0, 1) := by decide +kernel
theorem dX7_playSummer_16 : decode cX7_playSummer 16 = .ok (.getfield 39, 3) := by decide +kernel
theorem dX7_playSummer_19 : decode cX7_playSummer 19 = .ok (.aload_n 0, 1) := by decide +kernel
theorem dX7_playSummer_20 : decode cX7_playSummer 20 = .ok (.getfield 32, 3) := by decide +kernel
theorem dX7_playSummer_23 : decode cX7_playSummer 23 = .ok (.aload_n 0, 1) := by decide +kernel
theorem dX7_playSummer_24 : decode cX7_playSummer 24 = .ok (.getfield 10, 3) := by decide +kernel
theorem dX7_playSummer_27 : decode cX7_playSummer 27 = .ok (.invokevirtual 280, 3) := by decide +kernel
theorem dX7_playSummer_30 : decode cX7_playSummer 30 = .ok (.aload_n 0, 1) := by decide +kernel
theorem dX7_playSummer_31 : decode cX7_playSummer 31 = .ok (.getfield 39, 3) := by decide +kernel
theorem dX7_playSummer_34 : decode cX7_playSummer 34 = .ok (.getfield 130, 3) := by decide +kernel
theorem dX7_playSummer_37 : decode cX7_playSummer 37 = .ok (.ifCond .eq 8, 3) := by decide +kernel
theorem dX7_playSummer_40 : decode cX7_playSummer 40 = .ok (.bipush (-3), 2) := by decide +kernel
theorem dX7_playSummer_42 : decode cX7_playSummer 42 = .ok (.goto 4, 3) := by decide +kernel
theorem dX7_playSummer_45 : decode cX7_playSummer 45 = .ok (.iconst 0, 1) := by decide +kernel
theorem dX7_playSummer_46 : decode cX7_playSummer 46 = .ok (.ireturn, 1) := by decide +kernel
set_option maxRecDepth 20000 in
theorem ggX7_refusalOfHeight_X5_isThere : GoodIn wsX7_refusalOfHeight wsX5_isThere := goodIn_r _ [6, 7, 8, 9, 10, 24, 25, 26, 27, 28, 29, 30, 31, 32, 33, 34, 35, 36] (by decide +kernel) (by decide +kernel)
set_option maxRecDepth 20000 in
theorem gX7_refusalOfHeight_X5_isThere : GoodIn wsX7_refusalOfHeight (wsV RX7 82 RX5 yX5_isThere wsX5_isThere) := goodIn_app (goodIn_of _ (by decide +kernel)) ggX7_refusalOfHeight_X5_isThere
set_option maxRecDepth 20000 in
theorem ggX7_refusalOfHeight_X7_within : GoodIn wsX7_refusalOfHeight wsX7_within := goodIn_r _ [13] (by decide +kernel) (by decide +kernel)
set_option maxRecDepth 20000 in
theorem gX7_refusalOfHeight_X7_within : GoodIn wsX7_refusalOfHeight (va_wsS RX7 64 yX7_within wsX7_within) := goodIn_app (goodIn_of _ (by decide +kernel)) ggX7_refusalOfHeight_X7_within
theorem dX7_refusalOfHeight_0 : decode cX7_refusalOfHeight 0 = .ok (.aload_n 0, 1) := by decide +kernel
theorem dX7_refusalOfHeight_1 : decode cX7_refusalOfHeight 1 = .ok (.getfield 10, 3) := by decide +kernel
theorem dX7_refusalOfHeight_4 : decode cX7_refusalOfHeight 4 = .ok (.iload_n 1, 1) := by decide +kernel
theorem dX7_refusalOfHeight_5 : decode cX7_refusalOfHeight 5 = .ok (.invokevirtual 82, 3) := by decide +kernel
theorem dX7_refusalOfHeight_8 : decode cX7_refusalOfHeight 8 = .ok (.ifCond .ne 5, 3) := by decide +kernel
theorem dX7_refusalOfHeight_11 : decode cX7_refusalOfHeight 11 = .ok (.iconst (-1), 1) := by decide +kernel
theorem dX7_refusalOfHeight_12 : decode cX7_refusalOfHeight 12 = .ok (.ireturn, 1) := by decide +kernel
theorem dX7_refusalOfHeight_13 : decode cX7_refusalOfHeight 13 = .ok (.iload_n 2, 1) := by decide +kernel
theorem dX7_refusalOfHeight_14 : decode cX7_refusalOfHeight 14 = .ok (.iconst 1, 1) := by decide +kernel
theorem dX7_refusalOfHeight_15 : decode cX7_refusalOfHeight 15 = .ok (.bipush 15, 2) := by decide +kernel
theorem dX7_refusalOfHeight_17 : decode cX7_refusalOfHeight 17 = .ok (.invokestatic 64, 3) := by decide +kernel
theorem dX7_refusalOfHeight_20 : decode cX7_refusalOfHeight 20 = .ok (.ifCond .eq 7, 3) := by decide +kernel
theorem dX7_refusalOfHeight_23 : decode cX7_refusalOfHeight 23 = .ok (.iconst 0, 1) := by decide +kernel
theorem dX7_refusalOfHeight_24 : decode cX7_refusalOfHeight 24 = .ok (.goto 5, 3) := by decide +kernel
theorem dX7_refusalOfHeight_27 : decode cX7_refusalOfHeight 27 = .ok (.bipush (-2), 2) := by decide +kernel
theorem dX7_refusalOfHeight_29 : decode cX7_refusalOfHeight 29 = .ok (.ireturn, 1) := by decide +kernel
set_option maxRecDepth 20000 in
theorem ggX7_refusalOfClimb_X5_isThere : GoodIn wsX7_refusalOfClimb wsX5_isThere := goodIn_r _ [6, 7, 8, 9, 10, 24, 25, 26, 27, 28, 29, 30, 31, 32, 33, 34, 35, 36] (by decide +kernel) (by decide +kernel)
set_option maxRecDepth 20000 in
theorem gX7_refusalOfClimb_X5_isThere : GoodIn wsX7_refusalOfClimb (wsV RX7 82 RX5 yX5_isThere wsX5_isThere) := goodIn_app (goodIn_of _ (by decide +kernel)) ggX7_refusalOfClimb_X5_isThere
set_option maxRecDepth 20000 in
theorem ggX7_refusalOfClimb_X7_within : GoodIn wsX7_refusalOfClimb wsX7_within := goodIn_r _ [13] (by decide +kernel) (by decide +kernel)
set_option maxRecDepth 20000 in
theorem gX7_refusalOfClimb_X7_within : GoodIn wsX7_refusalOfClimb (va_wsS RX7 64 yX7_within wsX7_within) := goodIn_app (goodIn_of _ (by decide +kernel)) ggX7_refusalOfClimb_X7_within
theorem dX7_refusalOfClimb_0 : decode cX7_refusalOfClimb 0 = .ok (.aload_n 0, 1) := by decide +kernel
theorem dX7_refusalOfClimb_1 : decode cX7_refusalOfClimb 1 = .ok (.getfield 10, 3) := by decide +kernel
theorem dX7_refusalOfClimb_4 : decode cX7_refusalOfClimb 4 = .ok (.iload_n 1, 1) := by decide +kernel
theorem dX7_refusalOfClimb_5 : decode cX7_refusalOfClimb 5 = .ok (.invokevirtual 82, 3) := by decide +kernel
theorem dX7_refusalOfClimb_8 : decode cX7_refusalOfClimb 8 = .ok (.ifCond .eq 19, 3) := by decide +kernel
theorem dX7_refusalOfClimb_11 : decode cX7_refusalOfClimb 11 = .ok (.aload_n 0, 1) := by decide +kernel
theorem dX7_refusalOfClimb_12 : decode cX7_refusalOfClimb 12 = .ok (.getfield 10, 3) := by decide +kernel
theorem dX7_refusalOfClimb_15 : decode cX7_refusalOfClimb 15 = .ok (.iload_n 2, 1) := by decide +kernel
theorem dX7_refusalOfClimb_16 : decode cX7_refusalOfClimb 16 = .ok (.invokevirtual 82, 3) := by decide +kernel
theorem dX7_refusalOfClimb_19 : decode cX7_refusalOfClimb 19 = .ok (.ifCond .eq 8, 3) := by decide +kernel
theorem dX7_refusalOfClimb_22 : decode cX7_refusalOfClimb 22 = .ok (.iload_n 1, 1) := by decide +kernel
theorem dX7_refusalOfClimb_23 : decode cX7_refusalOfClimb 23 = .ok (.iload_n 2, 1) := by decide +kernel
theorem dX7_refusalOfClimb_24 : decode cX7_refusalOfClimb 24 = .ok (.if_icmp .ne 5, 3) := by decide +kernel
theorem dX7_refusalOfClimb_27 : decode cX7_refusalOfClimb 27 = .ok (.iconst (-1), 1) := by decide +kernel
theorem dX7_refusalOfClimb_28 : decode cX7_refusalOfClimb 28 = .ok (.ireturn, 1) := by decide +kernel
theorem dX7_refusalOfClimb_29 : decode cX7_refusalOfClimb 29 = .ok (.iload 4, 2) := by decide +kernel
theorem dX7_refusalOfClimb_31 : decode cX7_refusalOfClimb 31 = .ok (.iconst 1, 1) := by decide +kernel
theorem dX7_refusalOfClimb_32 : decode cX7_refusalOfClimb 32 = .ok (.bipush 15, 2) := by decide +kernel
theorem dX7_refusalOfClimb_34 : decode cX7_refusalOfClimb 34 = .ok (.invokestatic 64, 3) := by decide +kernel
theorem dX7_refusalOfClimb_37 : decode cX7_refusalOfClimb 37 = .ok (.ifCond .eq 17, 3) := by decide +kernel
theorem dX7_refusalOfClimb_40 : decode cX7_refusalOfClimb 40 = .ok (.iload_n 3, 1) := by decide +kernel
theorem dX7_refusalOfClimb_41 : decode cX7_refusalOfClimb 41 = .ok (.iconst 1, 1) := by decide +kernel
theorem dX7_refusalOfClimb_42 : decode cX7_refusalOfClimb 42 = .ok (.iload 4, 2) := by decide +kernel
theorem dX7_refusalOfClimb_44 : decode cX7_refusalOfClimb 44 = .ok (.invokestatic 64, 3) := by decide +kernel
theorem dX7_refusalOfClimb_47 : decode cX7_refusalOfClimb 47 = .ok (.ifCond .eq 7, 3) := by decide +kernel
theorem dX7_refusalOfClimb_50 : decode cX7_refusalOfClimb 50 = .ok (.iconst 0, 1) := by decide +kernel
theorem dX7_refusalOfClimb_51 : decode cX7_refusalOfClimb 51 = .ok (.goto 5, 3) := by decide +kernel
theorem dX7_refusalOfClimb_54 : decode cX7_refusalOfClimb 54 = .ok (.bipush (-2), 2) := by decide +kernel
theorem dX7_refusalOfClimb_56 : decode cX7_refusalOfClimb 56 = .ok (.ireturn, 1) := by decide +kernel
theorem dX7_within_0 : decode cX7_within 0 = .ok (.iload_n 0, 1) := by decide +kernel
theorem dX7_within_1 : decode cX7_within 1 = .ok (.iload_n 1, 1) := by decide +kernel
theorem dX7_within_2 : decode cX7_within 2 = .ok (.if_icmp .lt 12, 3) := by decide +kernel
theorem dX7_within_5 : decode cX7_within 5 = .ok (.iload_n 0, 1) := by decide +kernel
theorem dX7_within_6 : decode cX7_within 6 = .ok (.iload_n 2, 1) := by decide +kernel
theorem dX7_within_7 : decode cX7_within 7 = .ok (.if_icmp .gt 7, 3) := by decide +kernel
theorem dX7_within_10 : decode cX7_within 10 = .ok (.iconst 1, 1) := by decide +kernel
theorem dX7_within_11 : decode cX7_within 11 = .ok (.goto 4, 3) := by decide +kernel
theorem dX7_within_14 : decode cX7_within 14 = .ok (.iconst 0, 1) := by decide +kernel
theorem dX7_within_15 : decode cX7_within 15 = .ok (.ireturn, 1) := by decide +kernel
theorem dX7_at_0 : decode cX7_at 0 = .ok (.aload_n 0, 1) := by decide +kernel
theorem dX7_at_1 : decode cX7_at 1 = .ok (.ifnull 19, 3) := by decide +kernel
theorem dX7_at_4 : decode cX7_at 4 = .ok (.iload_n 1, 1) := by decide +kernel
theorem dX7_at_5 : decode cX7_at 5 = .ok (.ifCond .lt 15, 3) := by decide +kernel
theorem dX7_at_8 : decode cX7_at 8 = .ok (.iload_n 1, 1) := by decide +kernel
theorem dX7_at_9 : decode cX7_at 9 = .ok (.aload_n 0, 1) := by decide +kernel
theorem dX7_at_10 : decode cX7_at 10 = .ok (.arraylength, 1) := by decide +kernel
theorem dX7_at_11 : decode cX7_at 11 = .ok (.if_icmp .ge 9, 3) := by decide +kernel
theorem dX7_at_14 : decode cX7_at 14 = .ok (.aload_n 0, 1) := by decide +kernel
theorem dX7_at_15 : decode cX7_at 15 = .ok (.iload_n 1, 1) := by decide +kernel
theorem dX7_at_16 : decode cX7_at 16 = .ok (.iaload, 1) := by decide +kernel
theorem dX7_at_17 : decode cX7_at 17 = .ok (.goto 4, 3) := by decide +kernel
theorem dX7_at_20 : decode cX7_at 20 = .ok (.iconst 0, 1) := by decide +kernel
theorem dX7_at_21 : decode cX7_at 21 = .ok (.ireturn, 1) := by decide +kernel
theorem dX7_put_0 : decode cX7_put 0 = .ok (.aload_n 0, 1) := by decide +kernel
theorem dX7_put_1 : decode cX7_put 1 = .ok (.ifnull 17, 3) := by decide +kernel
theorem dX7_put_4 : decode cX7_put 4 = .ok (.iload_n 1, 1) := by decide +kernel
theorem dX7_put_5 : decode cX7_put 5 = .ok (.ifCond .lt 13, 3) := by decide +kernel
theorem dX7_put_8 : decode cX7_put 8 = .ok (.iload_n 1, 1) := by decide +kernel
theorem dX7_put_9 : decode cX7_put 9 = .ok (.aload_n 0, 1) := by decide +kernel
theorem dX7_put_10 : decode cX7_put 10 = .ok (.arraylength, 1) := by decide +kernel
theorem dX7_put_11 : decode cX7_put 11 = .ok (.if_icmp .ge 7, 3) := by decide +kernel
theorem dX7_put_14 : decode cX7_put 14 = .ok (.aload_n 0, 1) := by decide +kernel
theorem dX7_put_15 : decode cX7_put 15 = .ok (.iload_n 1, 1) := by decide +kernel
theorem dX7_put_16 : decode cX7_put 16 = .ok (.iload_n 2, 1) := by decide +kernel
theorem dX7_put_17 : decode cX7_put 17 = .ok (.iastore, 1) := by decide +kernel
theorem dX7_put_18 : decode cX7_put 18 = .ok (.return_, 1) := by decide +kernel
set_option maxRecDepth 20000 in
theorem ggX7_copyRow_X7_at : GoodIn wsX7_copyRow wsX7_at := goodIn_r _ [4] (by decide +kernel) (by decide +kernel)
set_option maxRecDepth 20000 in
theorem gX7_copyRow_X7_at : GoodIn wsX7_copyRow (va_wsS RX7 94 yX7_at wsX7_at) := goodIn_app (goodIn_of _ (by decide +kernel)) ggX7_copyRow_X7_at
set_option maxRecDepth 20000 in
theorem ggX7_copyRow_X7_put : GoodIn wsX7_copyRow wsX7_put := goodIn_r _ [7] (by decide +kernel) (by decide +kernel)
set_option maxRecDepth 20000 in
theorem gX7_copyRow_X7_put : GoodIn wsX7_copyRow (va_wsS RX7 107 yX7_put wsX7_put) := goodIn_app (goodIn_of _ (by decide +kernel)) ggX7_copyRow_X7_put
theorem dX7_copyRow_0 : decode cX7_copyRow 0 = .ok (.iconst 0, 1) := by decide +kernel
theorem dX7_copyRow_1 : decode cX7_copyRow 1 = .ok (.istore_n 2, 1) := by decide +kernel
theorem dX7_copyRow_2 : decode cX7_copyRow 2 = .ok (.aload_n 1, 1) := by decide +kernel
theorem dX7_copyRow_3 : decode cX7_copyRow 3 = .ok (.ifnull 25, 3) := by decide +kernel
theorem dX7_copyRow_6 : decode cX7_copyRow 6 = .ok (.iload_n 2, 1) := by decide +kernel
theorem dX7_copyRow_7 : decode cX7_copyRow 7 = .ok (.aload_n 1, 1) := by decide +kernel
theorem dX7_copyRow_8 : decode cX7_copyRow 8 = .ok (.arraylength, 1) := by decide +kernel
theorem dX7_copyRow_9 : decode cX7_copyRow 9 = .ok (.if_icmp .ge 19, 3) := by decide +kernel
theorem dX7_copyRow_12 : decode cX7_copyRow 12 = .ok (.aload_n 1, 1) := by decide +kernel
theorem dX7_copyRow_13 : decode cX7_copyRow 13 = .ok (.iload_n 2, 1) := by decide +kernel
theorem dX7_copyRow_14 : decode cX7_copyRow 14 = .ok (.aload_n 0, 1) := by decide +kernel
theorem dX7_copyRow_15 : decode cX7_copyRow 15 = .ok (.iload_n 2, 1) := by decide +kernel
theorem dX7_copyRow_16 : decode cX7_copyRow 16 = .ok (.invokestatic 94, 3) := by decide +kernel
theorem dX7_copyRow_19 : decode cX7_copyRow 19 = .ok (.invokestatic 107, 3) := by decide +kernel
theorem dX7_copyRow_22 : decode cX7_copyRow 22 = .ok (.iinc 2 1, 3) := by decide +kernel
theorem dX7_copyRow_25 : decode cX7_copyRow 25 = .ok (.goto (-23), 3) := by decide +kernel
theorem dX7_copyRow_28 : decode cX7_copyRow 28 = .ok (.return_, 1) := by decide +kernel
theorem dX7_drawAfter_0 : decode cX7_drawAfter 0 = .ok (.bipush 75, 2) := by decide +kernel
theorem dX7_drawAfter_2 : decode cX7_drawAfter 2 = .ok (.iload_n 0, 1) := by decide +kernel
theorem dX7_drawAfter_3 : decode cX7_drawAfter 3 = .ok (.imul, 1) := by decide +kernel
theorem dX7_drawAfter_4 : decode cX7_drawAfter 4 = .ok (.bipush 74, 2) := by decide +kernel
theorem dX7_drawAfter_6 : decode cX7_drawAfter 6 = .ok (.iadd, 1) := by decide +kernel
theorem dX7_drawAfter_7 : decode cX7_drawAfter 7 = .ok (.ldc_w 284, 3) := by decide +kernel
theorem dX7_drawAfter_10 : decode cX7_drawAfter 10 = .ok (.irem, 1) := by decide +kernel
theorem dX7_drawAfter_11 : decode cX7_drawAfter 11 = .ok (.ireturn, 1) := by decide +kernel
