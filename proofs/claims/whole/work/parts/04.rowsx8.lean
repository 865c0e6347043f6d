theorem dX8_init_0 : decode cX8_init 0 = .ok (.aload_n 0, 1) := by decide +kernel
theorem dX8_init_1 : decode cX8_init 1 = .ok (.invokespecial 1, 3) := by decide +kernel
theorem dX8_init_4 : decode cX8_init 4 = .ok (.aload_n 0, 1) := by decide +kernel
theorem dX8_init_5 : decode cX8_init 5 = .ok (.bipush 6, 2) := by decide +kernel
theorem dX8_init_7 : decode cX8_init 7 = .ok (.newarray .int, 2) := by decide +kernel
theorem dX8_init_9 : decode cX8_init 9 = .ok (.putfield 7, 3) := by decide +kernel
theorem dX8_init_12 : decode cX8_init 12 = .ok (.aload_n 0, 1) := by decide +kernel
theorem dX8_init_13 : decode cX8_init 13 = .ok (.bipush 6, 2) := by decide +kernel
theorem dX8_init_15 : decode cX8_init 15 = .ok (.newarray .int, 2) := by decide +kernel
theorem dX8_init_17 : decode cX8_init 17 = .ok (.putfield 13, 3) := by decide +kernel
theorem dX8_init_20 : decode cX8_init 20 = .ok (.aload_n 0, 1) := by decide +kernel
theorem dX8_init_21 : decode cX8_init 21 = .ok (.bipush 6, 2) := by decide +kernel
theorem dX8_init_23 : decode cX8_init 23 = .ok (.newarray .int, 2) := by decide +kernel
theorem dX8_init_25 : decode cX8_init 25 = .ok (.putfield 16, 3) := by decide +kernel
theorem dX8_init_28 : decode cX8_init 28 = .ok (.aload_n 0, 1) := by decide +kernel
theorem dX8_init_29 : decode cX8_init 29 = .ok (.bipush 6, 2) := by decide +kernel
theorem dX8_init_31 : decode cX8_init 31 = .ok (.newarray .int, 2) := by decide +kernel
theorem dX8_init_33 : decode cX8_init 33 = .ok (.putfield 19, 3) := by decide +kernel
theorem dX8_init_36 : decode cX8_init 36 = .ok (.aload_n 0, 1) := by decide +kernel
theorem dX8_init_37 : decode cX8_init 37 = .ok (.bipush 6, 2) := by decide +kernel
theorem dX8_init_39 : decode cX8_init 39 = .ok (.newarray .int, 2) := by decide +kernel
theorem dX8_init_41 : decode cX8_init 41 = .ok (.putfield 22, 3) := by decide +kernel
theorem dX8_init_44 : decode cX8_init 44 = .ok (.aload_n 0, 1) := by decide +kernel
theorem dX8_init_45 : decode cX8_init 45 = .ok (.bipush 6, 2) := by decide +kernel
theorem dX8_init_47 : decode cX8_init 47 = .ok (.newarray .int, 2) := by decide +kernel
theorem dX8_init_49 : decode cX8_init 49 = .ok (.putfield 25, 3) := by decide +kernel
theorem dX8_init_52 : decode cX8_init 52 = .ok (.aload_n 0, 1) := by decide +kernel
theorem dX8_init_53 : decode cX8_init 53 = .ok (.bipush 6, 2) := by decide +kernel
theorem dX8_init_55 : decode cX8_init 55 = .ok (.newarray .int, 2) := by decide +kernel
theorem dX8_init_57 : decode cX8_init 57 = .ok (.putfield 28, 3) := by decide +kernel
theorem dX8_init_60 : decode cX8_init 60 = .ok (.aload_n 0, 1) := by decide +kernel
theorem dX8_init_61 : decode cX8_init 61 = .ok (.bipush 6, 2) := by decide +kernel
theorem dX8_init_63 : decode cX8_init 63 = .ok (.newarray .int, 2) := by decide +kernel
theorem dX8_init_65 : decode cX8_init 65 = .ok (.putfield 31, 3) := by decide +kernel
theorem dX8_init_68 : decode cX8_init 68 = .ok (.aload_n 0, 1) := by decide +kernel
theorem dX8_init_69 : decode cX8_init 69 = .ok (.bipush 6, 2) := by decide +kernel
theorem dX8_init_71 : decode cX8_init 71 = .ok (.newarray .int, 2) := by decide +kernel
theorem dX8_init_73 : decode cX8_init 73 = .ok (.putfield 34, 3) := by decide +kernel
theorem dX8_init_76 : decode cX8_init 76 = .ok (.aload_n 0, 1) := by decide +kernel
theorem dX8_init_77 : decode cX8_init 77 = .ok (.bipush 6, 2) := by decide +kernel
theorem dX8_init_79 : decode cX8_init 79 = .ok (.newarray .int, 2) := by decide +kernel
theorem dX8_init_81 : decode cX8_init 81 = .ok (.putfield 37, 3) := by decide +kernel
theorem dX8_init_84 : decode cX8_init 84 = .ok (.aload_n 0, 1) := by decide +kernel
theorem dX8_init_85 : decode cX8_init 85 = .ok (.bipush 60, 2) := by decide +kernel
theorem dX8_init_87 : decode cX8_init 87 = .ok (.newarray .int, 2) := by decide +kernel
theorem dX8_init_89 : decode cX8_init 89 = .ok (.putfield 40, 3) := by decide +kernel
theorem dX8_init_92 : decode cX8_init 92 = .ok (.aload_n 0, 1) := by decide +kernel
theorem dX8_init_93 : decode cX8_init 93 = .ok (.bipush 60, 2) := by decide +kernel
theorem dX8_init_95 : decode cX8_init 95 = .ok (.newarray .int, 2) := by decide +kernel
theorem dX8_init_97 : decode cX8_init 97 = .ok (.putfield 43, 3) := by decide +kernel
theorem dX8_init_100 : decode cX8_init 100 = .ok (.aload_n 0, 1) := by decide +kernel
theorem dX8_init_101 : decode cX8_init 101 = .ok (.bipush 60, 2) := by decide +kernel
theorem dX8_init_103 : decode cX8_init 103 = .ok (.newarray .int, 2) := by decide +kernel
theorem dX8_init_105 : decode cX8_init 105 = .ok (.putfield 46, 3) := by decide +kernel
theorem dX8_init_108 : decode cX8_init 108 = .ok (.aload_n 0, 1) := by decide +kernel
theorem dX8_init_109 : decode cX8_init 109 = .ok (.bipush 60, 2) := by decide +kernel
theorem dX8_init_111 : decode cX8_init 111 = .ok (.newarray .int, 2) := by decide +kernel
theorem dX8_init_113 : decode cX8_init 113 = .ok (.putfield 49, 3) := by decide +kernel
theorem dX8_init_116 : decode cX8_init 116 = .ok (.aload_n 0, 1) := by decide +kernel
theorem dX8_init_117 : decode cX8_init 117 = .ok (.bipush 60, 2) := by decide +kernel
theorem dX8_init_119 : decode cX8_init 119 = .ok (.newarray .int, 2) := by decide +kernel
theorem dX8_init_121 : decode cX8_init 121 = .ok (.putfield 52, 3) := by decide +kernel
theorem dX8_init_124 : decode cX8_init 124 = .ok (.aload_n 0, 1) := by decide +kernel
theorem dX8_init_125 : decode cX8_init 125 = .ok (.bipush 6, 2) := by decide +kernel
theorem dX8_init_127 : decode cX8_init 127 = .ok (.newarray .int, 2) := by decide +kernel
theorem dX8_init_129 : decode cX8_init 129 = .ok (.putfield 55, 3) := by decide +kernel
theorem dX8_init_132 : decode cX8_init 132 = .ok (.aload_n 0, 1) := by decide +kernel
theorem dX8_init_133 : decode cX8_init 133 = .ok (.bipush 6, 2) := by decide +kernel
theorem dX8_init_135 : decode cX8_init 135 = .ok (.newarray .int, 2) := by decide +kernel
theorem dX8_init_137 : decode cX8_init 137 = .ok (.putfield 58, 3) := by decide +kernel
theorem dX8_init_140 : decode cX8_init 140 = .ok (.aload_n 0, 1) := by decide +kernel
theorem dX8_init_141 : decode cX8_init 141 = .ok (.bipush 6, 2) := by decide +kernel
theorem dX8_init_143 : decode cX8_init 143 = .ok (.newarray .int, 2) := by decide +kernel
theorem dX8_init_145 : decode cX8_init 145 = .ok (.putfield 61, 3) := by decide +kernel
theorem dX8_init_148 : decode cX8_init 148 = .ok (.aload_n 0, 1) := by decide +kernel
theorem dX8_init_149 : decode cX8_init 149 = .ok (.bipush 32, 2) := by decide +kernel
theorem dX8_init_151 : decode cX8_init 151 = .ok (.newarray .int, 2) := by decide +kernel
theorem dX8_init_153 : decode cX8_init 153 = .ok (.putfield 64, 3) := by decide +kernel
theorem dX8_init_156 : decode cX8_init 156 = .ok (.aload_n 0, 1) := by decide +kernel
theorem dX8_init_157 : decode cX8_init 157 = .ok (.bipush 32, 2) := by decide +kernel
theorem dX8_init_159 : decode cX8_init 159 = .ok (.newarray .int, 2) := by decide +kernel
theorem dX8_init_161 : decode cX8_init 161 = .ok (.putfield 67, 3) := by decide +kernel
theorem dX8_init_164 : decode cX8_init 164 = .ok (.aload_n 0, 1) := by decide +kernel
theorem dX8_init_165 : decode cX8_init 165 = .ok (.bipush 32, 2) := by decide +kernel
theorem dX8_init_167 : decode cX8_init 167 = .ok (.newarray .int, 2) := by decide +kernel
theorem dX8_init_169 : decode cX8_init 169 = .ok (.putfield 70, 3) := by decide +kernel
theorem dX8_init_172 : decode cX8_init 172 = .ok (.aload_n 0, 1) := by decide +kernel
theorem dX8_init_173 : decode cX8_init 173 = .ok (.sipush 200, 3) := by decide +kernel
theorem dX8_init_176 : decode cX8_init 176 = .ok (.newarray .int, 2) := by decide +kernel
theorem dX8_init_178 : decode cX8_init 178 = .ok (.putfield 73, 3) := by decide +kernel
theorem dX8_init_181 : decode cX8_init 181 = .ok (.aload_n 0, 1) := by decide +kernel
theorem dX8_init_182 : decode cX8_init 182 = .ok (.iconst 2, 1) := by decide +kernel
theorem dX8_init_183 : decode cX8_init 183 = .ok (.newarray .boolean, 2) := by decide +kernel
theorem dX8_init_185 : decode cX8_init 185 = .ok (.putfield 76, 3) := by decide +kernel
theorem dX8_init_188 : decode cX8_init 188 = .ok (.aload_n 0, 1) := by decide +kernel
theorem dX8_init_189 : decode cX8_init 189 = .ok (.iconst 2, 1) := by decide +kernel
theorem dX8_init_190 : decode cX8_init 190 = .ok (.putfield 80, 3) := by decide +kernel
theorem dX8_init_193 : decode cX8_init 193 = .ok (.aload_n 0, 1) := by decide +kernel
theorem dX8_init_194 : decode cX8_init 194 = .ok (.iconst 3, 1) := by decide +kernel
theorem dX8_init_195 : decode cX8_init 195 = .ok (.putfield 84, 3) := by decide +kernel
theorem dX8_init_198 : decode cX8_init 198 = .ok (.aload_n 0, 1) := by decide +kernel
theorem dX8_init_199 : decode cX8_init 199 = .ok (.bipush 20, 2) := by decide +kernel
theorem dX8_init_201 : decode cX8_init 201 = .ok (.putfield 87, 3) := by decide +kernel
theorem dX8_init_204 : decode cX8_init 204 = .ok (.aload_n 0, 1) := by decide +kernel
theorem dX8_init_205 : decode cX8_init 205 = .ok (.iconst 1, 1) := by decide +kernel
theorem dX8_init_206 : decode cX8_init 206 = .ok (.putfield 90, 3) := by decide +kernel
theorem dX8_init_209 : decode cX8_init 209 = .ok (.aload_n 0, 1) := by decide +kernel
theorem dX8_init_210 : decode cX8_init 210 = .ok (.bipush 6, 2) := by decide +kernel
theorem dX8_init_212 : decode cX8_init 212 = .ok (.putfield 93, 3) := by decide +kernel
theorem dX8_init_215 : decode cX8_init 215 = .ok (.aload_n 0, 1) := by decide +kernel
theorem dX8_init_216 : decode cX8_init 216 = .ok (.iconst 1, 1) := by decide +kernel
theorem dX8_init_217 : decode cX8_init 217 = .ok (.putfield 96, 3) := by decide +kernel
theorem dX8_init_220 : decode cX8_init 220 = .ok (.return_, 1) := by decide +kernel
theorem dX8_in_0 : decode cX8_in 0 = .ok (.lload_n 0, 1) := by decide +kernel
theorem dX8_in_1 : decode cX8_in 1 = .ok (.lload_n 2, 1) := by decide +kernel
theorem dX8_in_2 : decode cX8_in 2 = .ok (.lcmp, 1) := by decide +kernel
theorem dX8_in_3 : decode cX8_in 3 = .ok (.ifCond .lt 14, 3) := by decide +kernel
theorem dX8_in_6 : decode cX8_in 6 = .ok (.lload_n 0, 1) := by decide +kernel
theorem dX8_in_7 : decode cX8_in 7 = .ok (.lload 4, 2) := by decide +kernel
theorem dX8_in_9 : decode cX8_in 9 = .ok (.lcmp, 1) := by decide +kernel
theorem dX8_in_10 : decode cX8_in 10 = .ok (.ifCond .gt 7, 3) := by decide +kernel
theorem dX8_in_13 : decode cX8_in 13 = .ok (.iconst 1, 1) := by decide +kernel
theorem dX8_in_14 : decode cX8_in 14 = .ok (.goto 4, 3) := by decide +kernel
theorem dX8_in_17 : decode cX8_in 17 = .ok (.iconst 0, 1) := by decide +kernel
theorem dX8_in_18 : decode cX8_in 18 = .ok (.ireturn, 1) := by decide +kernel
theorem dX8_ones_0 : decode cX8_ones 0 = .ok (.iconst 0, 1) := by decide +kernel
theorem dX8_ones_1 : decode cX8_ones 1 = .ok (.istore_n 1, 1) := by decide +kernel
theorem dX8_ones_2 : decode cX8_ones 2 = .ok (.iload_n 0, 1) := by decide +kernel
theorem dX8_ones_3 : decode cX8_ones 3 = .ok (.istore_n 2, 1) := by decide +kernel
theorem dX8_ones_4 : decode cX8_ones 4 = .ok (.iload_n 2, 1) := by decide +kernel
theorem dX8_ones_5 : decode cX8_ones 5 = .ok (.ifCond .eq 15, 3) := by decide +kernel
theorem dX8_ones_8 : decode cX8_ones 8 = .ok (.iinc 1 1, 3) := by decide +kernel
theorem dX8_ones_11 : decode cX8_ones 11 = .ok (.iload_n 2, 1) := by decide +kernel
theorem dX8_ones_12 : decode cX8_ones 12 = .ok (.iload_n 2, 1) := by decide +kernel
theorem dX8_ones_13 : decode cX8_ones 13 = .ok (.iconst 1, 1) := by decide +kernel
theorem dX8_ones_14 : decode cX8_ones 14 = .ok (.isub, 1) := by decide +kernel
theorem dX8_ones_15 : decode cX8_ones 15 = .ok (.iand, 1) := by decide +kernel
theorem dX8_ones_16 : decode cX8_ones 16 = .ok (.istore_n 2, 1) := by decide +kernel
theorem dX8_ones_17 : decode cX8_ones 17 = .ok (.goto (-13), 3) := by decide +kernel
theorem dX8_ones_20 : decode cX8_ones 20 = .ok (.iload_n 1, 1) := by decide +kernel
theorem dX8_ones_21 : decode cX8_ones 21 = .ok (.ireturn, 1) := by decide +kernel
theorem dX8_most_0 : decode cX8_most 0 = .ok (.iload_n 0, 1) := by decide +kernel
theorem dX8_most_1 : decode cX8_most 1 = .ok (.iload_n 1, 1) := by decide +kernel
theorem dX8_most_2 : decode cX8_most 2 = .ok (.if_icmp .le 7, 3) := by decide +kernel
theorem dX8_most_5 : decode cX8_most 5 = .ok (.iload_n 0, 1) := by decide +kernel
theorem dX8_most_6 : decode cX8_most 6 = .ok (.goto 4, 3) := by decide +kernel
theorem dX8_most_9 : decode cX8_most 9 = .ok (.iload_n 1, 1) := by decide +kernel
theorem dX8_most_10 : decode cX8_most 10 = .ok (.ireturn, 1) := by decide +kernel
set_option maxRecDepth 20000 in
theorem ggX8_isNumber_X8_in : GoodIn wsX8_isNumber wsX8_in := goodIn_r _ [5] (by decide +kernel) (by decide +kernel)
set_option maxRecDepth 20000 in
theorem gX8_isNumber_X8_in : GoodIn wsX8_isNumber (va_wsS RX8 101 yX8_in wsX8_in) := goodIn_app (goodIn_of _ (by decide +kernel)) ggX8_isNumber_X8_in
theorem dX8_isNumber_0 : decode cX8_isNumber 0 = .ok (.iload_n 0, 1) := by decide +kernel
theorem dX8_isNumber_1 : decode cX8_isNumber 1 = .ok (.i2l, 1) := by decide +kernel
theorem dX8_isNumber_2 : decode cX8_isNumber 2 = .ok (.lconst 0, 1) := by decide +kernel
theorem dX8_isNumber_3 : decode cX8_isNumber 3 = .ok (.ldc2_w 99, 3) := by decide +kernel
theorem dX8_isNumber_6 : decode cX8_isNumber 6 = .ok (.invokestatic 101, 3) := by decide +kernel
theorem dX8_isNumber_9 : decode cX8_isNumber 9 = .ok (.ireturn, 1) := by decide +kernel
set_option maxRecDepth 20000 in
theorem ggX8_isThere_X8_isNumber : GoodIn wsX8_isThere wsX8_isNumber := goodIn_r _ [5, 6, 7, 8, 4, 9] (by decide +kernel) (by decide +kernel)
set_option maxRecDepth 20000 in
theorem gX8_isThere_X8_isNumber : GoodIn wsX8_isThere (va_wsS RX8 105 yX8_isNumber wsX8_isNumber) := goodIn_app (goodIn_of _ (by decide +kernel)) ggX8_isThere_X8_isNumber
theorem dX8_isThere_0 : decode cX8_isThere 0 = .ok (.iload_n 1, 1) := by decide +kernel
theorem dX8_isThere_1 : decode cX8_isThere 1 = .ok (.invokestatic 105, 3) := by decide +kernel
theorem dX8_isThere_4 : decode cX8_isThere 4 = .ok (.ifCond .eq 19, 3) := by decide +kernel
theorem dX8_isThere_7 : decode cX8_isThere 7 = .ok (.aload_n 0, 1) := by decide +kernel
theorem dX8_isThere_8 : decode cX8_isThere 8 = .ok (.getfield 109, 3) := by decide +kernel
theorem dX8_isThere_11 : decode cX8_isThere 11 = .ok (.iload_n 1, 1) := by decide +kernel
theorem dX8_isThere_12 : decode cX8_isThere 12 = .ok (.ishr, 1) := by decide +kernel
theorem dX8_isThere_13 : decode cX8_isThere 13 = .ok (.iconst 1, 1) := by decide +kernel
theorem dX8_isThere_14 : decode cX8_isThere 14 = .ok (.iand, 1) := by decide +kernel
theorem dX8_isThere_15 : decode cX8_isThere 15 = .ok (.iconst 1, 1) := by decide +kernel
theorem dX8_isThere_16 : decode cX8_isThere 16 = .ok (.if_icmp .ne 7, 3) := by decide +kernel
theorem dX8_isThere_19 : decode cX8_isThere 19 = .ok (.iconst 1, 1) := by decide +kernel
theorem dX8_isThere_20 : decode cX8_isThere 20 = .ok (.goto 4, 3) := by decide +kernel
theorem dX8_isThere_23 : decode cX8_isThere 23 = .ok (.iconst 0, 1) := by decide +kernel
theorem dX8_isThere_24 : decode cX8_isThere 24 = .ok (.ireturn, 1) := by decide +kernel
set_option maxRecDepth 20000 in
theorem ggX8_isNine_X8_in : GoodIn wsX8_isNine wsX8_in := goodIn_r _ [5] (by decide +kernel) (by decide +kernel)
set_option maxRecDepth 20000 in
theorem gX8_isNine_X8_in : GoodIn wsX8_isNine (va_wsS RX8 101 yX8_in wsX8_in) := goodIn_app (goodIn_of _ (by decide +kernel)) ggX8_isNine_X8_in
theorem dX8_isNine_0 : decode cX8_isNine 0 = .ok (.iload_n 0, 1) := by decide +kernel
theorem dX8_isNine_1 : decode cX8_isNine 1 = .ok (.i2l, 1) := by decide +kernel
theorem dX8_isNine_2 : decode cX8_isNine 2 = .ok (.lconst 0, 1) := by decide +kernel
theorem dX8_isNine_3 : decode cX8_isNine 3 = .ok (.ldc2_w 112, 3) := by decide +kernel
theorem dX8_isNine_6 : decode cX8_isNine 6 = .ok (.invokestatic 101, 3) := by decide +kernel
theorem dX8_isNine_9 : decode cX8_isNine 9 = .ok (.ireturn, 1) := by decide +kernel
set_option maxRecDepth 20000 in
theorem ggX8_isHeight_X8_in : GoodIn wsX8_isHeight wsX8_in := goodIn_r _ [5] (by decide +kernel) (by decide +kernel)
set_option maxRecDepth 20000 in
theorem gX8_isHeight_X8_in : GoodIn wsX8_isHeight (va_wsS RX8 101 yX8_in wsX8_in) := goodIn_app (goodIn_of _ (by decide +kernel)) ggX8_isHeight_X8_in
theorem dX8_isHeight_0 : decode cX8_isHeight 0 = .ok (.iload_n 0, 1) := by decide +kernel
theorem dX8_isHeight_1 : decode cX8_isHeight 1 = .ok (.i2l, 1) := by decide +kernel
theorem dX8_isHeight_2 : decode cX8_isHeight 2 = .ok (.lconst 1, 1) := by decide +kernel
theorem dX8_isHeight_3 : decode cX8_isHeight 3 = .ok (.ldc2_w 114, 3) := by decide +kernel
theorem dX8_isHeight_6 : decode cX8_isHeight 6 = .ok (.invokestatic 101, 3) := by decide +kernel
theorem dX8_isHeight_9 : decode cX8_isHeight 9 = .ok (.ireturn, 1) := by decide +kernel
set_option maxRecDepth 20000 in
theorem ggX8_person_X8_isNumber : GoodIn wsX8_person wsX8_isNumber := goodIn_r _ [13, 14, 15, 16, 12, 17] (by decide +kernel) (by decide +kernel)
set_option maxRecDepth 20000 in
theorem gX8_person_X8_isNumber : GoodIn wsX8_person (va_wsS RX8 105 yX8_isNumber wsX8_isNumber) := goodIn_app (goodIn_of _ (by decide +kernel)) ggX8_person_X8_isNumber
set_option maxRecDepth 20000 in
theorem ggX8_person_X8_isNine : GoodIn wsX8_person wsX8_isNine := goodIn_r _ [20, 21, 15, 16, 12, 17] (by decide +kernel) (by decide +kernel)
set_option maxRecDepth 20000 in
theorem gX8_person_X8_isNine : GoodIn wsX8_person (va_wsS RX8 116 yX8_isNine wsX8_isNine) := goodIn_app (goodIn_of _ (by decide +kernel)) ggX8_person_X8_isNine
set_option maxRecDepth 20000 in
theorem ggX8_person_X8_ones : GoodIn wsX8_person wsX8_ones := goodIn_r _ [24] (by decide +kernel) (by decide +kernel)
set_option maxRecDepth 20000 in
theorem gX8_person_X8_ones : GoodIn wsX8_person (va_wsS RX8 119 yX8_ones wsX8_ones) := goodIn_app (goodIn_of _ (by decide +kernel)) ggX8_person_X8_ones
theorem dX8_person_0 : decode cX8_person 0 = .ok (.iload_n 1, 1) := by decide +kernel
theorem dX8_person_1 : decode cX8_person 1 = .ok (.invokestatic 105, 3) := by decide +kernel
theorem dX8_person_4 : decode cX8_person 4 = .ok (.ifCond .ne 5, 3) := by decide +kernel
theorem dX8_person_7 : decode cX8_person 7 = .ok (.iconst (-1), 1) := by decide +kernel
theorem dX8_person_8 : decode cX8_person 8 = .ok (.ireturn, 1) := by decide +kernel
theorem dX8_person_9 : decode cX8_person 9 = .ok (.iload_n 2, 1) := by decide +kernel
theorem dX8_person_10 : decode cX8_person 10 = .ok (.invokestatic 116, 3) := by decide +kernel
theorem dX8_person_13 : decode cX8_person 13 = .ok (.ifCond .eq 18, 3) := by decide +kernel
theorem dX8_person_16 : decode cX8_person 16 = .ok (.iload_n 3, 1) := by decide +kernel
theorem dX8_person_17 : decode cX8_person 17 = .ok (.invokestatic 116, 3) := by decide +kernel
theorem dX8_person_20 : decode cX8_person 20 = .ok (.ifCond .eq 11, 3) := by decide +kernel
theorem dX8_person_23 : decode cX8_person 23 = .ok (.iload 4, 2) := by decide +kernel
theorem dX8_person_25 : decode cX8_person 25 = .ok (.invokestatic 116, 3) := by decide +kernel
theorem dX8_person_28 : decode cX8_person 28 = .ok (.ifCond .ne 6, 3) := by decide +kernel
theorem dX8_person_31 : decode cX8_person 31 = .ok (.bipush (-2), 2) := by decide +kernel
theorem dX8_person_33 : decode cX8_person 33 = .ok (.ireturn, 1) := by decide +kernel
theorem dX8_person_34 : decode cX8_person 34 = .ok (.aload_n 0, 1) := by decide +kernel
theorem dX8_person_35 : decode cX8_person 35 = .ok (.getfield 7, 3) := by decide +kernel
theorem dX8_person_38 : decode cX8_person 38 = .ok (.iload_n 1, 1) := by decide +kernel
theorem dX8_person_39 : decode cX8_person 39 = .ok (.iload_n 2, 1) := by decide +kernel
theorem dX8_person_40 : decode cX8_person 40 = .ok (.iastore, 1) := by decide +kernel
theorem dX8_person_41 : decode cX8_person 41 = .ok (.aload_n 0, 1) := by decide +kernel
theorem dX8_person_42 : decode cX8_person 42 = .ok (.getfield 13, 3) := by decide +kernel
theorem dX8_person_45 : decode cX8_person 45 = .ok (.iload_n 1, 1) := by decide +kernel
theorem dX8_person_46 : decode cX8_person 46 = .ok (.iload_n 3, 1) := by decide +kernel
theorem dX8_person_47 : decode cX8_person 47 = .ok (.iastore, 1) := by decide +kernel
theorem dX8_person_48 : decode cX8_person 48 = .ok (.aload_n 0, 1) := by decide +kernel
theorem dX8_person_49 : decode cX8_person 49 = .ok (.getfield 16, 3) := by decide +kernel
theorem dX8_person_52 : decode cX8_person 52 = .ok (.iload_n 1, 1) := by decide +kernel
theorem dX8_person_53 : decode cX8_person 53 = .ok (.iload 4, 2) := by decide +kernel
theorem dX8_person_55 : decode cX8_person 55 = .ok (.iastore, 1) := by decide +kernel
theorem dX8_person_56 : decode cX8_person 56 = .ok (.aload_n 0, 1) := by decide +kernel
theorem dX8_person_57 : decode cX8_person 57 = .ok (.getfield 19, 3) := by decide +kernel
theorem dX8_person_60 : decode cX8_person 60 = .ok (.iload_n 1, 1) := by decide +kernel
theorem dX8_person_61 : decode cX8_person 61 = .ok (.iload 5, 2) := by decide +kernel
theorem dX8_person_63 : decode cX8_person 63 = .ok (.ifCond .eq 7, 3) := by decide +kernel
theorem dX8_person_66 : decode cX8_person 66 = .ok (.iconst 1, 1) := by decide +kernel
theorem dX8_person_67 : decode cX8_person 67 = .ok (.goto 4, 3) := by decide +kernel
theorem dX8_person_70 : decode cX8_person 70 = .ok (.iconst 0, 1) := by decide +kernel
theorem dX8_person_71 : decode cX8_person 71 = .ok (.iastore, 1) := by decide +kernel
theorem dX8_person_72 : decode cX8_person 72 = .ok (.aload_n 0, 1) := by decide +kernel
theorem dX8_person_73 : decode cX8_person 73 = .ok (.getfield 22, 3) := by decide +kernel
theorem dX8_person_76 : decode cX8_person 76 = .ok (.iload_n 1, 1) := by decide +kernel
theorem dX8_person_77 : decode cX8_person 77 = .ok (.aload_n 0, 1) := by decide +kernel
theorem dX8_person_78 : decode cX8_person 78 = .ok (.getfield 84, 3) := by decide +kernel
theorem dX8_person_81 : decode cX8_person 81 = .ok (.iastore, 1) := by decide +kernel
theorem dX8_person_82 : decode cX8_person 82 = .ok (.aload_n 0, 1) := by decide +kernel
theorem dX8_person_83 : decode cX8_person 83 = .ok (.getfield 25, 3) := by decide +kernel
theorem dX8_person_86 : decode cX8_person 86 = .ok (.iload_n 1, 1) := by decide +kernel
theorem dX8_person_87 : decode cX8_person 87 = .ok (.iconst 0, 1) := by decide +kernel
theorem dX8_person_88 : decode cX8_person 88 = .ok (.iastore, 1) := by decide +kernel
theorem dX8_person_89 : decode cX8_person 89 = .ok (.aload_n 0, 1) := by decide +kernel
theorem dX8_person_90 : decode cX8_person 90 = .ok (.getfield 28, 3) := by decide +kernel
theorem dX8_person_93 : decode cX8_person 93 = .ok (.iload_n 1, 1) := by decide +kernel
theorem dX8_person_94 : decode cX8_person 94 = .ok (.iconst 0, 1) := by decide +kernel
theorem dX8_person_95 : decode cX8_person 95 = .ok (.iastore, 1) := by decide +kernel
theorem dX8_person_96 : decode cX8_person 96 = .ok (.aload_n 0, 1) := by decide +kernel
theorem dX8_person_97 : decode cX8_person 97 = .ok (.dup, 1) := by decide +kernel
theorem dX8_person_98 : decode cX8_person 98 = .ok (.getfield 109, 3) := by decide +kernel
theorem dX8_person_101 : decode cX8_person 101 = .ok (.iconst 1, 1) := by decide +kernel
theorem dX8_person_102 : decode cX8_person 102 = .ok (.iload_n 1, 1) := by decide +kernel
theorem dX8_person_103 : decode cX8_person 103 = .ok (.ishl, 1) := by decide +kernel
theorem dX8_person_104 : decode cX8_person 104 = .ok (.ior, 1) := by decide +kernel
theorem dX8_person_105 : decode cX8_person 105 = .ok (.putfield 109, 3) := by decide +kernel
theorem dX8_person_108 : decode cX8_person 108 = .ok (.aload_n 0, 1) := by decide +kernel
theorem dX8_person_109 : decode cX8_person 109 = .ok (.getfield 109, 3) := by decide +kernel
theorem dX8_person_112 : decode cX8_person 112 = .ok (.invokestatic 119, 3) := by decide +kernel
theorem dX8_person_115 : decode cX8_person 115 = .ok (.ireturn, 1) := by decide +kernel
set_option maxRecDepth 20000 in
theorem ggX8_leave_X8_isThere : GoodIn wsX8_leave wsX8_isThere := goodIn_r _ [6, 1, 7, 8, 5, 9, 10, 11, 12, 13, 17, 18, 19, 20, 21, 22, 23, 24, 25, 26, 27, 28, 29, 30, 31, 32, 33, 34, 35, 36, 37, 38, 39, 40, 41, 42, 43, 44, 45, 46, 47, 48, 49, 50, 51, 52, 53, 54, 55, 56, 57, 58, 59, 60, 61, 62] (by decide +kernel) (by decide +kernel)
set_option maxRecDepth 20000 in
theorem gX8_leave_X8_isThere : GoodIn wsX8_leave (wsV RX8 123 RX8 yX8_isThere wsX8_isThere) := goodIn_app (goodIn_of _ (by decide +kernel)) ggX8_leave_X8_isThere
set_option maxRecDepth 20000 in
theorem ggX8_leave_X8_ones : GoodIn wsX8_leave wsX8_ones := goodIn_r _ [16] (by decide +kernel) (by decide +kernel)
set_option maxRecDepth 20000 in
theorem gX8_leave_X8_ones : GoodIn wsX8_leave (va_wsS RX8 119 yX8_ones wsX8_ones) := goodIn_app (goodIn_of _ (by decide +kernel)) ggX8_leave_X8_ones
theorem dX8_leave_0 : decode cX8_leave 0 = .ok (.aload_n 0, 1) := by decide +kernel
theorem dX8_leave_1 : decode cX8_leave 1 = .ok (.iload_n 1, 1) := by decide +kernel
theorem dX8_leave_2 : decode cX8_leave 2 = .ok (.invokevirtual 123, 3) := by decide +kernel
theorem dX8_leave_5 : decode cX8_leave 5 = .ok (.ifCond .ne 5, 3) := by decide +kernel
theorem dX8_leave_8 : decode cX8_leave 8 = .ok (.iconst (-1), 1) := by decide +kernel
theorem dX8_leave_9 : decode cX8_leave 9 = .ok (.ireturn, 1) := by decide +kernel
theorem dX8_leave_10 : decode cX8_leave 10 = .ok (.aload_n 0, 1) := by decide +kernel
theorem dX8_leave_11 : decode cX8_leave 11 = .ok (.dup, 1) := by decide +kernel
theorem dX8_leave_12 : decode cX8_leave 12 = .ok (.getfield 109, 3) := by decide +kernel
theorem dX8_leave_15 : decode cX8_leave 15 = .ok (.iconst 1, 1) := by decide +kernel
theorem dX8_leave_16 : decode cX8_leave 16 = .ok (.iload_n 1, 1) := by decide +kernel
theorem dX8_leave_17 : decode cX8_leave 17 = .ok (.ishl, 1) := by decide +kernel
theorem dX8_leave_18 : decode cX8_leave 18 = .ok (.iconst (-1), 1) := by decide +kernel
theorem dX8_leave_19 : decode cX8_leave 19 = .ok (.ixor, 1) := by decide +kernel
theorem dX8_leave_20 : decode cX8_leave 20 = .ok (.iand, 1) := by decide +kernel
theorem dX8_leave_21 : decode cX8_leave 21 = .ok (.putfield 109, 3) := by decide +kernel
theorem dX8_leave_24 : decode cX8_leave 24 = .ok (.aload_n 0, 1) := by decide +kernel
theorem dX8_leave_25 : decode cX8_leave 25 = .ok (.getfield 109, 3) := by decide +kernel
theorem dX8_leave_28 : decode cX8_leave 28 = .ok (.invokestatic 119, 3) := by decide +kernel
theorem dX8_leave_31 : decode cX8_leave 31 = .ok (.ireturn, 1) := by decide +kernel
set_option maxRecDepth 20000 in
theorem ggX8_maySet_X8_in : GoodIn wsX8_maySet wsX8_in := goodIn_r _ [8] (by decide +kernel) (by decide +kernel)
set_option maxRecDepth 20000 in
theorem gX8_maySet_X8_in : GoodIn wsX8_maySet (va_wsS RX8 101 yX8_in wsX8_in) := goodIn_app (goodIn_of _ (by decide +kernel)) ggX8_maySet_X8_in
set_option maxRecDepth 20000 in
theorem ggX8_maySet_X8_isNine : GoodIn wsX8_maySet wsX8_isNine := goodIn_r _ [11, 1, 5, 6, 7, 8] (by decide +kernel) (by decide +kernel)
set_option maxRecDepth 20000 in
theorem gX8_maySet_X8_isNine : GoodIn wsX8_maySet (va_wsS RX8 116 yX8_isNine wsX8_isNine) := goodIn_app (goodIn_of _ (by decide +kernel)) ggX8_maySet_X8_isNine
theorem dX8_maySet_0 : decode cX8_maySet 0 = .ok (.iload_n 0, 1) := by decide +kernel
theorem dX8_maySet_1 : decode cX8_maySet 1 = .ok (.tableswitch 82 0 5 #[39, 49, 54, 49, 64, 74], 39) := by decide +kernel
theorem dX8_maySet_40 : decode cX8_maySet 40 = .ok (.iload_n 1, 1) := by decide +kernel
theorem dX8_maySet_41 : decode cX8_maySet 41 = .ok (.i2l, 1) := by decide +kernel
theorem dX8_maySet_42 : decode cX8_maySet 42 = .ok (.lconst 1, 1) := by decide +kernel
theorem dX8_maySet_43 : decode cX8_maySet 43 = .ok (.ldc2_w 112, 3) := by decide +kernel
theorem dX8_maySet_46 : decode cX8_maySet 46 = .ok (.invokestatic 101, 3) := by decide +kernel
theorem dX8_maySet_49 : decode cX8_maySet 49 = .ok (.ireturn, 1) := by decide +kernel
theorem dX8_maySet_50 : decode cX8_maySet 50 = .ok (.iload_n 1, 1) := by decide +kernel
theorem dX8_maySet_51 : decode cX8_maySet 51 = .ok (.invokestatic 116, 3) := by decide +kernel
theorem dX8_maySet_54 : decode cX8_maySet 54 = .ok (.ireturn, 1) := by decide +kernel
theorem dX8_maySet_55 : decode cX8_maySet 55 = .ok (.iload_n 1, 1) := by decide +kernel
theorem dX8_maySet_56 : decode cX8_maySet 56 = .ok (.i2l, 1) := by decide +kernel
theorem dX8_maySet_57 : decode cX8_maySet 57 = .ok (.lconst 0, 1) := by decide +kernel
theorem dX8_maySet_58 : decode cX8_maySet 58 = .ok (.ldc2_w 126, 3) := by decide +kernel
theorem dX8_maySet_61 : decode cX8_maySet 61 = .ok (.invokestatic 101, 3) := by decide +kernel
theorem dX8_maySet_64 : decode cX8_maySet 64 = .ok (.ireturn, 1) := by decide +kernel
theorem dX8_maySet_65 : decode cX8_maySet 65 = .ok (.iload_n 1, 1) := by decide +kernel
theorem dX8_maySet_66 : decode cX8_maySet 66 = .ok (.i2l, 1) := by decide +kernel
theorem dX8_maySet_67 : decode cX8_maySet 67 = .ok (.lconst 1, 1) := by decide +kernel
theorem dX8_maySet_68 : decode cX8_maySet 68 = .ok (.ldc2_w 128, 3) := by decide +kernel
theorem dX8_maySet_71 : decode cX8_maySet 71 = .ok (.invokestatic 101, 3) := by decide +kernel
theorem dX8_maySet_74 : decode cX8_maySet 74 = .ok (.ireturn, 1) := by decide +kernel
theorem dX8_maySet_75 : decode cX8_maySet 75 = .ok (.iload_n 1, 1) := by decide +kernel
theorem dX8_maySet_76 : decode cX8_maySet 76 = .ok (.i2l, 1) := by decide +kernel
theorem dX8_maySet_77 : decode cX8_maySet 77 = .ok (.lconst 0, 1) := by decide +kernel
theorem dX8_maySet_78 : decode cX8_maySet 78 = .ok (.lconst 1, 1) := by decide +kernel
theorem dX8_maySet_79 : decode cX8_maySet 79 = .ok (.invokestatic 101, 3) := by decide +kernel
theorem dX8_maySet_82 : decode cX8_maySet 82 = .ok (.ireturn, 1) := by decide +kernel
theorem dX8_maySet_83 : decode cX8_maySet 83 = .ok (.iload_n 0, 1) := by decide +kernel
theorem dX8_maySet_84 : decode cX8_maySet 84 = .ok (.bipush 6, 2) := by decide +kernel
theorem dX8_maySet_86 : decode cX8_maySet 86 = .ok (.if_icmp .ne 19, 3) := by decide +kernel
theorem dX8_maySet_89 : decode cX8_maySet 89 = .ok (.iload_n 1, 1) := by decide +kernel
theorem dX8_maySet_90 : decode cX8_maySet 90 = .ok (.i2l, 1) := by decide +kernel
theorem dX8_maySet_91 : decode cX8_maySet 91 = .ok (.lconst 0, 1) := by decide +kernel
theorem dX8_maySet_92 : decode cX8_maySet 92 = .ok (.ldc2_w 130, 3) := by decide +kernel
theorem dX8_maySet_95 : decode cX8_maySet 95 = .ok (.invokestatic 101, 3) := by decide +kernel
theorem dX8_maySet_98 : decode cX8_maySet 98 = .ok (.ifCond .eq 7, 3) := by decide +kernel
theorem dX8_maySet_101 : decode cX8_maySet 101 = .ok (.iconst 1, 1) := by decide +kernel
theorem dX8_maySet_102 : decode cX8_maySet 102 = .ok (.goto 4, 3) := by decide +kernel
theorem dX8_maySet_105 : decode cX8_maySet 105 = .ok (.iconst 0, 1) := by decide +kernel
theorem dX8_maySet_106 : decode cX8_maySet 106 = .ok (.ireturn, 1) := by decide +kernel
theorem dX8_toldSet_0 : decode cX8_toldSet 0 = .ok (.iload_n 1, 1) := by decide +kernel
theorem dX8_toldSet_1 : decode cX8_toldSet 1 = .ok (.ifCond .ne 10, 3) := by decide +kernel
theorem dX8_toldSet_4 : decode cX8_toldSet 4 = .ok (.aload_n 0, 1) := by decide +kernel
theorem dX8_toldSet_5 : decode cX8_toldSet 5 = .ok (.getfield 80, 3) := by decide +kernel
theorem dX8_toldSet_8 : decode cX8_toldSet 8 = .ok (.goto 67, 3) := by decide +kernel
theorem dX8_toldSet_11 : decode cX8_toldSet 11 = .ok (.iload_n 1, 1) := by decide +kernel
theorem dX8_toldSet_12 : decode cX8_toldSet 12 = .ok (.iconst 1, 1) := by decide +kernel
theorem dX8_toldSet_13 : decode cX8_toldSet 13 = .ok (.if_icmp .ne 10, 3) := by decide +kernel
theorem dX8_toldSet_16 : decode cX8_toldSet 16 = .ok (.aload_n 0, 1) := by decide +kernel
theorem dX8_toldSet_17 : decode cX8_toldSet 17 = .ok (.getfield 84, 3) := by decide +kernel
theorem dX8_toldSet_20 : decode cX8_toldSet 20 = .ok (.goto 55, 3) := by decide +kernel
theorem dX8_toldSet_23 : decode cX8_toldSet 23 = .ok (.iload_n 1, 1) := by decide +kernel
theorem dX8_toldSet_24 : decode cX8_toldSet 24 = .ok (.iconst 2, 1) := by decide +kernel
theorem dX8_toldSet_25 : decode cX8_toldSet 25 = .ok (.if_icmp .ne 10, 3) := by decide +kernel
theorem dX8_toldSet_28 : decode cX8_toldSet 28 = .ok (.aload_n 0, 1) := by decide +kernel
theorem dX8_toldSet_29 : decode cX8_toldSet 29 = .ok (.getfield 87, 3) := by decide +kernel
theorem dX8_toldSet_32 : decode cX8_toldSet 32 = .ok (.goto 43, 3) := by decide +kernel
theorem dX8_toldSet_35 : decode cX8_toldSet 35 = .ok (.iload_n 1, 1) := by decide +kernel
theorem dX8_toldSet_36 : decode cX8_toldSet 36 = .ok (.iconst 3, 1) := by decide +kernel
theorem dX8_toldSet_37 : decode cX8_toldSet 37 = .ok (.if_icmp .ne 10, 3) := by decide +kernel
theorem dX8_toldSet_40 : decode cX8_toldSet 40 = .ok (.aload_n 0, 1) := by decide +kernel
theorem dX8_toldSet_41 : decode cX8_toldSet 41 = .ok (.getfield 90, 3) := by decide +kernel
theorem dX8_toldSet_44 : decode cX8_toldSet 44 = .ok (.goto 31, 3) := by decide +kernel
theorem dX8_toldSet_47 : decode cX8_toldSet 47 = .ok (.iload_n 1, 1) := by decide +kernel
theorem dX8_toldSet_48 : decode cX8_toldSet 48 = .ok (.iconst 4, 1) := by decide +kernel
theorem dX8_toldSet_49 : decode cX8_toldSet 49 = .ok (.if_icmp .ne 10, 3) := by decide +kernel
theorem dX8_toldSet_52 : decode cX8_toldSet 52 = .ok (.aload_n 0, 1) := by decide +kernel
theorem dX8_toldSet_53 : decode cX8_toldSet 53 = .ok (.getfield 93, 3) := by decide +kernel
theorem dX8_toldSet_56 : decode cX8_toldSet 56 = .ok (.goto 19, 3) := by decide +kernel
theorem dX8_toldSet_59 : decode cX8_toldSet 59 = .ok (.iload_n 1, 1) := by decide +kernel
theorem dX8_toldSet_60 : decode cX8_toldSet 60 = .ok (.iconst 5, 1) := by decide +kernel
theorem dX8_toldSet_61 : decode cX8_toldSet 61 = .ok (.if_icmp .ne 10, 3) := by decide +kernel
theorem dX8_toldSet_64 : decode cX8_toldSet 64 = .ok (.aload_n 0, 1) := by decide +kernel
theorem dX8_toldSet_65 : decode cX8_toldSet 65 = .ok (.getfield 132, 3) := by decide +kernel
theorem dX8_toldSet_68 : decode cX8_toldSet 68 = .ok (.goto 7, 3) := by decide +kernel
theorem dX8_toldSet_71 : decode cX8_toldSet 71 = .ok (.aload_n 0, 1) := by decide +kernel
theorem dX8_toldSet_72 : decode cX8_toldSet 72 = .ok (.getfield 96, 3) := by decide +kernel
theorem dX8_toldSet_75 : decode cX8_toldSet 75 = .ok (.ireturn, 1) := by decide +kernel
set_option maxRecDepth 20000 in
theorem ggX8_set_X8_maySet : GoodIn wsX8_set wsX8_maySet := goodIn_r _ [11, 12, 13, 14, 15, 16, 17, 10, 18, 19, 20, 21] (by decide +kernel) (by decide +kernel)
set_option maxRecDepth 20000 in
theorem gX8_set_X8_maySet : GoodIn wsX8_set (va_wsS RX8 135 yX8_maySet wsX8_maySet) := goodIn_app (goodIn_of _ (by decide +kernel)) ggX8_set_X8_maySet
set_option maxRecDepth 20000 in
theorem ggX8_set_X8_toldSet : GoodIn wsX8_set wsX8_toldSet := goodIn_r _ [25, 1, 2, 3, 4, 5, 6, 7, 26, 27, 28, 29, 30, 31, 32, 33, 34, 35, 36, 37, 38, 39, 40, 41, 42, 43, 44, 45, 46, 47, 48, 49, 50, 51, 52, 53, 54, 55, 56, 57, 58, 59, 60, 61, 62, 63, 64, 65, 66, 67, 68, 69, 70, 71] (by decide +kernel) (by decide +kernel)
set_option maxRecDepth 20000 in
theorem gX8_set_X8_toldSet : GoodIn wsX8_set (wsV RX8 139 RX8 yX8_toldSet wsX8_toldSet) := goodIn_app (goodIn_of _ (by decide +kernel)) ggX8_set_X8_toldSet
theorem dX8_set_0 : decode cX8_set 0 = .ok (.iload_n 1, 1) := by decide +kernel
theorem dX8_set_1 : decode cX8_set 1 = .ok (.iload_n 2, 1) := by decide +kernel
theorem dX8_set_2 : decode cX8_set 2 = .ok (.invokestatic 135, 3) := by decide +kernel
theorem dX8_set_5 : decode cX8_set 5 = .ok (.ifCond .ne 6, 3) := by decide +kernel
theorem dX8_set_8 : decode cX8_set 8 = .ok (.bipush (-2), 2) := by decide +kernel
theorem dX8_set_10 : decode cX8_set 10 = .ok (.ireturn, 1) := by decide +kernel
theorem dX8_set_11 : decode cX8_set 11 = .ok (.aload_n 0, 1) := by decide +kernel
theorem dX8_set_12 : decode cX8_set 12 = .ok (.iload_n 1, 1) := by decide +kernel
theorem dX8_set_13 : decode cX8_set 13 = .ok (.invokevirtual 139, 3) := by decide +kernel
theorem dX8_set_16 : decode cX8_set 16 = .ok (.istore_n 3, 1) := by decide +kernel
theorem dX8_set_17 : decode cX8_set 17 = .ok (.aload_n 0, 1) := by decide +kernel
theorem dX8_set_18 : decode cX8_set 18 = .ok (.iload_n 1, 1) := by decide +kernel
theorem dX8_set_19 : decode cX8_set 19 = .ok (.ifCond .ne 7, 3) := by decide +kernel
theorem dX8_set_22 : decode cX8_set 22 = .ok (.iload_n 2, 1) := by decide +kernel
theorem dX8_set_23 : decode cX8_set 23 = .ok (.goto 7, 3) := by decide +kernel
theorem dX8_set_26 : decode cX8_set 26 = .ok (.aload_n 0, 1) := by decide +kernel
theorem dX8_set_27 : decode cX8_set 27 = .ok (.getfield 80, 3) := by decide +kernel
theorem dX8_set_30 : decode cX8_set 30 = .ok (.putfield 80, 3) := by decide +kernel
theorem dX8_set_33 : decode cX8_set 33 = .ok (.aload_n 0, 1) := by decide +kernel
theorem dX8_set_34 : decode cX8_set 34 = .ok (.iload_n 1, 1) := by decide +kernel
theorem dX8_set_35 : decode cX8_set 35 = .ok (.iconst 1, 1) := by decide +kernel
theorem dX8_set_36 : decode cX8_set 36 = .ok (.if_icmp .ne 7, 3) := by decide +kernel
theorem dX8_set_39 : decode cX8_set 39 = .ok (.iload_n 2, 1) := by decide +kernel
theorem dX8_set_40 : decode cX8_set 40 = .ok (.goto 7, 3) := by decide +kernel
theorem dX8_set_43 : decode cX8_set 43 = .ok (.aload_n 0, 1) := by decide +kernel
theorem dX8_set_44 : decode cX8_set 44 = .ok (.getfield 84, 3) := by decide +kernel
theorem dX8_set_47 : decode cX8_set 47 = .ok (.putfield 84, 3) := by decide +kernel
theorem dX8_set_50 : decode cX8_set 50 = .ok (.aload_n 0, 1) := by decide +kernel
theorem dX8_set_51 : decode cX8_set 51 = .ok (.iload_n 1, 1) := by decide +kernel
theorem dX8_set_52 : decode cX8_set 52 = .ok (.iconst 2, 1) := by decide +kernel
theorem dX8_set_53 : decode cX8_set 53 = .ok (.if_icmp .ne 7, 3) := by decide +kernel
theorem dX8_set_56 : decode cX8_set 56 = .ok (.iload_n 2, 1) := by decide +kernel
theorem dX8_set_57 : decode cX8_set 57 = .ok (.goto 7, 3) := by decide +kernel
theorem dX8_set_60 : decode cX8_set 60 = .ok (.aload_n 0, 1) := by decide +kernel
theorem dX8_set_61 : decode cX8_set 61 = .ok (.getfield 87, 3) := by decide +kernel
theorem dX8_set_64 : decode cX8_set 64 = .ok (.putfield 87, 3) := by decide +kernel
theorem dX8_set_67 : decode cX8_set 67 = .ok (.aload_n 0, 1) := by decide +kernel
theorem dX8_set_68 : decode cX8_set 68 = .ok (.iload_n 1, 1) := by decide +kernel
theorem dX8_set_69 : decode cX8_set 69 = .ok (.iconst 3, 1) := by decide +kernel
theorem dX8_set_70 : decode cX8_set 70 = .ok (.if_icmp .ne 7, 3) := by decide +kernel
theorem dX8_set_73 : decode cX8_set 73 = .ok (.iload_n 2, 1) := by decide +kernel
theorem dX8_set_74 : decode cX8_set 74 = .ok (.goto 7, 3) := by decide +kernel
theorem dX8_set_77 : decode cX8_set 77 = .ok (.aload_n 0, 1) := by decide +kernel
theorem dX8_set_78 : decode cX8_set 78 = .ok (.getfield 90, 3) := by decide +kernel
theorem dX8_set_81 : decode cX8_set 81 = .ok (.putfield 90, 3) := by decide +kernel
theorem dX8_set_84 : decode cX8_set 84 = .ok (.aload_n 0, 1) := by decide +kernel
theorem dX8_set_85 : decode cX8_set 85 = .ok (.iload_n 1, 1) := by decide +kernel
theorem dX8_set_86 : decode cX8_set 86 = .ok (.iconst 4, 1) := by decide +kernel
theorem dX8_set_87 : decode cX8_set 87 = .ok (.if_icmp .ne 7, 3) := by decide +kernel
theorem dX8_set_90 : decode cX8_set 90 = .ok (.iload_n 2, 1) := by decide +kernel
theorem dX8_set_91 : decode cX8_set 91 = .ok (.goto 7, 3) := by decide +kernel
theorem dX8_set_94 : decode cX8_set 94 = .ok (.aload_n 0, 1) := by decide +kernel
theorem dX8_set_95 : decode cX8_set 95 = .ok (.getfield 93, 3) := by decide +kernel
theorem dX8_set_98 : decode cX8_set 98 = .ok (.putfield 93, 3) := by decide +kernel
theorem dX8_set_101 : decode cX8_set 101 = .ok (.aload_n 0, 1) := by decide +kernel
theorem dX8_set_102 : decode cX8_set 102 = .ok (.iload_n 1, 1) := by decide +kernel
theorem dX8_set_103 : decode cX8_set 103 = .ok (.iconst 5, 1) := by decide +kernel
theorem dX8_set_104 : decode cX8_set 104 = .ok (.if_icmp .ne 7, 3) := by decide +kernel
theorem dX8_set_107 : decode cX8_set 107 = .ok (.iload_n 2, 1) := by decide +kernel
theorem dX8_set_108 : decode cX8_set 108 = .ok (.goto 7, 3) := by decide +kernel
theorem dX8_set_111 : decode cX8_set 111 = .ok (.aload_n 0, 1) := by decide +kernel
theorem dX8_set_112 : decode cX8_set 112 = .ok (.getfield 132, 3) := by decide +kernel
theorem dX8_set_115 : decode cX8_set 115 = .ok (.putfield 132, 3) := by decide +kernel
theorem dX8_set_118 : decode cX8_set 118 = .ok (.aload_n 0, 1) := by decide +kernel
theorem dX8_set_119 : decode cX8_set 119 = .ok (.iload_n 1, 1) := by decide +kernel
theorem dX8_set_120 : decode cX8_set 120 = .ok (.bipush 6, 2) := by decide +kernel
theorem dX8_set_122 : decode cX8_set 122 = .ok (.if_icmp .ne 7, 3) := by decide +kernel
theorem dX8_set_125 : decode cX8_set 125 = .ok (.iload_n 2, 1) := by decide +kernel
theorem dX8_set_126 : decode cX8_set 126 = .ok (.goto 7, 3) := by decide +kernel
theorem dX8_set_129 : decode cX8_set 129 = .ok (.aload_n 0, 1) := by decide +kernel
theorem dX8_set_130 : decode cX8_set 130 = .ok (.getfield 96, 3) := by decide +kernel
theorem dX8_set_133 : decode cX8_set 133 = .ok (.putfield 96, 3) := by decide +kernel
theorem dX8_set_136 : decode cX8_set 136 = .ok (.iload_n 3, 1) := by decide +kernel
theorem dX8_set_137 : decode cX8_set 137 = .ok (.ireturn, 1) := by decide +kernel
set_option maxRecDepth 20000 in
theorem ggX8_say_X8_in : GoodIn wsX8_say wsX8_in := goodIn_r _ [8] (by decide +kernel) (by decide +kernel)
set_option maxRecDepth 20000 in
theorem gX8_say_X8_in : GoodIn wsX8_say (va_wsS RX8 101 yX8_in wsX8_in) := goodIn_app (goodIn_of _ (by decide +kernel)) ggX8_say_X8_in
theorem dX8_say_0 : decode cX8_say 0 = .ok (.iload_n 1, 1) := by decide +kernel
theorem dX8_say_1 : decode cX8_say 1 = .ok (.i2l, 1) := by decide +kernel
theorem dX8_say_2 : decode cX8_say 2 = .ok (.ldc2_w 142, 3) := by decide +kernel
theorem dX8_say_5 : decode cX8_say 5 = .ok (.ldc2_w 144, 3) := by decide +kernel
theorem dX8_say_8 : decode cX8_say 8 = .ok (.invokestatic 101, 3) := by decide +kernel
theorem dX8_say_11 : decode cX8_say 11 = .ok (.ifCond .ne 6, 3) := by decide +kernel
theorem dX8_say_14 : decode cX8_say 14 = .ok (.bipush (-2), 2) := by decide +kernel
theorem dX8_say_16 : decode cX8_say 16 = .ok (.ireturn, 1) := by decide +kernel
theorem dX8_say_17 : decode cX8_say 17 = .ok (.aload_n 0, 1) := by decide +kernel
theorem dX8_say_18 : decode cX8_say 18 = .ok (.getfield 146, 3) := by decide +kernel
theorem dX8_say_21 : decode cX8_say 21 = .ok (.bipush 60, 2) := by decide +kernel
theorem dX8_say_23 : decode cX8_say 23 = .ok (.if_icmp .ne 6, 3) := by decide +kernel
theorem dX8_say_26 : decode cX8_say 26 = .ok (.bipush (-4), 2) := by decide +kernel
theorem dX8_say_28 : decode cX8_say 28 = .ok (.ireturn, 1) := by decide +kernel
theorem dX8_say_29 : decode cX8_say 29 = .ok (.aload_n 0, 1) := by decide +kernel
theorem dX8_say_30 : decode cX8_say 30 = .ok (.getfield 40, 3) := by decide +kernel
theorem dX8_say_33 : decode cX8_say 33 = .ok (.aload_n 0, 1) := by decide +kernel
theorem dX8_say_34 : decode cX8_say 34 = .ok (.getfield 146, 3) := by decide +kernel
theorem dX8_say_37 : decode cX8_say 37 = .ok (.iload_n 1, 1) := by decide +kernel
theorem dX8_say_38 : decode cX8_say 38 = .ok (.iastore, 1) := by decide +kernel
theorem dX8_say_39 : decode cX8_say 39 = .ok (.aload_n 0, 1) := by decide +kernel
theorem dX8_say_40 : decode cX8_say 40 = .ok (.dup, 1) := by decide +kernel
theorem dX8_say_41 : decode cX8_say 41 = .ok (.getfield 146, 3) := by decide +kernel
theorem dX8_say_44 : decode cX8_say 44 = .ok (.iconst 1, 1) := by decide +kernel
theorem dX8_say_45 : decode cX8_say 45 = .ok (.iadd, 1) := by decide +kernel
theorem dX8_say_46 : decode cX8_say 46 = .ok (.putfield 146, 3) := by decide +kernel
theorem dX8_say_49 : decode cX8_say 49 = .ok (.aload_n 0, 1) := by decide +kernel
theorem dX8_say_50 : decode cX8_say 50 = .ok (.getfield 146, 3) := by decide +kernel
theorem dX8_say_53 : decode cX8_say 53 = .ok (.ireturn, 1) := by decide +kernel
theorem dX8_wipe_0 : decode cX8_wipe 0 = .ok (.aload_n 0, 1) := by decide +kernel
theorem dX8_wipe_1 : decode cX8_wipe 1 = .ok (.getfield 146, 3) := by decide +kernel
theorem dX8_wipe_4 : decode cX8_wipe 4 = .ok (.istore_n 1, 1) := by decide +kernel
theorem dX8_wipe_5 : decode cX8_wipe 5 = .ok (.aload_n 0, 1) := by decide +kernel
theorem dX8_wipe_6 : decode cX8_wipe 6 = .ok (.iconst 0, 1) := by decide +kernel
theorem dX8_wipe_7 : decode cX8_wipe 7 = .ok (.putfield 146, 3) := by decide +kernel
theorem dX8_wipe_10 : decode cX8_wipe 10 = .ok (.iload_n 1, 1) := by decide +kernel
theorem dX8_wipe_11 : decode cX8_wipe 11 = .ok (.ireturn, 1) := by decide +kernel
set_option maxRecDepth 20000 in
theorem ggX8_readsDare_X8_in : GoodIn wsX8_readsDare wsX8_in := goodIn_r _ [14] (by decide +kernel) (by decide +kernel)
set_option maxRecDepth 20000 in
theorem gX8_readsDare_X8_in : GoodIn wsX8_readsDare (va_wsS RX8 101 yX8_in wsX8_in) := goodIn_app (goodIn_of _ (by decide +kernel)) ggX8_readsDare_X8_in
set_option maxRecDepth 20000 in
theorem ggX8_readsDare_X8_isHeight : GoodIn wsX8_readsDare wsX8_isHeight := goodIn_r _ [17, 18, 11, 12, 13, 14] (by decide +kernel) (by decide +kernel)
set_option maxRecDepth 20000 in
theorem gX8_readsDare_X8_isHeight : GoodIn wsX8_readsDare (va_wsS RX8 162 yX8_isHeight wsX8_isHeight) := goodIn_app (goodIn_of _ (by decide +kernel)) ggX8_readsDare_X8_isHeight
theorem dX8_readsDare_0 : decode cX8_readsDare 0 = .ok (.iload_n 1, 1) := by decide +kernel
theorem dX8_readsDare_1 : decode cX8_readsDare 1 = .ok (.iconst 2, 1) := by decide +kernel
theorem dX8_readsDare_2 : decode cX8_readsDare 2 = .ok (.if_icmp .ge 57, 3) := by decide +kernel
theorem dX8_readsDare_5 : decode cX8_readsDare 5 = .ok (.aload_n 0, 1) := by decide +kernel
theorem dX8_readsDare_6 : decode cX8_readsDare 6 = .ok (.getfield 46, 3) := by decide +kernel
theorem dX8_readsDare_9 : decode cX8_readsDare 9 = .ok (.aload_n 0, 1) := by decide +kernel
theorem dX8_readsDare_10 : decode cX8_readsDare 10 = .ok (.getfield 149, 3) := by decide +kernel
theorem dX8_readsDare_13 : decode cX8_readsDare 13 = .ok (.iload_n 1, 1) := by decide +kernel
theorem dX8_readsDare_14 : decode cX8_readsDare 14 = .ok (.ifCond .ne 10, 3) := by decide +kernel
theorem dX8_readsDare_17 : decode cX8_readsDare 17 = .ok (.iload_n 2, 1) := by decide +kernel
theorem dX8_readsDare_18 : decode cX8_readsDare 18 = .ok (.bipush 65, 2) := by decide +kernel
theorem dX8_readsDare_20 : decode cX8_readsDare 20 = .ok (.isub, 1) := by decide +kernel
theorem dX8_readsDare_21 : decode cX8_readsDare 21 = .ok (.goto 12, 3) := by decide +kernel
theorem dX8_readsDare_24 : decode cX8_readsDare 24 = .ok (.aload_n 0, 1) := by decide +kernel
theorem dX8_readsDare_25 : decode cX8_readsDare 25 = .ok (.getfield 46, 3) := by decide +kernel
theorem dX8_readsDare_28 : decode cX8_readsDare 28 = .ok (.aload_n 0, 1) := by decide +kernel
theorem dX8_readsDare_29 : decode cX8_readsDare 29 = .ok (.getfield 149, 3) := by decide +kernel
theorem dX8_readsDare_32 : decode cX8_readsDare 32 = .ok (.iaload, 1) := by decide +kernel
theorem dX8_readsDare_33 : decode cX8_readsDare 33 = .ok (.iastore, 1) := by decide +kernel
theorem dX8_readsDare_34 : decode cX8_readsDare 34 = .ok (.aload_n 0, 1) := by decide +kernel
theorem dX8_readsDare_35 : decode cX8_readsDare 35 = .ok (.getfield 49, 3) := by decide +kernel
theorem dX8_readsDare_38 : decode cX8_readsDare 38 = .ok (.aload_n 0, 1) := by decide +kernel
theorem dX8_readsDare_39 : decode cX8_readsDare 39 = .ok (.getfield 149, 3) := by decide +kernel
theorem dX8_readsDare_42 : decode cX8_readsDare 42 = .ok (.iload_n 2, 1) := by decide +kernel
theorem dX8_readsDare_43 : decode cX8_readsDare 43 = .ok (.bipush 65, 2) := by decide +kernel
theorem dX8_readsDare_45 : decode cX8_readsDare 45 = .ok (.isub, 1) := by decide +kernel
theorem dX8_readsDare_46 : decode cX8_readsDare 46 = .ok (.iastore, 1) := by decide +kernel
theorem dX8_readsDare_47 : decode cX8_readsDare 47 = .ok (.iload_n 2, 1) := by decide +kernel
theorem dX8_readsDare_48 : decode cX8_readsDare 48 = .ok (.i2l, 1) := by decide +kernel
theorem dX8_readsDare_49 : decode cX8_readsDare 49 = .ok (.ldc2_w 152, 3) := by decide +kernel
theorem dX8_readsDare_52 : decode cX8_readsDare 52 = .ok (.ldc2_w 154, 3) := by decide +kernel
theorem dX8_readsDare_55 : decode cX8_readsDare 55 = .ok (.invokestatic 101, 3) := by decide +kernel
theorem dX8_readsDare_58 : decode cX8_readsDare 58 = .ok (.ireturn, 1) := by decide +kernel
theorem dX8_readsDare_59 : decode cX8_readsDare 59 = .ok (.iload_n 1, 1) := by decide +kernel
theorem dX8_readsDare_60 : decode cX8_readsDare 60 = .ok (.iconst 2, 1) := by decide +kernel
theorem dX8_readsDare_61 : decode cX8_readsDare 61 = .ok (.if_icmp .ne 31, 3) := by decide +kernel
theorem dX8_readsDare_64 : decode cX8_readsDare 64 = .ok (.aload_n 0, 1) := by decide +kernel
theorem dX8_readsDare_65 : decode cX8_readsDare 65 = .ok (.getfield 52, 3) := by decide +kernel
theorem dX8_readsDare_68 : decode cX8_readsDare 68 = .ok (.aload_n 0, 1) := by decide +kernel
theorem dX8_readsDare_69 : decode cX8_readsDare 69 = .ok (.getfield 149, 3) := by decide +kernel
theorem dX8_readsDare_72 : decode cX8_readsDare 72 = .ok (.bipush 10, 2) := by decide +kernel
theorem dX8_readsDare_74 : decode cX8_readsDare 74 = .ok (.iload_n 2, 1) := by decide +kernel
theorem dX8_readsDare_75 : decode cX8_readsDare 75 = .ok (.bipush 48, 2) := by decide +kernel
theorem dX8_readsDare_77 : decode cX8_readsDare 77 = .ok (.isub, 1) := by decide +kernel
theorem dX8_readsDare_78 : decode cX8_readsDare 78 = .ok (.imul, 1) := by decide +kernel
theorem dX8_readsDare_79 : decode cX8_readsDare 79 = .ok (.iastore, 1) := by decide +kernel
theorem dX8_readsDare_80 : decode cX8_readsDare 80 = .ok (.iload_n 2, 1) := by decide +kernel
theorem dX8_readsDare_81 : decode cX8_readsDare 81 = .ok (.i2l, 1) := by decide +kernel
theorem dX8_readsDare_82 : decode cX8_readsDare 82 = .ok (.ldc2_w 156, 3) := by decide +kernel
theorem dX8_readsDare_85 : decode cX8_readsDare 85 = .ok (.ldc2_w 158, 3) := by decide +kernel
theorem dX8_readsDare_88 : decode cX8_readsDare 88 = .ok (.invokestatic 101, 3) := by decide +kernel
theorem dX8_readsDare_91 : decode cX8_readsDare 91 = .ok (.ireturn, 1) := by decide +kernel
theorem dX8_readsDare_92 : decode cX8_readsDare 92 = .ok (.iload_n 1, 1) := by decide +kernel
theorem dX8_readsDare_93 : decode cX8_readsDare 93 = .ok (.iconst 3, 1) := by decide +kernel
theorem dX8_readsDare_94 : decode cX8_readsDare 94 = .ok (.if_icmp .ne 54, 3) := by decide +kernel
theorem dX8_readsDare_97 : decode cX8_readsDare 97 = .ok (.aload_n 0, 1) := by decide +kernel
theorem dX8_readsDare_98 : decode cX8_readsDare 98 = .ok (.getfield 52, 3) := by decide +kernel
theorem dX8_readsDare_101 : decode cX8_readsDare 101 = .ok (.aload_n 0, 1) := by decide +kernel
theorem dX8_readsDare_102 : decode cX8_readsDare 102 = .ok (.getfield 149, 3) := by decide +kernel
theorem dX8_readsDare_105 : decode cX8_readsDare 105 = .ok (.dup2, 1) := by decide +kernel
theorem dX8_readsDare_106 : decode cX8_readsDare 106 = .ok (.iaload, 1) := by decide +kernel
theorem dX8_readsDare_107 : decode cX8_readsDare 107 = .ok (.iload_n 2, 1) := by decide +kernel
theorem dX8_readsDare_108 : decode cX8_readsDare 108 = .ok (.bipush 48, 2) := by decide +kernel
theorem dX8_readsDare_110 : decode cX8_readsDare 110 = .ok (.isub, 1) := by decide +kernel
theorem dX8_readsDare_111 : decode cX8_readsDare 111 = .ok (.iadd, 1) := by decide +kernel
theorem dX8_readsDare_112 : decode cX8_readsDare 112 = .ok (.iastore, 1) := by decide +kernel
theorem dX8_readsDare_113 : decode cX8_readsDare 113 = .ok (.iload_n 2, 1) := by decide +kernel
theorem dX8_readsDare_114 : decode cX8_readsDare 114 = .ok (.i2l, 1) := by decide +kernel
theorem dX8_readsDare_115 : decode cX8_readsDare 115 = .ok (.ldc2_w 156, 3) := by decide +kernel
theorem dX8_readsDare_118 : decode cX8_readsDare 118 = .ok (.ldc2_w 160, 3) := by decide +kernel
theorem dX8_readsDare_121 : decode cX8_readsDare 121 = .ok (.invokestatic 101, 3) := by decide +kernel
theorem dX8_readsDare_124 : decode cX8_readsDare 124 = .ok (.ifCond .eq 22, 3) := by decide +kernel
theorem dX8_readsDare_127 : decode cX8_readsDare 127 = .ok (.aload_n 0, 1) := by decide +kernel
theorem dX8_readsDare_128 : decode cX8_readsDare 128 = .ok (.getfield 52, 3) := by decide +kernel
theorem dX8_readsDare_131 : decode cX8_readsDare 131 = .ok (.aload_n 0, 1) := by decide +kernel
theorem dX8_readsDare_132 : decode cX8_readsDare 132 = .ok (.getfield 149, 3) := by decide +kernel
theorem dX8_readsDare_135 : decode cX8_readsDare 135 = .ok (.iaload, 1) := by decide +kernel
theorem dX8_readsDare_136 : decode cX8_readsDare 136 = .ok (.invokestatic 162, 3) := by decide +kernel
theorem dX8_readsDare_139 : decode cX8_readsDare 139 = .ok (.ifCond .eq 7, 3) := by decide +kernel
theorem dX8_readsDare_142 : decode cX8_readsDare 142 = .ok (.iconst 1, 1) := by decide +kernel
theorem dX8_readsDare_143 : decode cX8_readsDare 143 = .ok (.goto 4, 3) := by decide +kernel
theorem dX8_readsDare_146 : decode cX8_readsDare 146 = .ok (.iconst 0, 1) := by decide +kernel
theorem dX8_readsDare_147 : decode cX8_readsDare 147 = .ok (.ireturn, 1) := by decide +kernel
theorem dX8_readsDare_148 : decode cX8_readsDare 148 = .ok (.aload_n 0, 1) := by decide +kernel
theorem dX8_readsDare_149 : decode cX8_readsDare 149 = .ok (.getfield 43, 3) := by decide +kernel
theorem dX8_readsDare_152 : decode cX8_readsDare 152 = .ok (.aload_n 0, 1) := by decide +kernel
theorem dX8_readsDare_153 : decode cX8_readsDare 153 = .ok (.getfield 149, 3) := by decide +kernel
theorem dX8_readsDare_156 : decode cX8_readsDare 156 = .ok (.iload_n 2, 1) := by decide +kernel
theorem dX8_readsDare_157 : decode cX8_readsDare 157 = .ok (.iastore, 1) := by decide +kernel
theorem dX8_readsDare_158 : decode cX8_readsDare 158 = .ok (.iload_n 2, 1) := by decide +kernel
theorem dX8_readsDare_159 : decode cX8_readsDare 159 = .ok (.bipush 43, 2) := by decide +kernel
theorem dX8_readsDare_161 : decode cX8_readsDare 161 = .ok (.if_icmp .eq 15, 3) := by decide +kernel
theorem dX8_readsDare_164 : decode cX8_readsDare 164 = .ok (.iload_n 2, 1) := by decide +kernel
theorem dX8_readsDare_165 : decode cX8_readsDare 165 = .ok (.bipush 45, 2) := by decide +kernel
theorem dX8_readsDare_167 : decode cX8_readsDare 167 = .ok (.if_icmp .eq 9, 3) := by decide +kernel
theorem dX8_readsDare_170 : decode cX8_readsDare 170 = .ok (.iload_n 2, 1) := by decide +kernel
theorem dX8_readsDare_171 : decode cX8_readsDare 171 = .ok (.bipush 42, 2) := by decide +kernel
theorem dX8_readsDare_173 : decode cX8_readsDare 173 = .ok (.if_icmp .ne 7, 3) := by decide +kernel
theorem dX8_readsDare_176 : decode cX8_readsDare 176 = .ok (.iconst 1, 1) := by decide +kernel
theorem dX8_readsDare_177 : decode cX8_readsDare 177 = .ok (.goto 4, 3) := by decide +kernel
theorem dX8_readsDare_180 : decode cX8_readsDare 180 = .ok (.iconst 0, 1) := by decide +kernel
theorem dX8_readsDare_181 : decode cX8_readsDare 181 = .ok (.ireturn, 1) := by decide +kernel
set_option maxRecDepth 20000 in
theorem ggX8_fault_X8_readsDare : GoodIn wsX8_fault wsX8_readsDare := goodIn_r _ [9, 10, 1, 11, 12, 13, 14, 15, 16, 17, 4, 18, 19, 8, 20, 21, 22, 23, 24, 25, 26, 27, 28, 29, 30, 31, 32, 33, 34, 35, 36, 37, 38, 39, 40, 41, 42, 43, 44, 45, 46, 47, 48, 49, 50, 51, 52, 53, 54, 55, 56, 57, 58, 59, 60, 61, 62, 63, 64, 65, 66, 67, 68, 69, 70] (by decide +kernel) (by decide +kernel)
set_option maxRecDepth 20000 in
theorem gX8_fault_X8_readsDare : GoodIn wsX8_fault (wsV RX8 165 RX8 yX8_readsDare wsX8_readsDare) := goodIn_app (goodIn_of _ (by decide +kernel)) ggX8_fault_X8_readsDare
theorem dX8_fault_0 : decode cX8_fault 0 = .ok (.aload_n 0, 1) := by decide +kernel
theorem dX8_fault_1 : decode cX8_fault 1 = .ok (.iconst 0, 1) := by decide +kernel
theorem dX8_fault_2 : decode cX8_fault 2 = .ok (.putfield 149, 3) := by decide +kernel
theorem dX8_fault_5 : decode cX8_fault 5 = .ok (.iconst 0, 1) := by decide +kernel
theorem dX8_fault_6 : decode cX8_fault 6 = .ok (.istore_n 1, 1) := by decide +kernel
theorem dX8_fault_7 : decode cX8_fault 7 = .ok (.iconst 0, 1) := by decide +kernel
theorem dX8_fault_8 : decode cX8_fault 8 = .ok (.istore_n 2, 1) := by decide +kernel
theorem dX8_fault_9 : decode cX8_fault 9 = .ok (.iload_n 2, 1) := by decide +kernel
theorem dX8_fault_10 : decode cX8_fault 10 = .ok (.aload_n 0, 1) := by decide +kernel
theorem dX8_fault_11 : decode cX8_fault 11 = .ok (.getfield 146, 3) := by decide +kernel
theorem dX8_fault_14 : decode cX8_fault 14 = .ok (.if_icmp .ge 94, 3) := by decide +kernel
theorem dX8_fault_17 : decode cX8_fault 17 = .ok (.iload_n 1, 1) := by decide +kernel
theorem dX8_fault_18 : decode cX8_fault 18 = .ok (.ifCond .ne 37, 3) := by decide +kernel
theorem dX8_fault_21 : decode cX8_fault 21 = .ok (.aload_n 0, 1) := by decide +kernel
theorem dX8_fault_22 : decode cX8_fault 22 = .ok (.getfield 40, 3) := by decide +kernel
theorem dX8_fault_25 : decode cX8_fault 25 = .ok (.iload_n 2, 1) := by decide +kernel
theorem dX8_fault_26 : decode cX8_fault 26 = .ok (.iaload, 1) := by decide +kernel
theorem dX8_fault_27 : decode cX8_fault 27 = .ok (.bipush 46, 2) := by decide +kernel
theorem dX8_fault_29 : decode cX8_fault 29 = .ok (.if_icmp .ne 26, 3) := by decide +kernel
theorem dX8_fault_32 : decode cX8_fault 32 = .ok (.aload_n 0, 1) := by decide +kernel
theorem dX8_fault_33 : decode cX8_fault 33 = .ok (.getfield 43, 3) := by decide +kernel
theorem dX8_fault_36 : decode cX8_fault 36 = .ok (.aload_n 0, 1) := by decide +kernel
theorem dX8_fault_37 : decode cX8_fault 37 = .ok (.getfield 149, 3) := by decide +kernel
theorem dX8_fault_40 : decode cX8_fault 40 = .ok (.iconst 0, 1) := by decide +kernel
theorem dX8_fault_41 : decode cX8_fault 41 = .ok (.iastore, 1) := by decide +kernel
theorem dX8_fault_42 : decode cX8_fault 42 = .ok (.aload_n 0, 1) := by decide +kernel
theorem dX8_fault_43 : decode cX8_fault 43 = .ok (.dup, 1) := by decide +kernel
theorem dX8_fault_44 : decode cX8_fault 44 = .ok (.getfield 149, 3) := by decide +kernel
theorem dX8_fault_47 : decode cX8_fault 47 = .ok (.iconst 1, 1) := by decide +kernel
theorem dX8_fault_48 : decode cX8_fault 48 = .ok (.iadd, 1) := by decide +kernel
theorem dX8_fault_49 : decode cX8_fault 49 = .ok (.putfield 149, 3) := by decide +kernel
theorem dX8_fault_52 : decode cX8_fault 52 = .ok (.goto 50, 3) := by decide +kernel
theorem dX8_fault_55 : decode cX8_fault 55 = .ok (.aload_n 0, 1) := by decide +kernel
theorem dX8_fault_56 : decode cX8_fault 56 = .ok (.iload_n 1, 1) := by decide +kernel
theorem dX8_fault_57 : decode cX8_fault 57 = .ok (.aload_n 0, 1) := by decide +kernel
theorem dX8_fault_58 : decode cX8_fault 58 = .ok (.getfield 40, 3) := by decide +kernel
theorem dX8_fault_61 : decode cX8_fault 61 = .ok (.iload_n 2, 1) := by decide +kernel
theorem dX8_fault_62 : decode cX8_fault 62 = .ok (.iaload, 1) := by decide +kernel
theorem dX8_fault_63 : decode cX8_fault 63 = .ok (.invokevirtual 165, 3) := by decide +kernel
theorem dX8_fault_66 : decode cX8_fault 66 = .ok (.ifCond .ne 5, 3) := by decide +kernel
theorem dX8_fault_69 : decode cX8_fault 69 = .ok (.iload_n 2, 1) := by decide +kernel
theorem dX8_fault_70 : decode cX8_fault 70 = .ok (.ireturn, 1) := by decide +kernel
theorem dX8_fault_71 : decode cX8_fault 71 = .ok (.iload_n 1, 1) := by decide +kernel
theorem dX8_fault_72 : decode cX8_fault 72 = .ok (.iconst 4, 1) := by decide +kernel
theorem dX8_fault_73 : decode cX8_fault 73 = .ok (.if_icmp .ne 7, 3) := by decide +kernel
theorem dX8_fault_76 : decode cX8_fault 76 = .ok (.iconst 0, 1) := by decide +kernel
theorem dX8_fault_77 : decode cX8_fault 77 = .ok (.goto 6, 3) := by decide +kernel
theorem dX8_fault_80 : decode cX8_fault 80 = .ok (.iload_n 1, 1) := by decide +kernel
theorem dX8_fault_81 : decode cX8_fault 81 = .ok (.iconst 1, 1) := by decide +kernel
theorem dX8_fault_82 : decode cX8_fault 82 = .ok (.iadd, 1) := by decide +kernel
theorem dX8_fault_83 : decode cX8_fault 83 = .ok (.istore_n 1, 1) := by decide +kernel
theorem dX8_fault_84 : decode cX8_fault 84 = .ok (.aload_n 0, 1) := by decide +kernel
theorem dX8_fault_85 : decode cX8_fault 85 = .ok (.dup, 1) := by decide +kernel
theorem dX8_fault_86 : decode cX8_fault 86 = .ok (.getfield 149, 3) := by decide +kernel
theorem dX8_fault_89 : decode cX8_fault 89 = .ok (.iload_n 1, 1) := by decide +kernel
theorem dX8_fault_90 : decode cX8_fault 90 = .ok (.ifCond .ne 7, 3) := by decide +kernel
theorem dX8_fault_93 : decode cX8_fault 93 = .ok (.iconst 1, 1) := by decide +kernel
theorem dX8_fault_94 : decode cX8_fault 94 = .ok (.goto 4, 3) := by decide +kernel
theorem dX8_fault_97 : decode cX8_fault 97 = .ok (.iconst 0, 1) := by decide +kernel
theorem dX8_fault_98 : decode cX8_fault 98 = .ok (.iadd, 1) := by decide +kernel
theorem dX8_fault_99 : decode cX8_fault 99 = .ok (.putfield 149, 3) := by decide +kernel
theorem dX8_fault_102 : decode cX8_fault 102 = .ok (.iinc 2 1, 3) := by decide +kernel
theorem dX8_fault_105 : decode cX8_fault 105 = .ok (.goto (-96), 3) := by decide +kernel
theorem dX8_fault_108 : decode cX8_fault 108 = .ok (.iload_n 1, 1) := by decide +kernel
theorem dX8_fault_109 : decode cX8_fault 109 = .ok (.ifCond .le 10, 3) := by decide +kernel
theorem dX8_fault_112 : decode cX8_fault 112 = .ok (.aload_n 0, 1) := by decide +kernel
theorem dX8_fault_113 : decode cX8_fault 113 = .ok (.getfield 146, 3) := by decide +kernel
theorem dX8_fault_116 : decode cX8_fault 116 = .ok (.goto 5, 3) := by decide +kernel
theorem dX8_fault_119 : decode cX8_fault 119 = .ok (.bipush (-6), 2) := by decide +kernel
theorem dX8_fault_121 : decode cX8_fault 121 = .ok (.ireturn, 1) := by decide +kernel
theorem dX8_oddsOf_0 : decode cX8_oddsOf 0 = .ok (.iload_n 2, 1) := by decide +kernel
theorem dX8_oddsOf_1 : decode cX8_oddsOf 1 = .ok (.iconst 5, 1) := by decide +kernel
theorem dX8_oddsOf_2 : decode cX8_oddsOf 2 = .ok (.aload_n 0, 1) := by decide +kernel
theorem dX8_oddsOf_3 : decode cX8_oddsOf 3 = .ok (.getfield 132, 3) := by decide +kernel
theorem dX8_oddsOf_6 : decode cX8_oddsOf 6 = .ok (.imul, 1) := by decide +kernel
theorem dX8_oddsOf_7 : decode cX8_oddsOf 7 = .ok (.iadd, 1) := by decide +kernel
theorem dX8_oddsOf_8 : decode cX8_oddsOf 8 = .ok (.aload_n 0, 1) := by decide +kernel
theorem dX8_oddsOf_9 : decode cX8_oddsOf 9 = .ok (.getfield 7, 3) := by decide +kernel
theorem dX8_oddsOf_12 : decode cX8_oddsOf 12 = .ok (.iload_n 1, 1) := by decide +kernel
theorem dX8_oddsOf_13 : decode cX8_oddsOf 13 = .ok (.iaload, 1) := by decide +kernel
theorem dX8_oddsOf_14 : decode cX8_oddsOf 14 = .ok (.isub, 1) := by decide +kernel
theorem dX8_oddsOf_15 : decode cX8_oddsOf 15 = .ok (.iconst 2, 1) := by decide +kernel
theorem dX8_oddsOf_16 : decode cX8_oddsOf 16 = .ok (.idiv, 1) := by decide +kernel
theorem dX8_oddsOf_17 : decode cX8_oddsOf 17 = .ok (.istore_n 3, 1) := by decide +kernel
theorem dX8_oddsOf_18 : decode cX8_oddsOf 18 = .ok (.iload_n 3, 1) := by decide +kernel
theorem dX8_oddsOf_19 : decode cX8_oddsOf 19 = .ok (.ifCond .ge 7, 3) := by decide +kernel
theorem dX8_oddsOf_22 : decode cX8_oddsOf 22 = .ok (.iconst 0, 1) := by decide +kernel
theorem dX8_oddsOf_23 : decode cX8_oddsOf 23 = .ok (.goto 15, 3) := by decide +kernel
theorem dX8_oddsOf_26 : decode cX8_oddsOf 26 = .ok (.iload_n 3, 1) := by decide +kernel
theorem dX8_oddsOf_27 : decode cX8_oddsOf 27 = .ok (.bipush 10, 2) := by decide +kernel
theorem dX8_oddsOf_29 : decode cX8_oddsOf 29 = .ok (.if_icmp .le 8, 3) := by decide +kernel
theorem dX8_oddsOf_32 : decode cX8_oddsOf 32 = .ok (.bipush 10, 2) := by decide +kernel
theorem dX8_oddsOf_34 : decode cX8_oddsOf 34 = .ok (.goto 4, 3) := by decide +kernel
theorem dX8_oddsOf_37 : decode cX8_oddsOf 37 = .ok (.iload_n 3, 1) := by decide +kernel
theorem dX8_oddsOf_38 : decode cX8_oddsOf 38 = .ok (.ireturn, 1) := by decide +kernel
theorem dX8_draw_0 : decode cX8_draw 0 = .ok (.aload_n 0, 1) := by decide +kernel
theorem dX8_draw_1 : decode cX8_draw 1 = .ok (.ldc2_w 168, 3) := by decide +kernel
theorem dX8_draw_4 : decode cX8_draw 4 = .ok (.aload_n 0, 1) := by decide +kernel
theorem dX8_draw_5 : decode cX8_draw 5 = .ok (.getfield 96, 3) := by decide +kernel
theorem dX8_draw_8 : decode cX8_draw 8 = .ok (.i2l, 1) := by decide +kernel
theorem dX8_draw_9 : decode cX8_draw 9 = .ok (.lmul, 1) := by decide +kernel
theorem dX8_draw_10 : decode cX8_draw 10 = .ok (.ldc2_w 170, 3) := by decide +kernel
theorem dX8_draw_13 : decode cX8_draw 13 = .ok (.ladd, 1) := by decide +kernel
theorem dX8_draw_14 : decode cX8_draw 14 = .ok (.ldc2_w 172, 3) := by decide +kernel
theorem dX8_draw_17 : decode cX8_draw 17 = .ok (.lrem, 1) := by decide +kernel
theorem dX8_draw_18 : decode cX8_draw 18 = .ok (.l2i, 1) := by decide +kernel
theorem dX8_draw_19 : decode cX8_draw 19 = .ok (.putfield 96, 3) := by decide +kernel
theorem dX8_draw_22 : decode cX8_draw 22 = .ok (.aload_n 0, 1) := by decide +kernel
theorem dX8_draw_23 : decode cX8_draw 23 = .ok (.getfield 96, 3) := by decide +kernel
theorem dX8_draw_26 : decode cX8_draw 26 = .ok (.bipush 10, 2) := by decide +kernel
theorem dX8_draw_28 : decode cX8_draw 28 = .ok (.irem, 1) := by decide +kernel
theorem dX8_draw_29 : decode cX8_draw 29 = .ok (.ireturn, 1) := by decide +kernel
set_option maxRecDepth 20000 in
theorem ggX8_doIt_X8_most : GoodIn wsX8_doIt wsX8_most := goodIn_r _ [8] (by decide +kernel) (by decide +kernel)
set_option maxRecDepth 20000 in
theorem gX8_doIt_X8_most : GoodIn wsX8_doIt (va_wsS RX8 174 yX8_most wsX8_most) := goodIn_app (goodIn_of _ (by decide +kernel)) ggX8_doIt_X8_most
set_option maxRecDepth 20000 in
theorem ggX8_doIt_X8_draw : GoodIn wsX8_doIt wsX8_draw := goodIn_r _ [12, 13, 14, 15, 16, 23, 24, 25, 26, 27, 28, 29, 30, 31, 32, 33, 34, 35, 36, 37, 38, 39, 40, 41, 42, 43, 44, 45, 46, 47, 48, 49, 50, 51, 52, 53, 54, 55, 56, 57, 58, 59, 60, 61, 62, 63, 64, 65, 66, 67, 68] (by decide +kernel) (by decide +kernel)
set_option maxRecDepth 20000 in
theorem gX8_doIt_X8_draw : GoodIn wsX8_doIt (wsV RX8 178 RX8 yX8_draw wsX8_draw) := goodIn_app (goodIn_of _ (by decide +kernel)) ggX8_doIt_X8_draw
set_option maxRecDepth 20000 in
theorem ggX8_doIt_X8_oddsOf : GoodIn wsX8_doIt wsX8_oddsOf := goodIn_r _ [20, 21, 22, 23, 24, 25, 26, 27, 28, 29, 30, 31, 32, 33, 34, 35, 36, 37, 38, 39, 40, 41, 42, 43, 44, 45, 46, 47, 48, 49, 50, 51, 52, 53, 54, 55, 56, 57, 58, 59, 60, 61, 62, 63, 64, 65, 66, 67, 68] (by decide +kernel) (by decide +kernel)
set_option maxRecDepth 20000 in
theorem gX8_doIt_X8_oddsOf : GoodIn wsX8_doIt (wsV RX8 182 RX8 yX8_oddsOf wsX8_oddsOf) := goodIn_app (goodIn_of _ (by decide +kernel)) ggX8_doIt_X8_oddsOf
theorem dX8_doIt_0 : decode cX8_doIt 0 = .ok (.aload_n 0, 1) := by decide +kernel
theorem dX8_doIt_1 : decode cX8_doIt 1 = .ok (.getfield 22, 3) := by decide +kernel
theorem dX8_doIt_4 : decode cX8_doIt 4 = .ok (.iload_n 1, 1) := by decide +kernel
theorem dX8_doIt_5 : decode cX8_doIt 5 = .ok (.aload_n 0, 1) := by decide +kernel
theorem dX8_doIt_6 : decode cX8_doIt 6 = .ok (.getfield 22, 3) := by decide +kernel
theorem dX8_doIt_9 : decode cX8_doIt 9 = .ok (.iload_n 1, 1) := by decide +kernel
theorem dX8_doIt_10 : decode cX8_doIt 10 = .ok (.iaload, 1) := by decide +kernel
theorem dX8_doIt_11 : decode cX8_doIt 11 = .ok (.iload_n 2, 1) := by decide +kernel
theorem dX8_doIt_12 : decode cX8_doIt 12 = .ok (.invokestatic 174, 3) := by decide +kernel
theorem dX8_doIt_15 : decode cX8_doIt 15 = .ok (.iastore, 1) := by decide +kernel
theorem dX8_doIt_16 : decode cX8_doIt 16 = .ok (.aload_n 0, 1) := by decide +kernel
theorem dX8_doIt_17 : decode cX8_doIt 17 = .ok (.getfield 25, 3) := by decide +kernel
theorem dX8_doIt_20 : decode cX8_doIt 20 = .ok (.iload_n 1, 1) := by decide +kernel
theorem dX8_doIt_21 : decode cX8_doIt 21 = .ok (.dup2, 1) := by decide +kernel
theorem dX8_doIt_22 : decode cX8_doIt 22 = .ok (.iaload, 1) := by decide +kernel
theorem dX8_doIt_23 : decode cX8_doIt 23 = .ok (.iload_n 2, 1) := by decide +kernel
theorem dX8_doIt_24 : decode cX8_doIt 24 = .ok (.iadd, 1) := by decide +kernel
theorem dX8_doIt_25 : decode cX8_doIt 25 = .ok (.iastore, 1) := by decide +kernel
theorem dX8_doIt_26 : decode cX8_doIt 26 = .ok (.aload_n 0, 1) := by decide +kernel
theorem dX8_doIt_27 : decode cX8_doIt 27 = .ok (.invokevirtual 178, 3) := by decide +kernel
theorem dX8_doIt_30 : decode cX8_doIt 30 = .ok (.aload_n 0, 1) := by decide +kernel
theorem dX8_doIt_31 : decode cX8_doIt 31 = .ok (.iload_n 1, 1) := by decide +kernel
theorem dX8_doIt_32 : decode cX8_doIt 32 = .ok (.iload_n 2, 1) := by decide +kernel
theorem dX8_doIt_33 : decode cX8_doIt 33 = .ok (.invokevirtual 182, 3) := by decide +kernel
theorem dX8_doIt_36 : decode cX8_doIt 36 = .ok (.if_icmp .ge 7, 3) := by decide +kernel
theorem dX8_doIt_39 : decode cX8_doIt 39 = .ok (.iconst 1, 1) := by decide +kernel
theorem dX8_doIt_40 : decode cX8_doIt 40 = .ok (.goto 4, 3) := by decide +kernel
theorem dX8_doIt_43 : decode cX8_doIt 43 = .ok (.iconst 0, 1) := by decide +kernel
theorem dX8_doIt_44 : decode cX8_doIt 44 = .ok (.istore_n 3, 1) := by decide +kernel
theorem dX8_doIt_45 : decode cX8_doIt 45 = .ok (.aload_n 0, 1) := by decide +kernel
theorem dX8_doIt_46 : decode cX8_doIt 46 = .ok (.getfield 28, 3) := by decide +kernel
theorem dX8_doIt_49 : decode cX8_doIt 49 = .ok (.iload_n 1, 1) := by decide +kernel
theorem dX8_doIt_50 : decode cX8_doIt 50 = .ok (.iload_n 3, 1) := by decide +kernel
theorem dX8_doIt_51 : decode cX8_doIt 51 = .ok (.ifCond .eq 10, 3) := by decide +kernel
theorem dX8_doIt_54 : decode cX8_doIt 54 = .ok (.aload_n 0, 1) := by decide +kernel
theorem dX8_doIt_55 : decode cX8_doIt 55 = .ok (.getfield 93, 3) := by decide +kernel
theorem dX8_doIt_58 : decode cX8_doIt 58 = .ok (.goto 9, 3) := by decide +kernel
theorem dX8_doIt_61 : decode cX8_doIt 61 = .ok (.aload_n 0, 1) := by decide +kernel
theorem dX8_doIt_62 : decode cX8_doIt 62 = .ok (.getfield 28, 3) := by decide +kernel
theorem dX8_doIt_65 : decode cX8_doIt 65 = .ok (.iload_n 1, 1) := by decide +kernel
theorem dX8_doIt_66 : decode cX8_doIt 66 = .ok (.iaload, 1) := by decide +kernel
theorem dX8_doIt_67 : decode cX8_doIt 67 = .ok (.iastore, 1) := by decide +kernel
theorem dX8_doIt_68 : decode cX8_doIt 68 = .ok (.iload_n 3, 1) := by decide +kernel
theorem dX8_doIt_69 : decode cX8_doIt 69 = .ok (.ifCond .ne 7, 3) := by decide +kernel
theorem dX8_doIt_72 : decode cX8_doIt 72 = .ok (.iconst 1, 1) := by decide +kernel
theorem dX8_doIt_73 : decode cX8_doIt 73 = .ok (.goto 4, 3) := by decide +kernel
theorem dX8_doIt_76 : decode cX8_doIt 76 = .ok (.iconst 0, 1) := by decide +kernel
theorem dX8_doIt_77 : decode cX8_doIt 77 = .ok (.ireturn, 1) := by decide +kernel
set_option maxRecDepth 20000 in
theorem ggX8_passNight_X8_most : GoodIn wsX8_passNight wsX8_most := goodIn_r _ [7] (by decide +kernel) (by decide +kernel)
set_option maxRecDepth 20000 in
theorem gX8_passNight_X8_most : GoodIn wsX8_passNight (va_wsS RX8 174 yX8_most wsX8_most) := goodIn_app (goodIn_of _ (by decide +kernel)) ggX8_passNight_X8_most
theorem dX8_passNight_0 : decode cX8_passNight 0 = .ok (.iconst 0, 1) := by decide +kernel
theorem dX8_passNight_1 : decode cX8_passNight 1 = .ok (.istore_n 1, 1) := by decide +kernel
theorem dX8_passNight_2 : decode cX8_passNight 2 = .ok (.iload_n 1, 1) := by decide +kernel
theorem dX8_passNight_3 : decode cX8_passNight 3 = .ok (.bipush 6, 2) := by decide +kernel
theorem dX8_passNight_5 : decode cX8_passNight 5 = .ok (.if_icmp .ge 85, 3) := by decide +kernel
theorem dX8_passNight_8 : decode cX8_passNight 8 = .ok (.aload_n 0, 1) := by decide +kernel
theorem dX8_passNight_9 : decode cX8_passNight 9 = .ok (.getfield 25, 3) := by decide +kernel
theorem dX8_passNight_12 : decode cX8_passNight 12 = .ok (.iload_n 1, 1) := by decide +kernel
theorem dX8_passNight_13 : decode cX8_passNight 13 = .ok (.iaload, 1) := by decide +kernel
theorem dX8_passNight_14 : decode cX8_passNight 14 = .ok (.ifCond .ge 13, 3) := by decide +kernel
theorem dX8_passNight_17 : decode cX8_passNight 17 = .ok (.aload_n 0, 1) := by decide +kernel
theorem dX8_passNight_18 : decode cX8_passNight 18 = .ok (.getfield 25, 3) := by decide +kernel
theorem dX8_passNight_21 : decode cX8_passNight 21 = .ok (.iload_n 1, 1) := by decide +kernel
theorem dX8_passNight_22 : decode cX8_passNight 22 = .ok (.iaload, 1) := by decide +kernel
theorem dX8_passNight_23 : decode cX8_passNight 23 = .ok (.ineg, 1) := by decide +kernel
theorem dX8_passNight_24 : decode cX8_passNight 24 = .ok (.goto 9, 3) := by decide +kernel
theorem dX8_passNight_27 : decode cX8_passNight 27 = .ok (.aload_n 0, 1) := by decide +kernel
theorem dX8_passNight_28 : decode cX8_passNight 28 = .ok (.getfield 25, 3) := by decide +kernel
theorem dX8_passNight_31 : decode cX8_passNight 31 = .ok (.iload_n 1, 1) := by decide +kernel
theorem dX8_passNight_32 : decode cX8_passNight 32 = .ok (.iaload, 1) := by decide +kernel
theorem dX8_passNight_33 : decode cX8_passNight 33 = .ok (.istore_n 2, 1) := by decide +kernel
theorem dX8_passNight_34 : decode cX8_passNight 34 = .ok (.iconst 0, 1) := by decide +kernel
theorem dX8_passNight_35 : decode cX8_passNight 35 = .ok (.iload_n 2, 1) := by decide +kernel
theorem dX8_passNight_36 : decode cX8_passNight 36 = .ok (.aload_n 0, 1) := by decide +kernel
theorem dX8_passNight_37 : decode cX8_passNight 37 = .ok (.getfield 90, 3) := by decide +kernel
theorem dX8_passNight_40 : decode cX8_passNight 40 = .ok (.isub, 1) := by decide +kernel
theorem dX8_passNight_41 : decode cX8_passNight 41 = .ok (.invokestatic 174, 3) := by decide +kernel
theorem dX8_passNight_44 : decode cX8_passNight 44 = .ok (.istore_n 2, 1) := by decide +kernel
theorem dX8_passNight_45 : decode cX8_passNight 45 = .ok (.aload_n 0, 1) := by decide +kernel
theorem dX8_passNight_46 : decode cX8_passNight 46 = .ok (.getfield 25, 3) := by decide +kernel
theorem dX8_passNight_49 : decode cX8_passNight 49 = .ok (.iload_n 1, 1) := by decide +kernel
theorem dX8_passNight_50 : decode cX8_passNight 50 = .ok (.aload_n 0, 1) := by decide +kernel
theorem dX8_passNight_51 : decode cX8_passNight 51 = .ok (.getfield 25, 3) := by decide +kernel
theorem dX8_passNight_54 : decode cX8_passNight 54 = .ok (.iload_n 1, 1) := by decide +kernel
theorem dX8_passNight_55 : decode cX8_passNight 55 = .ok (.iaload, 1) := by decide +kernel
theorem dX8_passNight_56 : decode cX8_passNight 56 = .ok (.ifCond .ge 8, 3) := by decide +kernel
theorem dX8_passNight_59 : decode cX8_passNight 59 = .ok (.iload_n 2, 1) := by decide +kernel
theorem dX8_passNight_60 : decode cX8_passNight 60 = .ok (.ineg, 1) := by decide +kernel
theorem dX8_passNight_61 : decode cX8_passNight 61 = .ok (.goto 4, 3) := by decide +kernel
theorem dX8_passNight_64 : decode cX8_passNight 64 = .ok (.iload_n 2, 1) := by decide +kernel
theorem dX8_passNight_65 : decode cX8_passNight 65 = .ok (.iastore, 1) := by decide +kernel
theorem dX8_passNight_66 : decode cX8_passNight 66 = .ok (.aload_n 0, 1) := by decide +kernel
theorem dX8_passNight_67 : decode cX8_passNight 67 = .ok (.getfield 28, 3) := by decide +kernel
theorem dX8_passNight_70 : decode cX8_passNight 70 = .ok (.iload_n 1, 1) := by decide +kernel
theorem dX8_passNight_71 : decode cX8_passNight 71 = .ok (.iconst 0, 1) := by decide +kernel
theorem dX8_passNight_72 : decode cX8_passNight 72 = .ok (.aload_n 0, 1) := by decide +kernel
theorem dX8_passNight_73 : decode cX8_passNight 73 = .ok (.getfield 28, 3) := by decide +kernel
theorem dX8_passNight_76 : decode cX8_passNight 76 = .ok (.iload_n 1, 1) := by decide +kernel
theorem dX8_passNight_77 : decode cX8_passNight 77 = .ok (.iaload, 1) := by decide +kernel
theorem dX8_passNight_78 : decode cX8_passNight 78 = .ok (.iconst 1, 1) := by decide +kernel
theorem dX8_passNight_79 : decode cX8_passNight 79 = .ok (.isub, 1) := by decide +kernel
theorem dX8_passNight_80 : decode cX8_passNight 80 = .ok (.invokestatic 174, 3) := by decide +kernel
theorem dX8_passNight_83 : decode cX8_passNight 83 = .ok (.iastore, 1) := by decide +kernel
theorem dX8_passNight_84 : decode cX8_passNight 84 = .ok (.iinc 1 1, 3) := by decide +kernel
theorem dX8_passNight_87 : decode cX8_passNight 87 = .ok (.goto (-85), 3) := by decide +kernel
theorem dX8_passNight_90 : decode cX8_passNight 90 = .ok (.return_, 1) := by decide +kernel
set_option maxRecDepth 20000 in
theorem ggX8_whyNot_X8_isThere : GoodIn wsX8_whyNot wsX8_isThere := goodIn_r _ [8, 9, 10, 11, 7, 12, 13, 14, 15, 16, 17, 18, 19, 20, 21, 22, 23, 24, 25, 26, 27, 28, 29, 30, 31, 32, 33, 34, 35, 36, 37, 38, 39, 40, 41, 42, 43, 44, 45, 46, 47, 48, 49, 50, 51, 52, 53, 54, 55, 56, 57, 58, 59, 60, 61, 62] (by decide +kernel) (by decide +kernel)
set_option maxRecDepth 20000 in
theorem gX8_whyNot_X8_isThere : GoodIn wsX8_whyNot (wsV RX8 123 RX8 yX8_isThere wsX8_isThere) := goodIn_app (goodIn_of _ (by decide +kernel)) ggX8_whyNot_X8_isThere
theorem dX8_whyNot_0 : decode cX8_whyNot 0 = .ok (.aload_n 0, 1) := by decide +kernel
theorem dX8_whyNot_1 : decode cX8_whyNot 1 = .ok (.iload_n 1, 1) := by decide +kernel
theorem dX8_whyNot_2 : decode cX8_whyNot 2 = .ok (.invokevirtual 123, 3) := by decide +kernel
theorem dX8_whyNot_5 : decode cX8_whyNot 5 = .ok (.ifCond .eq 16, 3) := by decide +kernel
theorem dX8_whyNot_8 : decode cX8_whyNot 8 = .ok (.aload_n 0, 1) := by decide +kernel
theorem dX8_whyNot_9 : decode cX8_whyNot 9 = .ok (.iload_n 2, 1) := by decide +kernel
theorem dX8_whyNot_10 : decode cX8_whyNot 10 = .ok (.invokevirtual 123, 3) := by decide +kernel
theorem dX8_whyNot_13 : decode cX8_whyNot 13 = .ok (.ifCond .eq 8, 3) := by decide +kernel
theorem dX8_whyNot_16 : decode cX8_whyNot 16 = .ok (.iload_n 1, 1) := by decide +kernel
theorem dX8_whyNot_17 : decode cX8_whyNot 17 = .ok (.iload_n 2, 1) := by decide +kernel
theorem dX8_whyNot_18 : decode cX8_whyNot 18 = .ok (.if_icmp .ne 5, 3) := by decide +kernel
theorem dX8_whyNot_21 : decode cX8_whyNot 21 = .ok (.iconst 1, 1) := by decide +kernel
theorem dX8_whyNot_22 : decode cX8_whyNot 22 = .ok (.ireturn, 1) := by decide +kernel
theorem dX8_whyNot_23 : decode cX8_whyNot 23 = .ok (.aload_n 0, 1) := by decide +kernel
theorem dX8_whyNot_24 : decode cX8_whyNot 24 = .ok (.getfield 28, 3) := by decide +kernel
theorem dX8_whyNot_27 : decode cX8_whyNot 27 = .ok (.iload_n 1, 1) := by decide +kernel
theorem dX8_whyNot_28 : decode cX8_whyNot 28 = .ok (.iaload, 1) := by decide +kernel
theorem dX8_whyNot_29 : decode cX8_whyNot 29 = .ok (.ifCond .gt 12, 3) := by decide +kernel
theorem dX8_whyNot_32 : decode cX8_whyNot 32 = .ok (.aload_n 0, 1) := by decide +kernel
theorem dX8_whyNot_33 : decode cX8_whyNot 33 = .ok (.getfield 28, 3) := by decide +kernel
theorem dX8_whyNot_36 : decode cX8_whyNot 36 = .ok (.iload_n 2, 1) := by decide +kernel
theorem dX8_whyNot_37 : decode cX8_whyNot 37 = .ok (.iaload, 1) := by decide +kernel
theorem dX8_whyNot_38 : decode cX8_whyNot 38 = .ok (.ifCond .le 5, 3) := by decide +kernel
theorem dX8_whyNot_41 : decode cX8_whyNot 41 = .ok (.iconst 2, 1) := by decide +kernel
theorem dX8_whyNot_42 : decode cX8_whyNot 42 = .ok (.ireturn, 1) := by decide +kernel
theorem dX8_whyNot_43 : decode cX8_whyNot 43 = .ok (.iload_n 3, 1) := by decide +kernel
theorem dX8_whyNot_44 : decode cX8_whyNot 44 = .ok (.aload_n 0, 1) := by decide +kernel
theorem dX8_whyNot_45 : decode cX8_whyNot 45 = .ok (.getfield 22, 3) := by decide +kernel
theorem dX8_whyNot_48 : decode cX8_whyNot 48 = .ok (.iload_n 1, 1) := by decide +kernel
theorem dX8_whyNot_49 : decode cX8_whyNot 49 = .ok (.iaload, 1) := by decide +kernel
theorem dX8_whyNot_50 : decode cX8_whyNot 50 = .ok (.aload_n 0, 1) := by decide +kernel
theorem dX8_whyNot_51 : decode cX8_whyNot 51 = .ok (.getfield 80, 3) := by decide +kernel
theorem dX8_whyNot_54 : decode cX8_whyNot 54 = .ok (.iadd, 1) := by decide +kernel
theorem dX8_whyNot_55 : decode cX8_whyNot 55 = .ok (.if_icmp .le 7, 3) := by decide +kernel
theorem dX8_whyNot_58 : decode cX8_whyNot 58 = .ok (.iconst 3, 1) := by decide +kernel
theorem dX8_whyNot_59 : decode cX8_whyNot 59 = .ok (.goto 18, 3) := by decide +kernel
theorem dX8_whyNot_62 : decode cX8_whyNot 62 = .ok (.iload_n 3, 1) := by decide +kernel
theorem dX8_whyNot_63 : decode cX8_whyNot 63 = .ok (.aload_n 0, 1) := by decide +kernel
theorem dX8_whyNot_64 : decode cX8_whyNot 64 = .ok (.getfield 22, 3) := by decide +kernel
theorem dX8_whyNot_67 : decode cX8_whyNot 67 = .ok (.iload_n 2, 1) := by decide +kernel
theorem dX8_whyNot_68 : decode cX8_whyNot 68 = .ok (.iaload, 1) := by decide +kernel
theorem dX8_whyNot_69 : decode cX8_whyNot 69 = .ok (.if_icmp .gt 7, 3) := by decide +kernel
theorem dX8_whyNot_72 : decode cX8_whyNot 72 = .ok (.iconst 4, 1) := by decide +kernel
theorem dX8_whyNot_73 : decode cX8_whyNot 73 = .ok (.goto 4, 3) := by decide +kernel
theorem dX8_whyNot_76 : decode cX8_whyNot 76 = .ok (.iconst 0, 1) := by decide +kernel
theorem dX8_whyNot_77 : decode cX8_whyNot 77 = .ok (.ireturn, 1) := by decide +kernel
set_option maxRecDepth 20000 in
theorem ggX8_happen_X8_doIt : GoodIn wsX8_happen wsX8_doIt := goodIn_r _ [13, 14, 6, 15, 16, 17, 18, 12, 19, 20, 21, 22, 23, 24, 25, 26, 27, 28, 29, 30, 31, 32, 33, 34, 35, 36, 37, 38, 39, 40, 41, 42, 43, 44, 45, 46, 47, 48, 49, 50, 51, 52, 53, 54, 55, 56, 57, 58, 59, 60, 61, 62, 63, 64, 65, 66, 67, 68, 69, 70, 71, 72, 73, 74, 75, 76, 77, 78, 79] (by decide +kernel) (by decide +kernel)
set_option maxRecDepth 20000 in
theorem gX8_happen_X8_doIt : GoodIn wsX8_happen (wsV RX8 185 RX8 yX8_doIt wsX8_doIt) := goodIn_app (goodIn_of _ (by decide +kernel)) ggX8_happen_X8_doIt
theorem dX8_happen_0 : decode cX8_happen 0 = .ok (.aload_n 0, 1) := by decide +kernel
theorem dX8_happen_1 : decode cX8_happen 1 = .ok (.getfield 46, 3) := by decide +kernel
theorem dX8_happen_4 : decode cX8_happen 4 = .ok (.iload_n 1, 1) := by decide +kernel
theorem dX8_happen_5 : decode cX8_happen 5 = .ok (.iaload, 1) := by decide +kernel
theorem dX8_happen_6 : decode cX8_happen 6 = .ok (.istore_n 2, 1) := by decide +kernel
theorem dX8_happen_7 : decode cX8_happen 7 = .ok (.aload_n 0, 1) := by decide +kernel
theorem dX8_happen_8 : decode cX8_happen 8 = .ok (.getfield 49, 3) := by decide +kernel
theorem dX8_happen_11 : decode cX8_happen 11 = .ok (.iload_n 1, 1) := by decide +kernel
theorem dX8_happen_12 : decode cX8_happen 12 = .ok (.iaload, 1) := by decide +kernel
theorem dX8_happen_13 : decode cX8_happen 13 = .ok (.istore_n 3, 1) := by decide +kernel
theorem dX8_happen_14 : decode cX8_happen 14 = .ok (.aload_n 0, 1) := by decide +kernel
theorem dX8_happen_15 : decode cX8_happen 15 = .ok (.getfield 43, 3) := by decide +kernel
theorem dX8_happen_18 : decode cX8_happen 18 = .ok (.iload_n 1, 1) := by decide +kernel
theorem dX8_happen_19 : decode cX8_happen 19 = .ok (.iaload, 1) := by decide +kernel
theorem dX8_happen_20 : decode cX8_happen 20 = .ok (.bipush 43, 2) := by decide +kernel
theorem dX8_happen_22 : decode cX8_happen 22 = .ok (.if_icmp .ne 28, 3) := by decide +kernel
theorem dX8_happen_25 : decode cX8_happen 25 = .ok (.aload_n 0, 1) := by decide +kernel
theorem dX8_happen_26 : decode cX8_happen 26 = .ok (.iload_n 3, 1) := by decide +kernel
theorem dX8_happen_27 : decode cX8_happen 27 = .ok (.aload_n 0, 1) := by decide +kernel
theorem dX8_happen_28 : decode cX8_happen 28 = .ok (.getfield 52, 3) := by decide +kernel
theorem dX8_happen_31 : decode cX8_happen 31 = .ok (.iload_n 1, 1) := by decide +kernel
theorem dX8_happen_32 : decode cX8_happen 32 = .ok (.iaload, 1) := by decide +kernel
theorem dX8_happen_33 : decode cX8_happen 33 = .ok (.invokevirtual 185, 3) := by decide +kernel
theorem dX8_happen_36 : decode cX8_happen 36 = .ok (.pop, 1) := by decide +kernel
theorem dX8_happen_37 : decode cX8_happen 37 = .ok (.aload_n 0, 1) := by decide +kernel
theorem dX8_happen_38 : decode cX8_happen 38 = .ok (.dup, 1) := by decide +kernel
theorem dX8_happen_39 : decode cX8_happen 39 = .ok (.getfield 188, 3) := by decide +kernel
theorem dX8_happen_42 : decode cX8_happen 42 = .ok (.iconst 1, 1) := by decide +kernel
theorem dX8_happen_43 : decode cX8_happen 43 = .ok (.iadd, 1) := by decide +kernel
theorem dX8_happen_44 : decode cX8_happen 44 = .ok (.putfield 188, 3) := by decide +kernel
theorem dX8_happen_47 : decode cX8_happen 47 = .ok (.goto 80, 3) := by decide +kernel
theorem dX8_happen_50 : decode cX8_happen 50 = .ok (.aload_n 0, 1) := by decide +kernel
theorem dX8_happen_51 : decode cX8_happen 51 = .ok (.getfield 43, 3) := by decide +kernel
theorem dX8_happen_54 : decode cX8_happen 54 = .ok (.iload_n 1, 1) := by decide +kernel
theorem dX8_happen_55 : decode cX8_happen 55 = .ok (.iaload, 1) := by decide +kernel
theorem dX8_happen_56 : decode cX8_happen 56 = .ok (.bipush 45, 2) := by decide +kernel
theorem dX8_happen_58 : decode cX8_happen 58 = .ok (.if_icmp .ne 33, 3) := by decide +kernel
theorem dX8_happen_61 : decode cX8_happen 61 = .ok (.aload_n 0, 1) := by decide +kernel
theorem dX8_happen_62 : decode cX8_happen 62 = .ok (.getfield 25, 3) := by decide +kernel
theorem dX8_happen_65 : decode cX8_happen 65 = .ok (.iload_n 3, 1) := by decide +kernel
theorem dX8_happen_66 : decode cX8_happen 66 = .ok (.dup2, 1) := by decide +kernel
theorem dX8_happen_67 : decode cX8_happen 67 = .ok (.iaload, 1) := by decide +kernel
theorem dX8_happen_68 : decode cX8_happen 68 = .ok (.aload_n 0, 1) := by decide +kernel
theorem dX8_happen_69 : decode cX8_happen 69 = .ok (.getfield 52, 3) := by decide +kernel
theorem dX8_happen_72 : decode cX8_happen 72 = .ok (.iload_n 1, 1) := by decide +kernel
theorem dX8_happen_73 : decode cX8_happen 73 = .ok (.iaload, 1) := by decide +kernel
theorem dX8_happen_74 : decode cX8_happen 74 = .ok (.iconst 2, 1) := by decide +kernel
theorem dX8_happen_75 : decode cX8_happen 75 = .ok (.idiv, 1) := by decide +kernel
theorem dX8_happen_76 : decode cX8_happen 76 = .ok (.isub, 1) := by decide +kernel
theorem dX8_happen_77 : decode cX8_happen 77 = .ok (.iastore, 1) := by decide +kernel
theorem dX8_happen_78 : decode cX8_happen 78 = .ok (.aload_n 0, 1) := by decide +kernel
theorem dX8_happen_79 : decode cX8_happen 79 = .ok (.dup, 1) := by decide +kernel
theorem dX8_happen_80 : decode cX8_happen 80 = .ok (.getfield 191, 3) := by decide +kernel
theorem dX8_happen_83 : decode cX8_happen 83 = .ok (.iconst 1, 1) := by decide +kernel
theorem dX8_happen_84 : decode cX8_happen 84 = .ok (.iadd, 1) := by decide +kernel
theorem dX8_happen_85 : decode cX8_happen 85 = .ok (.putfield 191, 3) := by decide +kernel
theorem dX8_happen_88 : decode cX8_happen 88 = .ok (.goto 39, 3) := by decide +kernel
theorem dX8_happen_91 : decode cX8_happen 91 = .ok (.aload_n 0, 1) := by decide +kernel
theorem dX8_happen_92 : decode cX8_happen 92 = .ok (.iload_n 2, 1) := by decide +kernel
theorem dX8_happen_93 : decode cX8_happen 93 = .ok (.aload_n 0, 1) := by decide +kernel
theorem dX8_happen_94 : decode cX8_happen 94 = .ok (.getfield 52, 3) := by decide +kernel
theorem dX8_happen_97 : decode cX8_happen 97 = .ok (.iload_n 1, 1) := by decide +kernel
theorem dX8_happen_98 : decode cX8_happen 98 = .ok (.iaload, 1) := by decide +kernel
theorem dX8_happen_99 : decode cX8_happen 99 = .ok (.invokevirtual 185, 3) := by decide +kernel
theorem dX8_happen_102 : decode cX8_happen 102 = .ok (.ifCond .eq 15, 3) := by decide +kernel
theorem dX8_happen_105 : decode cX8_happen 105 = .ok (.aload_n 0, 1) := by decide +kernel
theorem dX8_happen_106 : decode cX8_happen 106 = .ok (.iload_n 3, 1) := by decide +kernel
theorem dX8_happen_107 : decode cX8_happen 107 = .ok (.aload_n 0, 1) := by decide +kernel
theorem dX8_happen_108 : decode cX8_happen 108 = .ok (.getfield 52, 3) := by decide +kernel
theorem dX8_happen_111 : decode cX8_happen 111 = .ok (.iload_n 1, 1) := by decide +kernel
theorem dX8_happen_112 : decode cX8_happen 112 = .ok (.iaload, 1) := by decide +kernel
theorem dX8_happen_113 : decode cX8_happen 113 = .ok (.invokevirtual 185, 3) := by decide +kernel
theorem dX8_happen_116 : decode cX8_happen 116 = .ok (.pop, 1) := by decide +kernel
theorem dX8_happen_117 : decode cX8_happen 117 = .ok (.aload_n 0, 1) := by decide +kernel
theorem dX8_happen_118 : decode cX8_happen 118 = .ok (.dup, 1) := by decide +kernel
theorem dX8_happen_119 : decode cX8_happen 119 = .ok (.getfield 194, 3) := by decide +kernel
theorem dX8_happen_122 : decode cX8_happen 122 = .ok (.iconst 1, 1) := by decide +kernel
theorem dX8_happen_123 : decode cX8_happen 123 = .ok (.iadd, 1) := by decide +kernel
theorem dX8_happen_124 : decode cX8_happen 124 = .ok (.putfield 194, 3) := by decide +kernel
theorem dX8_happen_127 : decode cX8_happen 127 = .ok (.return_, 1) := by decide +kernel
theorem dX8_keepNow_0 : decode cX8_keepNow 0 = .ok (.iconst 0, 1) := by decide +kernel
theorem dX8_keepNow_1 : decode cX8_keepNow 1 = .ok (.istore_n 1, 1) := by decide +kernel
theorem dX8_keepNow_2 : decode cX8_keepNow 2 = .ok (.iload_n 1, 1) := by decide +kernel
theorem dX8_keepNow_3 : decode cX8_keepNow 3 = .ok (.bipush 6, 2) := by decide +kernel
theorem dX8_keepNow_5 : decode cX8_keepNow 5 = .ok (.if_icmp .ge 45, 3) := by decide +kernel
theorem dX8_keepNow_8 : decode cX8_keepNow 8 = .ok (.aload_n 0, 1) := by decide +kernel
theorem dX8_keepNow_9 : decode cX8_keepNow 9 = .ok (.getfield 55, 3) := by decide +kernel
theorem dX8_keepNow_12 : decode cX8_keepNow 12 = .ok (.iload_n 1, 1) := by decide +kernel
theorem dX8_keepNow_13 : decode cX8_keepNow 13 = .ok (.aload_n 0, 1) := by decide +kernel
theorem dX8_keepNow_14 : decode cX8_keepNow 14 = .ok (.getfield 22, 3) := by decide +kernel
theorem dX8_keepNow_17 : decode cX8_keepNow 17 = .ok (.iload_n 1, 1) := by decide +kernel
theorem dX8_keepNow_18 : decode cX8_keepNow 18 = .ok (.iaload, 1) := by decide +kernel
theorem dX8_keepNow_19 : decode cX8_keepNow 19 = .ok (.iastore, 1) := by decide +kernel
theorem dX8_keepNow_20 : decode cX8_keepNow 20 = .ok (.aload_n 0, 1) := by decide +kernel
theorem dX8_keepNow_21 : decode cX8_keepNow 21 = .ok (.getfield 58, 3) := by decide +kernel
theorem dX8_keepNow_24 : decode cX8_keepNow 24 = .ok (.iload_n 1, 1) := by decide +kernel
theorem dX8_keepNow_25 : decode cX8_keepNow 25 = .ok (.aload_n 0, 1) := by decide +kernel
theorem dX8_keepNow_26 : decode cX8_keepNow 26 = .ok (.getfield 25, 3) := by decide +kernel
theorem dX8_keepNow_29 : decode cX8_keepNow 29 = .ok (.iload_n 1, 1) := by decide +kernel
theorem dX8_keepNow_30 : decode cX8_keepNow 30 = .ok (.iaload, 1) := by decide +kernel
theorem dX8_keepNow_31 : decode cX8_keepNow 31 = .ok (.iastore, 1) := by decide +kernel
theorem dX8_keepNow_32 : decode cX8_keepNow 32 = .ok (.aload_n 0, 1) := by decide +kernel
theorem dX8_keepNow_33 : decode cX8_keepNow 33 = .ok (.getfield 61, 3) := by decide +kernel
theorem dX8_keepNow_36 : decode cX8_keepNow 36 = .ok (.iload_n 1, 1) := by decide +kernel
theorem dX8_keepNow_37 : decode cX8_keepNow 37 = .ok (.aload_n 0, 1) := by decide +kernel
theorem dX8_keepNow_38 : decode cX8_keepNow 38 = .ok (.getfield 28, 3) := by decide +kernel
theorem dX8_keepNow_41 : decode cX8_keepNow 41 = .ok (.iload_n 1, 1) := by decide +kernel
theorem dX8_keepNow_42 : decode cX8_keepNow 42 = .ok (.iaload, 1) := by decide +kernel
theorem dX8_keepNow_43 : decode cX8_keepNow 43 = .ok (.iastore, 1) := by decide +kernel
theorem dX8_keepNow_44 : decode cX8_keepNow 44 = .ok (.iinc 1 1, 3) := by decide +kernel
theorem dX8_keepNow_47 : decode cX8_keepNow 47 = .ok (.goto (-45), 3) := by decide +kernel
theorem dX8_keepNow_50 : decode cX8_keepNow 50 = .ok (.aload_n 0, 1) := by decide +kernel
theorem dX8_keepNow_51 : decode cX8_keepNow 51 = .ok (.aload_n 0, 1) := by decide +kernel
theorem dX8_keepNow_52 : decode cX8_keepNow 52 = .ok (.getfield 96, 3) := by decide +kernel
theorem dX8_keepNow_55 : decode cX8_keepNow 55 = .ok (.putfield 197, 3) := by decide +kernel
theorem dX8_keepNow_58 : decode cX8_keepNow 58 = .ok (.return_, 1) := by decide +kernel
theorem dX8_putBack_0 : decode cX8_putBack 0 = .ok (.iconst 0, 1) := by decide +kernel
theorem dX8_putBack_1 : decode cX8_putBack 1 = .ok (.istore_n 1, 1) := by decide +kernel
theorem dX8_putBack_2 : decode cX8_putBack 2 = .ok (.iload_n 1, 1) := by decide +kernel
theorem dX8_putBack_3 : decode cX8_putBack 3 = .ok (.bipush 6, 2) := by decide +kernel
theorem dX8_putBack_5 : decode cX8_putBack 5 = .ok (.if_icmp .ge 45, 3) := by decide +kernel
theorem dX8_putBack_8 : decode cX8_putBack 8 = .ok (.aload_n 0, 1) := by decide +kernel
theorem dX8_putBack_9 : decode cX8_putBack 9 = .ok (.getfield 22, 3) := by decide +kernel
theorem dX8_putBack_12 : decode cX8_putBack 12 = .ok (.iload_n 1, 1) := by decide +kernel
theorem dX8_putBack_13 : decode cX8_putBack 13 = .ok (.aload_n 0, 1) := by decide +kernel
theorem dX8_putBack_14 : decode cX8_putBack 14 = .ok (.getfield 55, 3) := by decide +kernel
theorem dX8_putBack_17 : decode cX8_putBack 17 = .ok (.iload_n 1, 1) := by decide +kernel
theorem dX8_putBack_18 : decode cX8_putBack 18 = .ok (.iaload, 1) := by decide +kernel
theorem dX8_putBack_19 : decode cX8_putBack 19 = .ok (.iastore, 1) := by decide +kernel
theorem dX8_putBack_20 : decode cX8_putBack 20 = .ok (.aload_n 0, 1) := by decide +kernel
theorem dX8_putBack_21 : decode cX8_putBack 21 = .ok (.getfield 25, 3) := by decide +kernel
theorem dX8_putBack_24 : decode cX8_putBack 24 = .ok (.iload_n 1, 1) := by decide +kernel
theorem dX8_putBack_25 : decode cX8_putBack 25 = .ok (.aload_n 0, 1) := by decide +kernel
theorem dX8_putBack_26 : decode cX8_putBack 26 = .ok (.getfield 58, 3) := by decide +kernel
theorem dX8_putBack_29 : decode cX8_putBack 29 = .ok (.iload_n 1, 1) := by decide +kernel
theorem dX8_putBack_30 : decode cX8_putBack 30 = .ok (.iaload, 1) := by decide +kernel
theorem dX8_putBack_31 : decode cX8_putBack 31 = .ok (.iastore, 1) := by decide +kernel
theorem dX8_putBack_32 : decode cX8_putBack 32 = .ok (.aload_n 0, 1) := by decide +kernel
theorem dX8_putBack_33 : decode cX8_putBack 33 = .ok (.getfield 28, 3) := by decide +kernel
theorem dX8_putBack_36 : decode cX8_putBack 36 = .ok (.iload_n 1, 1) := by decide +kernel
theorem dX8_putBack_37 : decode cX8_putBack 37 = .ok (.aload_n 0, 1) := by decide +kernel
theorem dX8_putBack_38 : decode cX8_putBack 38 = .ok (.getfield 61, 3) := by decide +kernel
theorem dX8_putBack_41 : decode cX8_putBack 41 = .ok (.iload_n 1, 1) := by decide +kernel
theorem dX8_putBack_42 : decode cX8_putBack 42 = .ok (.iaload, 1) := by decide +kernel
theorem dX8_putBack_43 : decode cX8_putBack 43 = .ok (.iastore, 1) := by decide +kernel
theorem dX8_putBack_44 : decode cX8_putBack 44 = .ok (.iinc 1 1, 3) := by decide +kernel
theorem dX8_putBack_47 : decode cX8_putBack 47 = .ok (.goto (-45), 3) := by decide +kernel
theorem dX8_putBack_50 : decode cX8_putBack 50 = .ok (.aload_n 0, 1) := by decide +kernel
theorem dX8_putBack_51 : decode cX8_putBack 51 = .ok (.aload_n 0, 1) := by decide +kernel
theorem dX8_putBack_52 : decode cX8_putBack 52 = .ok (.getfield 197, 3) := by decide +kernel
theorem dX8_putBack_55 : decode cX8_putBack 55 = .ok (.putfield 96, 3) := by decide +kernel
theorem dX8_putBack_58 : decode cX8_putBack 58 = .ok (.return_, 1) := by decide +kernel
set_option maxRecDepth 20000 in
theorem ggX8_goSummer_X8_passNight : GoodIn wsX8_goSummer wsX8_passNight := goodIn_r _ [15, 16, 17, 18, 19, 20, 14, 21, 63, 64, 65, 66, 67, 68, 69, 70, 71, 72, 73, 74, 75, 76, 77, 78, 79, 80, 81, 82, 83, 84, 85, 86, 87, 88, 89, 90, 91, 92, 93, 94, 95, 96, 97, 98, 99, 100, 101, 102, 103, 104, 105, 106, 107, 108] (by decide +kernel) (by decide +kernel)
set_option maxRecDepth 20000 in
theorem gX8_goSummer_X8_passNight : GoodIn wsX8_goSummer (wsV RX8 206 RX8 yX8_passNight wsX8_passNight) := goodIn_app (goodIn_of _ (by decide +kernel)) ggX8_goSummer_X8_passNight
set_option maxRecDepth 20000 in
theorem ggX8_goSummer_X8_whyNot : GoodIn wsX8_goSummer wsX8_whyNot := goodIn_r _ [25, 18, 26, 27, 28, 29, 30, 14, 31, 32, 33, 34, 35, 36, 37, 38, 39, 63, 64, 65, 66, 67, 68, 69, 70, 71, 72, 73, 74, 75, 76, 77, 78, 79, 80, 81, 82, 83, 84, 85, 86, 87, 88, 89, 90, 91, 92, 93, 94, 95, 96, 97, 98, 99, 100, 101, 102, 103, 104, 105, 106, 107, 108] (by decide +kernel) (by decide +kernel)
set_option maxRecDepth 20000 in
theorem gX8_goSummer_X8_whyNot : GoodIn wsX8_goSummer (wsV RX8 209 RX8 yX8_whyNot wsX8_whyNot) := goodIn_app (goodIn_of _ (by decide +kernel)) ggX8_goSummer_X8_whyNot
set_option maxRecDepth 20000 in
theorem ggX8_goSummer_X8_happen : GoodIn wsX8_goSummer wsX8_happen := goodIn_r _ [43, 8, 9, 7, 10, 3, 16, 4, 5, 44, 45, 46, 14, 47, 26, 18, 48, 19, 20, 21, 49, 50, 51, 52, 53, 54, 55, 56, 57, 58, 59, 60, 61, 62, 63, 64, 65, 66, 67, 68, 69, 70, 71, 72, 73, 74, 75, 76, 77, 78, 79, 80, 81, 82, 83, 84, 85, 86, 87, 88, 89, 90, 91, 92, 93, 94, 95, 96, 97, 98, 99, 100, 101, 102, 103, 104, 105, 106, 107, 108] (by decide +kernel) (by decide +kernel)
set_option maxRecDepth 20000 in
theorem gX8_goSummer_X8_happen : GoodIn wsX8_goSummer (wsV RX8 213 RX8 yX8_happen wsX8_happen) := goodIn_app (goodIn_of _ (by decide +kernel)) ggX8_goSummer_X8_happen
theorem dX8_goSummer_0 : decode cX8_goSummer 0 = .ok (.aload_n 0, 1) := by decide +kernel
theorem dX8_goSummer_1 : decode cX8_goSummer 1 = .ok (.bipush (-6), 2) := by decide +kernel
theorem dX8_goSummer_3 : decode cX8_goSummer 3 = .ok (.putfield 200, 3) := by decide +kernel
theorem dX8_goSummer_6 : decode cX8_goSummer 6 = .ok (.aload_n 0, 1) := by decide +kernel
theorem dX8_goSummer_7 : decode cX8_goSummer 7 = .ok (.bipush (-6), 2) := by decide +kernel
theorem dX8_goSummer_9 : decode cX8_goSummer 9 = .ok (.putfield 203, 3) := by decide +kernel
theorem dX8_goSummer_12 : decode cX8_goSummer 12 = .ok (.aload_n 0, 1) := by decide +kernel
theorem dX8_goSummer_13 : decode cX8_goSummer 13 = .ok (.iconst 0, 1) := by decide +kernel
theorem dX8_goSummer_14 : decode cX8_goSummer 14 = .ok (.putfield 188, 3) := by decide +kernel
theorem dX8_goSummer_17 : decode cX8_goSummer 17 = .ok (.aload_n 0, 1) := by decide +kernel
theorem dX8_goSummer_18 : decode cX8_goSummer 18 = .ok (.iconst 0, 1) := by decide +kernel
theorem dX8_goSummer_19 : decode cX8_goSummer 19 = .ok (.putfield 191, 3) := by decide +kernel
theorem dX8_goSummer_22 : decode cX8_goSummer 22 = .ok (.aload_n 0, 1) := by decide +kernel
theorem dX8_goSummer_23 : decode cX8_goSummer 23 = .ok (.iconst 0, 1) := by decide +kernel
theorem dX8_goSummer_24 : decode cX8_goSummer 24 = .ok (.putfield 194, 3) := by decide +kernel
theorem dX8_goSummer_27 : decode cX8_goSummer 27 = .ok (.iconst 0, 1) := by decide +kernel
theorem dX8_goSummer_28 : decode cX8_goSummer 28 = .ok (.istore_n 1, 1) := by decide +kernel
theorem dX8_goSummer_29 : decode cX8_goSummer 29 = .ok (.iload_n 1, 1) := by decide +kernel
theorem dX8_goSummer_30 : decode cX8_goSummer 30 = .ok (.aload_n 0, 1) := by decide +kernel
theorem dX8_goSummer_31 : decode cX8_goSummer 31 = .ok (.getfield 149, 3) := by decide +kernel
theorem dX8_goSummer_34 : decode cX8_goSummer 34 = .ok (.if_icmp .ge 77, 3) := by decide +kernel
theorem dX8_goSummer_37 : decode cX8_goSummer 37 = .ok (.aload_n 0, 1) := by decide +kernel
theorem dX8_goSummer_38 : decode cX8_goSummer 38 = .ok (.getfield 200, 3) := by decide +kernel
theorem dX8_goSummer_41 : decode cX8_goSummer 41 = .ok (.ifCond .ge 70, 3) := by decide +kernel
theorem dX8_goSummer_44 : decode cX8_goSummer 44 = .ok (.aload_n 0, 1) := by decide +kernel
theorem dX8_goSummer_45 : decode cX8_goSummer 45 = .ok (.getfield 43, 3) := by decide +kernel
theorem dX8_goSummer_48 : decode cX8_goSummer 48 = .ok (.iload_n 1, 1) := by decide +kernel
theorem dX8_goSummer_49 : decode cX8_goSummer 49 = .ok (.iaload, 1) := by decide +kernel
theorem dX8_goSummer_50 : decode cX8_goSummer 50 = .ok (.ifCond .ne 10, 3) := by decide +kernel
theorem dX8_goSummer_53 : decode cX8_goSummer 53 = .ok (.aload_n 0, 1) := by decide +kernel
theorem dX8_goSummer_54 : decode cX8_goSummer 54 = .ok (.invokevirtual 206, 3) := by decide +kernel
theorem dX8_goSummer_57 : decode cX8_goSummer 57 = .ok (.goto 48, 3) := by decide +kernel
theorem dX8_goSummer_60 : decode cX8_goSummer 60 = .ok (.aload_n 0, 1) := by decide +kernel
theorem dX8_goSummer_61 : decode cX8_goSummer 61 = .ok (.aload_n 0, 1) := by decide +kernel
theorem dX8_goSummer_62 : decode cX8_goSummer 62 = .ok (.getfield 46, 3) := by decide +kernel
theorem dX8_goSummer_65 : decode cX8_goSummer 65 = .ok (.iload_n 1, 1) := by decide +kernel
theorem dX8_goSummer_66 : decode cX8_goSummer 66 = .ok (.iaload, 1) := by decide +kernel
theorem dX8_goSummer_67 : decode cX8_goSummer 67 = .ok (.aload_n 0, 1) := by decide +kernel
theorem dX8_goSummer_68 : decode cX8_goSummer 68 = .ok (.getfield 49, 3) := by decide +kernel
theorem dX8_goSummer_71 : decode cX8_goSummer 71 = .ok (.iload_n 1, 1) := by decide +kernel
theorem dX8_goSummer_72 : decode cX8_goSummer 72 = .ok (.iaload, 1) := by decide +kernel
theorem dX8_goSummer_73 : decode cX8_goSummer 73 = .ok (.aload_n 0, 1) := by decide +kernel
theorem dX8_goSummer_74 : decode cX8_goSummer 74 = .ok (.getfield 52, 3) := by decide +kernel
theorem dX8_goSummer_77 : decode cX8_goSummer 77 = .ok (.iload_n 1, 1) := by decide +kernel
theorem dX8_goSummer_78 : decode cX8_goSummer 78 = .ok (.iaload, 1) := by decide +kernel
theorem dX8_goSummer_79 : decode cX8_goSummer 79 = .ok (.invokevirtual 209, 3) := by decide +kernel
theorem dX8_goSummer_82 : decode cX8_goSummer 82 = .ok (.istore_n 2, 1) := by decide +kernel
theorem dX8_goSummer_83 : decode cX8_goSummer 83 = .ok (.iload_n 2, 1) := by decide +kernel
theorem dX8_goSummer_84 : decode cX8_goSummer 84 = .ok (.ifCond .le 16, 3) := by decide +kernel
theorem dX8_goSummer_87 : decode cX8_goSummer 87 = .ok (.aload_n 0, 1) := by decide +kernel
theorem dX8_goSummer_88 : decode cX8_goSummer 88 = .ok (.iload_n 1, 1) := by decide +kernel
theorem dX8_goSummer_89 : decode cX8_goSummer 89 = .ok (.putfield 200, 3) := by decide +kernel
theorem dX8_goSummer_92 : decode cX8_goSummer 92 = .ok (.aload_n 0, 1) := by decide +kernel
theorem dX8_goSummer_93 : decode cX8_goSummer 93 = .ok (.iload_n 2, 1) := by decide +kernel
theorem dX8_goSummer_94 : decode cX8_goSummer 94 = .ok (.putfield 203, 3) := by decide +kernel
theorem dX8_goSummer_97 : decode cX8_goSummer 97 = .ok (.goto 8, 3) := by decide +kernel
theorem dX8_goSummer_100 : decode cX8_goSummer 100 = .ok (.aload_n 0, 1) := by decide +kernel
theorem dX8_goSummer_101 : decode cX8_goSummer 101 = .ok (.iload_n 1, 1) := by decide +kernel
theorem dX8_goSummer_102 : decode cX8_goSummer 102 = .ok (.invokevirtual 213, 3) := by decide +kernel
theorem dX8_goSummer_105 : decode cX8_goSummer 105 = .ok (.iinc 1 1, 3) := by decide +kernel
theorem dX8_goSummer_108 : decode cX8_goSummer 108 = .ok (.goto (-79), 3) := by decide +kernel
theorem dX8_goSummer_111 : decode cX8_goSummer 111 = .ok (.return_, 1) := by decide +kernel
set_option maxRecDepth 20000 in
theorem ggX8_judge_X8_in : GoodIn wsX8_judge wsX8_in := goodIn_r _ [10] (by decide +kernel) (by decide +kernel)
set_option maxRecDepth 20000 in
theorem gX8_judge_X8_in : GoodIn wsX8_judge (va_wsS RX8 101 yX8_in wsX8_in) := goodIn_app (goodIn_of _ (by decide +kernel)) ggX8_judge_X8_in
set_option maxRecDepth 20000 in
theorem ggX8_judge_X8_fault : GoodIn wsX8_judge wsX8_fault := goodIn_r _ [14, 15, 16, 17, 18, 19, 20, 21, 9, 22, 23, 24, 25, 26, 27, 28, 29, 30, 7, 8, 10, 31, 32, 33, 34, 99, 100, 101, 102, 103, 104, 105, 106, 107, 108, 109, 110, 111, 112, 113, 114, 115, 116, 117, 118, 119, 120, 121, 122, 123, 124, 125, 126, 127, 128, 129, 130, 131, 132, 133, 134, 135, 136, 137, 138, 139, 140, 141, 142, 143, 144] (by decide +kernel) (by decide +kernel)
set_option maxRecDepth 20000 in
theorem gX8_judge_X8_fault : GoodIn wsX8_judge (wsV RX8 219 RX8 yX8_fault wsX8_fault) := goodIn_app (goodIn_of _ (by decide +kernel)) ggX8_judge_X8_fault
set_option maxRecDepth 20000 in
theorem ggX8_judge_X8_keepNow : GoodIn wsX8_judge wsX8_keepNow := goodIn_r _ [38, 39, 40, 41, 42, 43, 44, 45, 46, 99, 100, 101, 102, 103, 104, 105, 106, 107, 108, 109, 110, 111, 112, 113, 114, 115, 116, 117, 118, 119, 120, 121, 122, 123, 124, 125, 126, 127, 128, 129, 130, 131, 132, 133, 134, 135, 136, 137, 138, 139, 140, 141, 142, 143, 144] (by decide +kernel) (by decide +kernel)
set_option maxRecDepth 20000 in
theorem gX8_judge_X8_keepNow : GoodIn wsX8_judge (wsV RX8 222 RX8 yX8_keepNow wsX8_keepNow) := goodIn_app (goodIn_of _ (by decide +kernel)) ggX8_judge_X8_keepNow
set_option maxRecDepth 20000 in
theorem ggX8_judge_X8_goSummer : GoodIn wsX8_judge wsX8_goSummer := goodIn_r _ [50, 2, 3, 4, 5, 6, 15, 18, 23, 24, 27, 51, 52, 53, 9, 54, 42, 55, 44, 56, 57, 58, 59, 60, 61, 62, 40, 63, 64, 65, 66, 67, 68, 69, 70, 71, 72, 7, 8, 10, 73, 74, 75, 76, 77, 78, 79, 80, 81, 82, 83, 84, 85, 86, 45, 87, 88, 89, 90, 91, 92, 93, 94, 99, 100, 101, 102, 103, 104, 105, 106, 107, 108, 109, 110, 111, 112, 113, 114, 115, 116, 117, 118, 119, 120, 121, 122, 123, 124, 125, 126, 127, 128, 129, 130, 131, 132, 133, 134, 135, 136, 137, 138, 139, 140, 141, 142, 143, 144] (by decide +kernel) (by decide +kernel)
set_option maxRecDepth 20000 in
theorem gX8_judge_X8_goSummer : GoodIn wsX8_judge (wsV RX8 225 RX8 yX8_goSummer wsX8_goSummer) := goodIn_app (goodIn_of _ (by decide +kernel)) ggX8_judge_X8_goSummer
set_option maxRecDepth 20000 in
theorem ggX8_judge_X8_putBack : GoodIn wsX8_judge wsX8_putBack := goodIn_r _ [98, 40, 39, 42, 41, 44, 43, 46, 45, 99, 100, 101, 102, 103, 104, 105, 106, 107, 108, 109, 110, 111, 112, 113, 114, 115, 116, 117, 118, 119, 120, 121, 122, 123, 124, 125, 126, 127, 128, 129, 130, 131, 132, 133, 134, 135, 136, 137, 138, 139, 140, 141, 142, 143, 144] (by decide +kernel) (by decide +kernel)
set_option maxRecDepth 20000 in
theorem gX8_judge_X8_putBack : GoodIn wsX8_judge (wsV RX8 228 RX8 yX8_putBack wsX8_putBack) := goodIn_app (goodIn_of _ (by decide +kernel)) ggX8_judge_X8_putBack
theorem dX8_judge_0 : decode cX8_judge 0 = .ok (.iload_n 1, 1) := by decide +kernel
theorem dX8_judge_1 : decode cX8_judge 1 = .ok (.i2l, 1) := by decide +kernel
theorem dX8_judge_2 : decode cX8_judge 2 = .ok (.lconst 0, 1) := by decide +kernel
theorem dX8_judge_3 : decode cX8_judge 3 = .ok (.ldc2_w 217, 3) := by decide +kernel
theorem dX8_judge_6 : decode cX8_judge 6 = .ok (.invokestatic 101, 3) := by decide +kernel
theorem dX8_judge_9 : decode cX8_judge 9 = .ok (.ifCond .ne 6, 3) := by decide +kernel
theorem dX8_judge_12 : decode cX8_judge 12 = .ok (.bipush (-2), 2) := by decide +kernel
theorem dX8_judge_14 : decode cX8_judge 14 = .ok (.ireturn, 1) := by decide +kernel
theorem dX8_judge_15 : decode cX8_judge 15 = .ok (.aload_n 0, 1) := by decide +kernel
theorem dX8_judge_16 : decode cX8_judge 16 = .ok (.invokevirtual 219, 3) := by decide +kernel
theorem dX8_judge_19 : decode cX8_judge 19 = .ok (.ifCond .lt 6, 3) := by decide +kernel
theorem dX8_judge_22 : decode cX8_judge 22 = .ok (.bipush (-5), 2) := by decide +kernel
theorem dX8_judge_24 : decode cX8_judge 24 = .ok (.ireturn, 1) := by decide +kernel
theorem dX8_judge_25 : decode cX8_judge 25 = .ok (.aload_n 0, 1) := by decide +kernel
theorem dX8_judge_26 : decode cX8_judge 26 = .ok (.invokevirtual 222, 3) := by decide +kernel
theorem dX8_judge_29 : decode cX8_judge 29 = .ok (.aload_n 0, 1) := by decide +kernel
theorem dX8_judge_30 : decode cX8_judge 30 = .ok (.invokevirtual 225, 3) := by decide +kernel
theorem dX8_judge_33 : decode cX8_judge 33 = .ok (.aload_n 0, 1) := by decide +kernel
theorem dX8_judge_34 : decode cX8_judge 34 = .ok (.invokevirtual 228, 3) := by decide +kernel
theorem dX8_judge_37 : decode cX8_judge 37 = .ok (.iload_n 1, 1) := by decide +kernel
theorem dX8_judge_38 : decode cX8_judge 38 = .ok (.iconst 1, 1) := by decide +kernel
theorem dX8_judge_39 : decode cX8_judge 39 = .ok (.if_icmp .le 13, 3) := by decide +kernel
theorem dX8_judge_42 : decode cX8_judge 42 = .ok (.aload_n 0, 1) := by decide +kernel
theorem dX8_judge_43 : decode cX8_judge 43 = .ok (.getfield 200, 3) := by decide +kernel
theorem dX8_judge_46 : decode cX8_judge 46 = .ok (.ifCond .lt 6, 3) := by decide +kernel
theorem dX8_judge_49 : decode cX8_judge 49 = .ok (.bipush (-3), 2) := by decide +kernel
theorem dX8_judge_51 : decode cX8_judge 51 = .ok (.ireturn, 1) := by decide +kernel
theorem dX8_judge_52 : decode cX8_judge 52 = .ok (.iload_n 1, 1) := by decide +kernel
theorem dX8_judge_53 : decode cX8_judge 53 = .ok (.ifCond .ne 10, 3) := by decide +kernel
theorem dX8_judge_56 : decode cX8_judge 56 = .ok (.aload_n 0, 1) := by decide +kernel
theorem dX8_judge_57 : decode cX8_judge 57 = .ok (.getfield 200, 3) := by decide +kernel
theorem dX8_judge_60 : decode cX8_judge 60 = .ok (.goto 43, 3) := by decide +kernel
theorem dX8_judge_63 : decode cX8_judge 63 = .ok (.iload_n 1, 1) := by decide +kernel
theorem dX8_judge_64 : decode cX8_judge 64 = .ok (.iconst 1, 1) := by decide +kernel
theorem dX8_judge_65 : decode cX8_judge 65 = .ok (.if_icmp .ne 10, 3) := by decide +kernel
theorem dX8_judge_68 : decode cX8_judge 68 = .ok (.aload_n 0, 1) := by decide +kernel
theorem dX8_judge_69 : decode cX8_judge 69 = .ok (.getfield 203, 3) := by decide +kernel
theorem dX8_judge_72 : decode cX8_judge 72 = .ok (.goto 31, 3) := by decide +kernel
theorem dX8_judge_75 : decode cX8_judge 75 = .ok (.iload_n 1, 1) := by decide +kernel
theorem dX8_judge_76 : decode cX8_judge 76 = .ok (.iconst 2, 1) := by decide +kernel
theorem dX8_judge_77 : decode cX8_judge 77 = .ok (.if_icmp .ne 10, 3) := by decide +kernel
theorem dX8_judge_80 : decode cX8_judge 80 = .ok (.aload_n 0, 1) := by decide +kernel
theorem dX8_judge_81 : decode cX8_judge 81 = .ok (.getfield 188, 3) := by decide +kernel
theorem dX8_judge_84 : decode cX8_judge 84 = .ok (.goto 19, 3) := by decide +kernel
theorem dX8_judge_87 : decode cX8_judge 87 = .ok (.iload_n 1, 1) := by decide +kernel
theorem dX8_judge_88 : decode cX8_judge 88 = .ok (.iconst 3, 1) := by decide +kernel
theorem dX8_judge_89 : decode cX8_judge 89 = .ok (.if_icmp .ne 10, 3) := by decide +kernel
theorem dX8_judge_92 : decode cX8_judge 92 = .ok (.aload_n 0, 1) := by decide +kernel
theorem dX8_judge_93 : decode cX8_judge 93 = .ok (.getfield 191, 3) := by decide +kernel
theorem dX8_judge_96 : decode cX8_judge 96 = .ok (.goto 7, 3) := by decide +kernel
theorem dX8_judge_99 : decode cX8_judge 99 = .ok (.aload_n 0, 1) := by decide +kernel
theorem dX8_judge_100 : decode cX8_judge 100 = .ok (.getfield 194, 3) := by decide +kernel
theorem dX8_judge_103 : decode cX8_judge 103 = .ok (.ireturn, 1) := by decide +kernel
theorem dX8_stateOf_0 : decode cX8_stateOf 0 = .ok (.iload_n 2, 1) := by decide +kernel
theorem dX8_stateOf_1 : decode cX8_stateOf 1 = .ok (.ifCond .ne 16, 3) := by decide +kernel
theorem dX8_stateOf_4 : decode cX8_stateOf 4 = .ok (.aload_n 0, 1) := by decide +kernel
theorem dX8_stateOf_5 : decode cX8_stateOf 5 = .ok (.getfield 25, 3) := by decide +kernel
theorem dX8_stateOf_8 : decode cX8_stateOf 8 = .ok (.iload_n 1, 1) := by decide +kernel
theorem dX8_stateOf_9 : decode cX8_stateOf 9 = .ok (.iaload, 1) := by decide +kernel
theorem dX8_stateOf_10 : decode cX8_stateOf 10 = .ok (.sipush 1000, 3) := by decide +kernel
theorem dX8_stateOf_13 : decode cX8_stateOf 13 = .ok (.iadd, 1) := by decide +kernel
theorem dX8_stateOf_14 : decode cX8_stateOf 14 = .ok (.goto 23, 3) := by decide +kernel
theorem dX8_stateOf_17 : decode cX8_stateOf 17 = .ok (.iload_n 2, 1) := by decide +kernel
theorem dX8_stateOf_18 : decode cX8_stateOf 18 = .ok (.iconst 1, 1) := by decide +kernel
theorem dX8_stateOf_19 : decode cX8_stateOf 19 = .ok (.if_icmp .ne 12, 3) := by decide +kernel
theorem dX8_stateOf_22 : decode cX8_stateOf 22 = .ok (.aload_n 0, 1) := by decide +kernel
theorem dX8_stateOf_23 : decode cX8_stateOf 23 = .ok (.getfield 22, 3) := by decide +kernel
theorem dX8_stateOf_26 : decode cX8_stateOf 26 = .ok (.iload_n 1, 1) := by decide +kernel
theorem dX8_stateOf_27 : decode cX8_stateOf 27 = .ok (.iaload, 1) := by decide +kernel
theorem dX8_stateOf_28 : decode cX8_stateOf 28 = .ok (.goto 9, 3) := by decide +kernel
theorem dX8_stateOf_31 : decode cX8_stateOf 31 = .ok (.aload_n 0, 1) := by decide +kernel
theorem dX8_stateOf_32 : decode cX8_stateOf 32 = .ok (.getfield 28, 3) := by decide +kernel
theorem dX8_stateOf_35 : decode cX8_stateOf 35 = .ok (.iload_n 1, 1) := by decide +kernel
theorem dX8_stateOf_36 : decode cX8_stateOf 36 = .ok (.iaload, 1) := by decide +kernel
theorem dX8_stateOf_37 : decode cX8_stateOf 37 = .ok (.ireturn, 1) := by decide +kernel
set_option maxRecDepth 20000 in
theorem ggX8_state_X8_isThere : GoodIn wsX8_state wsX8_isThere := goodIn_r _ [6, 7, 8, 9, 5, 10, 11, 12, 13, 14, 22, 23, 24, 25, 26, 27, 28, 29, 30, 31, 32, 33, 34, 35, 36, 37, 38, 39, 40, 41, 42, 43, 44, 45, 46, 47, 48, 49, 50, 51, 52, 53, 54, 55, 56, 57, 58, 59, 60, 61, 62, 63, 64, 65, 66, 67] (by decide +kernel) (by decide +kernel)
set_option maxRecDepth 20000 in
theorem gX8_state_X8_isThere : GoodIn wsX8_state (wsV RX8 123 RX8 yX8_isThere wsX8_isThere) := goodIn_app (goodIn_of _ (by decide +kernel)) ggX8_state_X8_isThere
set_option maxRecDepth 20000 in
theorem ggX8_state_X8_in : GoodIn wsX8_state wsX8_in := goodIn_r _ [14] (by decide +kernel) (by decide +kernel)
set_option maxRecDepth 20000 in
theorem gX8_state_X8_in : GoodIn wsX8_state (va_wsS RX8 101 yX8_in wsX8_in) := goodIn_app (goodIn_of _ (by decide +kernel)) ggX8_state_X8_in
set_option maxRecDepth 20000 in
theorem ggX8_state_X8_stateOf : GoodIn wsX8_state wsX8_stateOf := goodIn_r _ [18, 19, 20, 21, 22, 23, 24, 25, 26, 27, 28, 29, 30, 31, 32, 33, 34, 35, 36, 37, 38, 39, 40, 41, 42, 43, 44, 45, 46, 47, 48, 49, 50, 51, 52, 53, 54, 55, 56, 57, 58, 59, 60, 61, 62, 63, 64, 65, 66, 67] (by decide +kernel) (by decide +kernel)
set_option maxRecDepth 20000 in
theorem gX8_state_X8_stateOf : GoodIn wsX8_state (wsV RX8 233 RX8 yX8_stateOf wsX8_stateOf) := goodIn_app (goodIn_of _ (by decide +kernel)) ggX8_state_X8_stateOf
theorem dX8_state_0 : decode cX8_state 0 = .ok (.aload_n 0, 1) := by decide +kernel
theorem dX8_state_1 : decode cX8_state 1 = .ok (.iload_n 1, 1) := by decide +kernel
theorem dX8_state_2 : decode cX8_state 2 = .ok (.invokevirtual 123, 3) := by decide +kernel
theorem dX8_state_5 : decode cX8_state 5 = .ok (.ifCond .ne 5, 3) := by decide +kernel
theorem dX8_state_8 : decode cX8_state 8 = .ok (.iconst (-1), 1) := by decide +kernel
theorem dX8_state_9 : decode cX8_state 9 = .ok (.ireturn, 1) := by decide +kernel
theorem dX8_state_10 : decode cX8_state 10 = .ok (.iload_n 2, 1) := by decide +kernel
theorem dX8_state_11 : decode cX8_state 11 = .ok (.i2l, 1) := by decide +kernel
theorem dX8_state_12 : decode cX8_state 12 = .ok (.lconst 0, 1) := by decide +kernel
theorem dX8_state_13 : decode cX8_state 13 = .ok (.ldc2_w 231, 3) := by decide +kernel
theorem dX8_state_16 : decode cX8_state 16 = .ok (.invokestatic 101, 3) := by decide +kernel
theorem dX8_state_19 : decode cX8_state 19 = .ok (.ifCond .eq 12, 3) := by decide +kernel
theorem dX8_state_22 : decode cX8_state 22 = .ok (.aload_n 0, 1) := by decide +kernel
theorem dX8_state_23 : decode cX8_state 23 = .ok (.iload_n 1, 1) := by decide +kernel
theorem dX8_state_24 : decode cX8_state 24 = .ok (.iload_n 2, 1) := by decide +kernel
theorem dX8_state_25 : decode cX8_state 25 = .ok (.invokevirtual 233, 3) := by decide +kernel
theorem dX8_state_28 : decode cX8_state 28 = .ok (.goto 5, 3) := by decide +kernel
theorem dX8_state_31 : decode cX8_state 31 = .ok (.bipush (-2), 2) := by decide +kernel
theorem dX8_state_33 : decode cX8_state 33 = .ok (.ireturn, 1) := by decide +kernel
set_option maxRecDepth 20000 in
theorem ggX8_behind_X8_isThere : GoodIn wsX8_behind wsX8_isThere := goodIn_r _ [7, 8, 9, 10, 6, 11, 12, 13, 14, 15, 103, 104, 105, 106, 107, 108, 109, 110, 111, 112, 113, 114, 115, 116, 117, 118, 119, 120, 121, 122, 123, 124, 125, 126, 127, 128, 129, 130, 131, 132, 133, 134, 135, 136, 137, 138, 139, 140, 141, 142, 143, 144, 145, 146, 147, 148] (by decide +kernel) (by decide +kernel)
set_option maxRecDepth 20000 in
theorem gX8_behind_X8_isThere : GoodIn wsX8_behind (wsV RX8 123 RX8 yX8_isThere wsX8_isThere) := goodIn_app (goodIn_of _ (by decide +kernel)) ggX8_behind_X8_isThere
set_option maxRecDepth 20000 in
theorem ggX8_behind_X8_in : GoodIn wsX8_behind wsX8_in := goodIn_r _ [15] (by decide +kernel) (by decide +kernel)
set_option maxRecDepth 20000 in
theorem gX8_behind_X8_in : GoodIn wsX8_behind (va_wsS RX8 101 yX8_in wsX8_in) := goodIn_app (goodIn_of _ (by decide +kernel)) ggX8_behind_X8_in
set_option maxRecDepth 20000 in
theorem ggX8_behind_X8_fault : GoodIn wsX8_behind wsX8_fault := goodIn_r _ [19, 20, 21, 22, 23, 24, 25, 26, 6, 27, 28, 29, 30, 31, 32, 33, 34, 35, 13, 14, 15, 36, 37, 38, 39, 103, 104, 105, 106, 107, 108, 109, 110, 111, 112, 113, 114, 115, 116, 117, 118, 119, 120, 121, 122, 123, 124, 125, 126, 127, 128, 129, 130, 131, 132, 133, 134, 135, 136, 137, 138, 139, 140, 141, 142, 143, 144, 145, 146, 147, 148] (by decide +kernel) (by decide +kernel)
set_option maxRecDepth 20000 in
theorem gX8_behind_X8_fault : GoodIn wsX8_behind (wsV RX8 219 RX8 yX8_fault wsX8_fault) := goodIn_app (goodIn_of _ (by decide +kernel)) ggX8_behind_X8_fault
set_option maxRecDepth 20000 in
theorem ggX8_behind_X8_keepNow : GoodIn wsX8_behind wsX8_keepNow := goodIn_r _ [43, 44, 45, 46, 47, 48, 49, 50, 51, 103, 104, 105, 106, 107, 108, 109, 110, 111, 112, 113, 114, 115, 116, 117, 118, 119, 120, 121, 122, 123, 124, 125, 126, 127, 128, 129, 130, 131, 132, 133, 134, 135, 136, 137, 138, 139, 140, 141, 142, 143, 144, 145, 146, 147, 148] (by decide +kernel) (by decide +kernel)
set_option maxRecDepth 20000 in
theorem gX8_behind_X8_keepNow : GoodIn wsX8_behind (wsV RX8 222 RX8 yX8_keepNow wsX8_keepNow) := goodIn_app (goodIn_of _ (by decide +kernel)) ggX8_behind_X8_keepNow
set_option maxRecDepth 20000 in
theorem ggX8_behind_X8_goSummer : GoodIn wsX8_behind wsX8_goSummer := goodIn_r _ [55, 2, 56, 57, 58, 59, 20, 23, 28, 29, 32, 60, 61, 62, 6, 63, 47, 64, 49, 65, 66, 67, 68, 69, 70, 71, 45, 72, 3, 4, 5, 7, 8, 9, 10, 11, 12, 13, 14, 15, 73, 74, 75, 76, 77, 78, 79, 80, 81, 82, 83, 84, 85, 86, 50, 87, 88, 89, 90, 91, 92, 93, 94, 103, 104, 105, 106, 107, 108, 109, 110, 111, 112, 113, 114, 115, 116, 117, 118, 119, 120, 121, 122, 123, 124, 125, 126, 127, 128, 129, 130, 131, 132, 133, 134, 135, 136, 137, 138, 139, 140, 141, 142, 143, 144, 145, 146, 147, 148] (by decide +kernel) (by decide +kernel)
set_option maxRecDepth 20000 in
theorem gX8_behind_X8_goSummer : GoodIn wsX8_behind (wsV RX8 225 RX8 yX8_goSummer wsX8_goSummer) := goodIn_app (goodIn_of _ (by decide +kernel)) ggX8_behind_X8_goSummer
set_option maxRecDepth 20000 in
theorem ggX8_behind_X8_stateOf : GoodIn wsX8_behind wsX8_stateOf := goodIn_r _ [98, 47, 45, 49, 103, 104, 105, 106, 107, 108, 109, 110, 111, 112, 113, 114, 115, 116, 117, 118, 119, 120, 121, 122, 123, 124, 125, 126, 127, 128, 129, 130, 131, 132, 133, 134, 135, 136, 137, 138, 139, 140, 141, 142, 143, 144, 145, 146, 147, 148] (by decide +kernel) (by decide +kernel)
set_option maxRecDepth 20000 in
theorem gX8_behind_X8_stateOf : GoodIn wsX8_behind (wsV RX8 233 RX8 yX8_stateOf wsX8_stateOf) := goodIn_app (goodIn_of _ (by decide +kernel)) ggX8_behind_X8_stateOf
set_option maxRecDepth 20000 in
theorem ggX8_behind_X8_putBack : GoodIn wsX8_behind wsX8_putBack := goodIn_r _ [102, 45, 44, 47, 46, 49, 48, 51, 50, 103, 104, 105, 106, 107, 108, 109, 110, 111, 112, 113, 114, 115, 116, 117, 118, 119, 120, 121, 122, 123, 124, 125, 126, 127, 128, 129, 130, 131, 132, 133, 134, 135, 136, 137, 138, 139, 140, 141, 142, 143, 144, 145, 146, 147, 148] (by decide +kernel) (by decide +kernel)
set_option maxRecDepth 20000 in
theorem gX8_behind_X8_putBack : GoodIn wsX8_behind (wsV RX8 228 RX8 yX8_putBack wsX8_putBack) := goodIn_app (goodIn_of _ (by decide +kernel)) ggX8_behind_X8_putBack
theorem dX8_behind_0 : decode cX8_behind 0 = .ok (.aload_n 0, 1) := by decide +kernel
theorem dX8_behind_1 : decode cX8_behind 1 = .ok (.iload_n 1, 1) := by decide +kernel
theorem dX8_behind_2 : decode cX8_behind 2 = .ok (.invokevirtual 123, 3) := by decide +kernel
theorem dX8_behind_5 : decode cX8_behind 5 = .ok (.ifCond .ne 5, 3) := by decide +kernel
theorem dX8_behind_8 : decode cX8_behind 8 = .ok (.iconst (-1), 1) := by decide +kernel
theorem dX8_behind_9 : decode cX8_behind 9 = .ok (.ireturn, 1) := by decide +kernel
theorem dX8_behind_10 : decode cX8_behind 10 = .ok (.iload_n 2, 1) := by decide +kernel
theorem dX8_behind_11 : decode cX8_behind 11 = .ok (.i2l, 1) := by decide +kernel
theorem dX8_behind_12 : decode cX8_behind 12 = .ok (.lconst 0, 1) := by decide +kernel
theorem dX8_behind_13 : decode cX8_behind 13 = .ok (.ldc2_w 231, 3) := by decide +kernel
theorem dX8_behind_16 : decode cX8_behind 16 = .ok (.invokestatic 101, 3) := by decide +kernel
theorem dX8_behind_19 : decode cX8_behind 19 = .ok (.ifCond .ne 6, 3) := by decide +kernel
theorem dX8_behind_22 : decode cX8_behind 22 = .ok (.bipush (-2), 2) := by decide +kernel
theorem dX8_behind_24 : decode cX8_behind 24 = .ok (.ireturn, 1) := by decide +kernel
theorem dX8_behind_25 : decode cX8_behind 25 = .ok (.aload_n 0, 1) := by decide +kernel
theorem dX8_behind_26 : decode cX8_behind 26 = .ok (.invokevirtual 219, 3) := by decide +kernel
theorem dX8_behind_29 : decode cX8_behind 29 = .ok (.ifCond .lt 6, 3) := by decide +kernel
theorem dX8_behind_32 : decode cX8_behind 32 = .ok (.bipush (-5), 2) := by decide +kernel
theorem dX8_behind_34 : decode cX8_behind 34 = .ok (.ireturn, 1) := by decide +kernel
theorem dX8_behind_35 : decode cX8_behind 35 = .ok (.aload_n 0, 1) := by decide +kernel
theorem dX8_behind_36 : decode cX8_behind 36 = .ok (.invokevirtual 222, 3) := by decide +kernel
theorem dX8_behind_39 : decode cX8_behind 39 = .ok (.aload_n 0, 1) := by decide +kernel
theorem dX8_behind_40 : decode cX8_behind 40 = .ok (.invokevirtual 225, 3) := by decide +kernel
theorem dX8_behind_43 : decode cX8_behind 43 = .ok (.aload_n 0, 1) := by decide +kernel
theorem dX8_behind_44 : decode cX8_behind 44 = .ok (.iload_n 1, 1) := by decide +kernel
theorem dX8_behind_45 : decode cX8_behind 45 = .ok (.iload_n 2, 1) := by decide +kernel
theorem dX8_behind_46 : decode cX8_behind 46 = .ok (.invokevirtual 233, 3) := by decide +kernel
theorem dX8_behind_49 : decode cX8_behind 49 = .ok (.istore_n 3, 1) := by decide +kernel
theorem dX8_behind_50 : decode cX8_behind 50 = .ok (.aload_n 0, 1) := by decide +kernel
theorem dX8_behind_51 : decode cX8_behind 51 = .ok (.invokevirtual 228, 3) := by decide +kernel
theorem dX8_behind_54 : decode cX8_behind 54 = .ok (.aload_n 0, 1) := by decide +kernel
theorem dX8_behind_55 : decode cX8_behind 55 = .ok (.getfield 200, 3) := by decide +kernel
theorem dX8_behind_58 : decode cX8_behind 58 = .ok (.ifCond .lt 8, 3) := by decide +kernel
theorem dX8_behind_61 : decode cX8_behind 61 = .ok (.bipush (-3), 2) := by decide +kernel
theorem dX8_behind_63 : decode cX8_behind 63 = .ok (.goto 4, 3) := by decide +kernel
theorem dX8_behind_66 : decode cX8_behind 66 = .ok (.iload_n 3, 1) := by decide +kernel
theorem dX8_behind_67 : decode cX8_behind 67 = .ok (.ireturn, 1) := by decide +kernel
set_option maxRecDepth 20000 in
theorem ggX8_done_X8_fault : GoodIn wsX8_done wsX8_fault := goodIn_r _ [8, 3, 2, 9, 10, 11, 12, 13, 7, 14, 15, 16, 17, 18, 19, 20, 21, 22, 23, 24, 25, 26, 27, 28, 29, 98, 99, 100, 101, 102, 103, 104, 105, 106, 107, 108, 109, 110, 111, 112, 113, 114, 115, 116, 117, 118, 119, 120, 121, 122, 123, 124, 125, 126, 127, 128, 129, 130, 131, 132, 133, 134, 135, 136, 137, 138, 139, 140, 141, 142, 143] (by decide +kernel) (by decide +kernel)
set_option maxRecDepth 20000 in
theorem gX8_done_X8_fault : GoodIn wsX8_done (wsV RX8 219 RX8 yX8_fault wsX8_fault) := goodIn_app (goodIn_of _ (by decide +kernel)) ggX8_done_X8_fault
set_option maxRecDepth 20000 in
theorem ggX8_done_X8_keepNow : GoodIn wsX8_done wsX8_keepNow := goodIn_r _ [33, 34, 35, 36, 37, 38, 39, 40, 41, 98, 99, 100, 101, 102, 103, 104, 105, 106, 107, 108, 109, 110, 111, 112, 113, 114, 115, 116, 117, 118, 119, 120, 121, 122, 123, 124, 125, 126, 127, 128, 129, 130, 131, 132, 133, 134, 135, 136, 137, 138, 139, 140, 141, 142, 143] (by decide +kernel) (by decide +kernel)
set_option maxRecDepth 20000 in
theorem gX8_done_X8_keepNow : GoodIn wsX8_done (wsV RX8 222 RX8 yX8_keepNow wsX8_keepNow) := goodIn_app (goodIn_of _ (by decide +kernel)) ggX8_done_X8_keepNow
set_option maxRecDepth 20000 in
theorem ggX8_done_X8_goSummer : GoodIn wsX8_done wsX8_goSummer := goodIn_r _ [45, 1, 46, 47, 48, 49, 3, 10, 15, 16, 19, 50, 51, 52, 7, 53, 37, 54, 39, 55, 56, 57, 58, 59, 60, 61, 35, 62, 63, 64, 65, 66, 67, 68, 69, 70, 71, 23, 24, 25, 72, 73, 74, 75, 76, 77, 78, 79, 80, 81, 82, 83, 84, 85, 40, 86, 87, 88, 89, 90, 91, 92, 93, 98, 99, 100, 101, 102, 103, 104, 105, 106, 107, 108, 109, 110, 111, 112, 113, 114, 115, 116, 117, 118, 119, 120, 121, 122, 123, 124, 125, 126, 127, 128, 129, 130, 131, 132, 133, 134, 135, 136, 137, 138, 139, 140, 141, 142, 143] (by decide +kernel) (by decide +kernel)
set_option maxRecDepth 20000 in
theorem gX8_done_X8_goSummer : GoodIn wsX8_done (wsV RX8 225 RX8 yX8_goSummer wsX8_goSummer) := goodIn_app (goodIn_of _ (by decide +kernel)) ggX8_done_X8_goSummer
set_option maxRecDepth 20000 in
theorem ggX8_done_X8_putBack : GoodIn wsX8_done wsX8_putBack := goodIn_r _ [97, 35, 34, 37, 36, 39, 38, 41, 40, 98, 99, 100, 101, 102, 103, 104, 105, 106, 107, 108, 109, 110, 111, 112, 113, 114, 115, 116, 117, 118, 119, 120, 121, 122, 123, 124, 125, 126, 127, 128, 129, 130, 131, 132, 133, 134, 135, 136, 137, 138, 139, 140, 141, 142, 143] (by decide +kernel) (by decide +kernel)
set_option maxRecDepth 20000 in
theorem gX8_done_X8_putBack : GoodIn wsX8_done (wsV RX8 228 RX8 yX8_putBack wsX8_putBack) := goodIn_app (goodIn_of _ (by decide +kernel)) ggX8_done_X8_putBack
theorem dX8_done_0 : decode cX8_done 0 = .ok (.aload_n 0, 1) := by decide +kernel
theorem dX8_done_1 : decode cX8_done 1 = .ok (.invokevirtual 219, 3) := by decide +kernel
theorem dX8_done_4 : decode cX8_done 4 = .ok (.ifCond .lt 6, 3) := by decide +kernel
theorem dX8_done_7 : decode cX8_done 7 = .ok (.bipush (-5), 2) := by decide +kernel
theorem dX8_done_9 : decode cX8_done 9 = .ok (.ireturn, 1) := by decide +kernel
theorem dX8_done_10 : decode cX8_done 10 = .ok (.aload_n 0, 1) := by decide +kernel
theorem dX8_done_11 : decode cX8_done 11 = .ok (.invokevirtual 222, 3) := by decide +kernel
theorem dX8_done_14 : decode cX8_done 14 = .ok (.aload_n 0, 1) := by decide +kernel
theorem dX8_done_15 : decode cX8_done 15 = .ok (.invokevirtual 225, 3) := by decide +kernel
theorem dX8_done_18 : decode cX8_done 18 = .ok (.aload_n 0, 1) := by decide +kernel
theorem dX8_done_19 : decode cX8_done 19 = .ok (.getfield 200, 3) := by decide +kernel
theorem dX8_done_22 : decode cX8_done 22 = .ok (.ifCond .lt 10, 3) := by decide +kernel
theorem dX8_done_25 : decode cX8_done 25 = .ok (.aload_n 0, 1) := by decide +kernel
theorem dX8_done_26 : decode cX8_done 26 = .ok (.invokevirtual 228, 3) := by decide +kernel
theorem dX8_done_29 : decode cX8_done 29 = .ok (.bipush (-3), 2) := by decide +kernel
theorem dX8_done_31 : decode cX8_done 31 = .ok (.ireturn, 1) := by decide +kernel
theorem dX8_done_32 : decode cX8_done 32 = .ok (.aload_n 0, 1) := by decide +kernel
theorem dX8_done_33 : decode cX8_done 33 = .ok (.iconst 0, 1) := by decide +kernel
theorem dX8_done_34 : decode cX8_done 34 = .ok (.putfield 146, 3) := by decide +kernel
theorem dX8_done_37 : decode cX8_done 37 = .ok (.aload_n 0, 1) := by decide +kernel
theorem dX8_done_38 : decode cX8_done 38 = .ok (.getfield 149, 3) := by decide +kernel
theorem dX8_done_41 : decode cX8_done 41 = .ok (.ireturn, 1) := by decide +kernel
set_option maxRecDepth 20000 in
theorem ggX8_refusal_X8_fault : GoodIn wsX8_refusal wsX8_fault := goodIn_r _ [6, 7, 8, 9, 10, 11, 12, 13, 5, 14, 15, 16, 17, 18, 19, 20, 21, 22, 23, 24, 25, 26, 27, 28, 29, 98, 99, 100, 101, 102, 103, 104, 105, 106, 107, 108, 109, 110, 111, 112, 113, 114, 115, 116, 117, 118, 119, 120, 121, 122, 123, 124, 125, 126, 127, 128, 129, 130, 131, 132, 133, 134, 135, 136, 137, 138, 139, 140, 141, 142, 143] (by decide +kernel) (by decide +kernel)
set_option maxRecDepth 20000 in
theorem gX8_refusal_X8_fault : GoodIn wsX8_refusal (wsV RX8 219 RX8 yX8_fault wsX8_fault) := goodIn_app (goodIn_of _ (by decide +kernel)) ggX8_refusal_X8_fault
set_option maxRecDepth 20000 in
theorem ggX8_refusal_X8_keepNow : GoodIn wsX8_refusal wsX8_keepNow := goodIn_r _ [33, 34, 35, 36, 37, 38, 39, 40, 41, 98, 99, 100, 101, 102, 103, 104, 105, 106, 107, 108, 109, 110, 111, 112, 113, 114, 115, 116, 117, 118, 119, 120, 121, 122, 123, 124, 125, 126, 127, 128, 129, 130, 131, 132, 133, 134, 135, 136, 137, 138, 139, 140, 141, 142, 143] (by decide +kernel) (by decide +kernel)
set_option maxRecDepth 20000 in
theorem gX8_refusal_X8_keepNow : GoodIn wsX8_refusal (wsV RX8 222 RX8 yX8_keepNow wsX8_keepNow) := goodIn_app (goodIn_of _ (by decide +kernel)) ggX8_refusal_X8_keepNow
set_option maxRecDepth 20000 in
theorem ggX8_refusal_X8_goSummer : GoodIn wsX8_refusal wsX8_goSummer := goodIn_r _ [45, 1, 46, 47, 48, 49, 7, 10, 15, 16, 19, 50, 51, 52, 5, 53, 37, 54, 39, 55, 56, 57, 58, 59, 60, 61, 35, 62, 63, 64, 65, 66, 67, 68, 69, 70, 71, 23, 24, 25, 72, 73, 74, 75, 76, 77, 78, 79, 80, 81, 82, 83, 84, 85, 40, 86, 87, 88, 89, 90, 91, 92, 93, 98, 99, 100, 101, 102, 103, 104, 105, 106, 107, 108, 109, 110, 111, 112, 113, 114, 115, 116, 117, 118, 119, 120, 121, 122, 123, 124, 125, 126, 127, 128, 129, 130, 131, 132, 133, 134, 135, 136, 137, 138, 139, 140, 141, 142, 143] (by decide +kernel) (by decide +kernel)
set_option maxRecDepth 20000 in
theorem gX8_refusal_X8_goSummer : GoodIn wsX8_refusal (wsV RX8 225 RX8 yX8_goSummer wsX8_goSummer) := goodIn_app (goodIn_of _ (by decide +kernel)) ggX8_refusal_X8_goSummer
set_option maxRecDepth 20000 in
theorem ggX8_refusal_X8_putBack : GoodIn wsX8_refusal wsX8_putBack := goodIn_r _ [97, 35, 34, 37, 36, 39, 38, 41, 40, 98, 99, 100, 101, 102, 103, 104, 105, 106, 107, 108, 109, 110, 111, 112, 113, 114, 115, 116, 117, 118, 119, 120, 121, 122, 123, 124, 125, 126, 127, 128, 129, 130, 131, 132, 133, 134, 135, 136, 137, 138, 139, 140, 141, 142, 143] (by decide +kernel) (by decide +kernel)
set_option maxRecDepth 20000 in
theorem gX8_refusal_X8_putBack : GoodIn wsX8_refusal (wsV RX8 228 RX8 yX8_putBack wsX8_putBack) := goodIn_app (goodIn_of _ (by decide +kernel)) ggX8_refusal_X8_putBack
theorem dX8_refusal_0 : decode cX8_refusal 0 = .ok (.aload_n 0, 1) := by decide +kernel
theorem dX8_refusal_1 : decode cX8_refusal 1 = .ok (.invokevirtual 219, 3) := by decide +kernel
theorem dX8_refusal_4 : decode cX8_refusal 4 = .ok (.ifCond .lt 6, 3) := by decide +kernel
theorem dX8_refusal_7 : decode cX8_refusal 7 = .ok (.bipush (-5), 2) := by decide +kernel
theorem dX8_refusal_9 : decode cX8_refusal 9 = .ok (.ireturn, 1) := by decide +kernel
theorem dX8_refusal_10 : decode cX8_refusal 10 = .ok (.aload_n 0, 1) := by decide +kernel
theorem dX8_refusal_11 : decode cX8_refusal 11 = .ok (.invokevirtual 222, 3) := by decide +kernel
theorem dX8_refusal_14 : decode cX8_refusal 14 = .ok (.aload_n 0, 1) := by decide +kernel
theorem dX8_refusal_15 : decode cX8_refusal 15 = .ok (.invokevirtual 225, 3) := by decide +kernel
theorem dX8_refusal_18 : decode cX8_refusal 18 = .ok (.aload_n 0, 1) := by decide +kernel
theorem dX8_refusal_19 : decode cX8_refusal 19 = .ok (.invokevirtual 228, 3) := by decide +kernel
theorem dX8_refusal_22 : decode cX8_refusal 22 = .ok (.aload_n 0, 1) := by decide +kernel
theorem dX8_refusal_23 : decode cX8_refusal 23 = .ok (.getfield 200, 3) := by decide +kernel
theorem dX8_refusal_26 : decode cX8_refusal 26 = .ok (.ifCond .lt 8, 3) := by decide +kernel
theorem dX8_refusal_29 : decode cX8_refusal 29 = .ok (.bipush (-3), 2) := by decide +kernel
theorem dX8_refusal_31 : decode cX8_refusal 31 = .ok (.goto 5, 3) := by decide +kernel
theorem dX8_refusal_34 : decode cX8_refusal 34 = .ok (.bipush (-6), 2) := by decide +kernel
theorem dX8_refusal_36 : decode cX8_refusal 36 = .ok (.ireturn, 1) := by decide +kernel
theorem dX8_daresOf_0 : decode cX8_daresOf 0 = .ok (.iconst 0, 1) := by decide +kernel
theorem dX8_daresOf_1 : decode cX8_daresOf 1 = .ok (.istore_n 3, 1) := by decide +kernel
theorem dX8_daresOf_2 : decode cX8_daresOf 2 = .ok (.iconst 0, 1) := by decide +kernel
theorem dX8_daresOf_3 : decode cX8_daresOf 3 = .ok (.istore 4, 2) := by decide +kernel
theorem dX8_daresOf_5 : decode cX8_daresOf 5 = .ok (.iload 4, 2) := by decide +kernel
theorem dX8_daresOf_7 : decode cX8_daresOf 7 = .ok (.aload_n 0, 1) := by decide +kernel
theorem dX8_daresOf_8 : decode cX8_daresOf 8 = .ok (.getfield 149, 3) := by decide +kernel
theorem dX8_daresOf_11 : decode cX8_daresOf 11 = .ok (.if_icmp .ge 49, 3) := by decide +kernel
theorem dX8_daresOf_14 : decode cX8_daresOf 14 = .ok (.iload_n 3, 1) := by decide +kernel
theorem dX8_daresOf_15 : decode cX8_daresOf 15 = .ok (.aload_n 0, 1) := by decide +kernel
theorem dX8_daresOf_16 : decode cX8_daresOf 16 = .ok (.getfield 43, 3) := by decide +kernel
theorem dX8_daresOf_19 : decode cX8_daresOf 19 = .ok (.iload 4, 2) := by decide +kernel
theorem dX8_daresOf_21 : decode cX8_daresOf 21 = .ok (.iaload, 1) := by decide +kernel
theorem dX8_daresOf_22 : decode cX8_daresOf 22 = .ok (.ifCond .le 29, 3) := by decide +kernel
theorem dX8_daresOf_25 : decode cX8_daresOf 25 = .ok (.aload_n 0, 1) := by decide +kernel
theorem dX8_daresOf_26 : decode cX8_daresOf 26 = .ok (.getfield 46, 3) := by decide +kernel
theorem dX8_daresOf_29 : decode cX8_daresOf 29 = .ok (.iload 4, 2) := by decide +kernel
theorem dX8_daresOf_31 : decode cX8_daresOf 31 = .ok (.iaload, 1) := by decide +kernel
theorem dX8_daresOf_32 : decode cX8_daresOf 32 = .ok (.iload_n 1, 1) := by decide +kernel
theorem dX8_daresOf_33 : decode cX8_daresOf 33 = .ok (.if_icmp .ne 18, 3) := by decide +kernel
theorem dX8_daresOf_36 : decode cX8_daresOf 36 = .ok (.aload_n 0, 1) := by decide +kernel
theorem dX8_daresOf_37 : decode cX8_daresOf 37 = .ok (.getfield 49, 3) := by decide +kernel
theorem dX8_daresOf_40 : decode cX8_daresOf 40 = .ok (.iload 4, 2) := by decide +kernel
theorem dX8_daresOf_42 : decode cX8_daresOf 42 = .ok (.iaload, 1) := by decide +kernel
theorem dX8_daresOf_43 : decode cX8_daresOf 43 = .ok (.iload_n 2, 1) := by decide +kernel
theorem dX8_daresOf_44 : decode cX8_daresOf 44 = .ok (.if_icmp .ne 7, 3) := by decide +kernel
theorem dX8_daresOf_47 : decode cX8_daresOf 47 = .ok (.iconst 1, 1) := by decide +kernel
theorem dX8_daresOf_48 : decode cX8_daresOf 48 = .ok (.goto 4, 3) := by decide +kernel
theorem dX8_daresOf_51 : decode cX8_daresOf 51 = .ok (.iconst 0, 1) := by decide +kernel
theorem dX8_daresOf_52 : decode cX8_daresOf 52 = .ok (.iadd, 1) := by decide +kernel
theorem dX8_daresOf_53 : decode cX8_daresOf 53 = .ok (.istore_n 3, 1) := by decide +kernel
theorem dX8_daresOf_54 : decode cX8_daresOf 54 = .ok (.iinc 4 1, 3) := by decide +kernel
theorem dX8_daresOf_57 : decode cX8_daresOf 57 = .ok (.goto (-52), 3) := by decide +kernel
theorem dX8_daresOf_60 : decode cX8_daresOf 60 = .ok (.iload_n 3, 1) := by decide +kernel
theorem dX8_daresOf_61 : decode cX8_daresOf 61 = .ok (.ireturn, 1) := by decide +kernel
set_option maxRecDepth 20000 in
theorem ggX8_ties_X8_in : GoodIn wsX8_ties wsX8_in := goodIn_r _ [4] (by decide +kernel) (by decide +kernel)
set_option maxRecDepth 20000 in
theorem gX8_ties_X8_in : GoodIn wsX8_ties (va_wsS RX8 101 yX8_in wsX8_in) := goodIn_app (goodIn_of _ (by decide +kernel)) ggX8_ties_X8_in
set_option maxRecDepth 20000 in
theorem ggX8_ties_X8_refusal : GoodIn wsX8_ties wsX8_refusal := goodIn_r _ [8, 9, 10, 11, 12, 3, 13, 14, 15, 16, 17, 18, 19, 20, 21, 22, 23, 24, 25, 26, 27, 28, 29, 1, 2, 4, 30, 31, 32, 33, 34, 35, 36, 37, 38, 39, 40, 41, 42, 43, 44, 45, 46, 47, 48, 49, 50, 51, 52, 53, 54, 55, 56, 57, 58, 59, 60, 61, 62, 63, 64, 65, 66, 67, 68, 69, 70, 71, 72, 73, 74, 75, 76, 77, 78, 79, 80, 81, 82, 83, 84, 85, 86, 87, 88, 89, 90, 91, 92, 93, 94, 95, 96, 97, 98, 99, 100, 101, 106, 107, 108, 109, 110, 111, 112, 113, 114, 115, 116, 117, 118, 119, 120, 121, 122, 123, 124, 125, 126, 127, 128, 129, 130, 131, 132, 133, 134, 135, 136, 137, 138, 139, 140, 141, 142, 143, 144, 145, 146, 147, 148, 149, 150, 151] (by decide +kernel) (by decide +kernel)
set_option maxRecDepth 20000 in
theorem gX8_ties_X8_refusal : GoodIn wsX8_ties (wsV RX8 236 RX8 yX8_refusal wsX8_refusal) := goodIn_app (goodIn_of _ (by decide +kernel)) ggX8_ties_X8_refusal
set_option maxRecDepth 20000 in
theorem ggX8_ties_X8_daresOf : GoodIn wsX8_ties wsX8_daresOf := goodIn_r _ [105, 14, 17, 22, 23, 106, 107, 108, 109, 110, 111, 112, 113, 114, 115, 116, 117, 118, 119, 120, 121, 122, 123, 124, 125, 126, 127, 128, 129, 130, 131, 132, 133, 134, 135, 136, 137, 138, 139, 140, 141, 142, 143, 144, 145, 146, 147, 148, 149, 150, 151] (by decide +kernel) (by decide +kernel)
set_option maxRecDepth 20000 in
theorem gX8_ties_X8_daresOf : GoodIn wsX8_ties (wsV RX8 239 RX8 yX8_daresOf wsX8_daresOf) := goodIn_app (goodIn_of _ (by decide +kernel)) ggX8_ties_X8_daresOf
set_option maxRecDepth 20000 in
theorem ggX8_ties_X8_most : GoodIn wsX8_ties wsX8_most := goodIn_r _ [61] (by decide +kernel) (by decide +kernel)
set_option maxRecDepth 20000 in
theorem gX8_ties_X8_most : GoodIn wsX8_ties (va_wsS RX8 174 yX8_most wsX8_most) := goodIn_app (goodIn_of _ (by decide +kernel)) ggX8_ties_X8_most
theorem dX8_ties_0 : decode cX8_ties 0 = .ok (.iload_n 1, 1) := by decide +kernel
theorem dX8_ties_1 : decode cX8_ties 1 = .ok (.i2l, 1) := by decide +kernel
theorem dX8_ties_2 : decode cX8_ties 2 = .ok (.lconst 0, 1) := by decide +kernel
theorem dX8_ties_3 : decode cX8_ties 3 = .ok (.lconst 1, 1) := by decide +kernel
theorem dX8_ties_4 : decode cX8_ties 4 = .ok (.invokestatic 101, 3) := by decide +kernel
theorem dX8_ties_7 : decode cX8_ties 7 = .ok (.ifCond .ne 6, 3) := by decide +kernel
theorem dX8_ties_10 : decode cX8_ties 10 = .ok (.bipush (-2), 2) := by decide +kernel
theorem dX8_ties_12 : decode cX8_ties 12 = .ok (.ireturn, 1) := by decide +kernel
theorem dX8_ties_13 : decode cX8_ties 13 = .ok (.aload_n 0, 1) := by decide +kernel
theorem dX8_ties_14 : decode cX8_ties 14 = .ok (.invokevirtual 236, 3) := by decide +kernel
theorem dX8_ties_17 : decode cX8_ties 17 = .ok (.istore_n 2, 1) := by decide +kernel
theorem dX8_ties_18 : decode cX8_ties 18 = .ok (.iload_n 2, 1) := by decide +kernel
theorem dX8_ties_19 : decode cX8_ties 19 = .ok (.bipush (-6), 2) := by decide +kernel
theorem dX8_ties_21 : decode cX8_ties 21 = .ok (.if_icmp .eq 5, 3) := by decide +kernel
theorem dX8_ties_24 : decode cX8_ties 24 = .ok (.iload_n 2, 1) := by decide +kernel
theorem dX8_ties_25 : decode cX8_ties 25 = .ok (.ireturn, 1) := by decide +kernel
theorem dX8_ties_26 : decode cX8_ties 26 = .ok (.bipush (-6), 2) := by decide +kernel
theorem dX8_ties_28 : decode cX8_ties 28 = .ok (.istore_n 3, 1) := by decide +kernel
theorem dX8_ties_29 : decode cX8_ties 29 = .ok (.iconst 0, 1) := by decide +kernel
theorem dX8_ties_30 : decode cX8_ties 30 = .ok (.istore 4, 2) := by decide +kernel
theorem dX8_ties_32 : decode cX8_ties 32 = .ok (.iconst 0, 1) := by decide +kernel
theorem dX8_ties_33 : decode cX8_ties 33 = .ok (.istore 5, 2) := by decide +kernel
theorem dX8_ties_35 : decode cX8_ties 35 = .ok (.iload 5, 2) := by decide +kernel
theorem dX8_ties_37 : decode cX8_ties 37 = .ok (.bipush 36, 2) := by decide +kernel
theorem dX8_ties_39 : decode cX8_ties 39 = .ok (.if_icmp .ge 60, 3) := by decide +kernel
theorem dX8_ties_42 : decode cX8_ties 42 = .ok (.aload_n 0, 1) := by decide +kernel
theorem dX8_ties_43 : decode cX8_ties 43 = .ok (.iload 5, 2) := by decide +kernel
theorem dX8_ties_45 : decode cX8_ties 45 = .ok (.bipush 6, 2) := by decide +kernel
theorem dX8_ties_47 : decode cX8_ties 47 = .ok (.idiv, 1) := by decide +kernel
theorem dX8_ties_48 : decode cX8_ties 48 = .ok (.iload 5, 2) := by decide +kernel
theorem dX8_ties_50 : decode cX8_ties 50 = .ok (.bipush 6, 2) := by decide +kernel
theorem dX8_ties_52 : decode cX8_ties 52 = .ok (.irem, 1) := by decide +kernel
theorem dX8_ties_53 : decode cX8_ties 53 = .ok (.invokevirtual 239, 3) := by decide +kernel
theorem dX8_ties_56 : decode cX8_ties 56 = .ok (.istore 6, 2) := by decide +kernel
theorem dX8_ties_58 : decode cX8_ties 58 = .ok (.iload 6, 2) := by decide +kernel
theorem dX8_ties_60 : decode cX8_ties 60 = .ok (.iload 4, 2) := by decide +kernel
theorem dX8_ties_62 : decode cX8_ties 62 = .ok (.if_icmp .le 20, 3) := by decide +kernel
theorem dX8_ties_65 : decode cX8_ties 65 = .ok (.bipush 10, 2) := by decide +kernel
theorem dX8_ties_67 : decode cX8_ties 67 = .ok (.iload 5, 2) := by decide +kernel
theorem dX8_ties_69 : decode cX8_ties 69 = .ok (.bipush 6, 2) := by decide +kernel
theorem dX8_ties_71 : decode cX8_ties 71 = .ok (.idiv, 1) := by decide +kernel
theorem dX8_ties_72 : decode cX8_ties 72 = .ok (.imul, 1) := by decide +kernel
theorem dX8_ties_73 : decode cX8_ties 73 = .ok (.iload 5, 2) := by decide +kernel
theorem dX8_ties_75 : decode cX8_ties 75 = .ok (.bipush 6, 2) := by decide +kernel
theorem dX8_ties_77 : decode cX8_ties 77 = .ok (.irem, 1) := by decide +kernel
theorem dX8_ties_78 : decode cX8_ties 78 = .ok (.iadd, 1) := by decide +kernel
theorem dX8_ties_79 : decode cX8_ties 79 = .ok (.goto 4, 3) := by decide +kernel
theorem dX8_ties_82 : decode cX8_ties 82 = .ok (.iload_n 3, 1) := by decide +kernel
theorem dX8_ties_83 : decode cX8_ties 83 = .ok (.istore_n 3, 1) := by decide +kernel
theorem dX8_ties_84 : decode cX8_ties 84 = .ok (.iload 4, 2) := by decide +kernel
theorem dX8_ties_86 : decode cX8_ties 86 = .ok (.iload 6, 2) := by decide +kernel
theorem dX8_ties_88 : decode cX8_ties 88 = .ok (.invokestatic 174, 3) := by decide +kernel
theorem dX8_ties_91 : decode cX8_ties 91 = .ok (.istore 4, 2) := by decide +kernel
theorem dX8_ties_93 : decode cX8_ties 93 = .ok (.iinc 5 1, 3) := by decide +kernel
theorem dX8_ties_96 : decode cX8_ties 96 = .ok (.goto (-61), 3) := by decide +kernel
theorem dX8_ties_99 : decode cX8_ties 99 = .ok (.iload_n 3, 1) := by decide +kernel
theorem dX8_ties_100 : decode cX8_ties 100 = .ok (.ifCond .lt 7, 3) := by decide +kernel
theorem dX8_ties_103 : decode cX8_ties 103 = .ok (.iload_n 1, 1) := by decide +kernel
theorem dX8_ties_104 : decode cX8_ties 104 = .ok (.ifCond .ne 7, 3) := by decide +kernel
theorem dX8_ties_107 : decode cX8_ties 107 = .ok (.iload_n 3, 1) := by decide +kernel
theorem dX8_ties_108 : decode cX8_ties 108 = .ok (.goto 5, 3) := by decide +kernel
theorem dX8_ties_111 : decode cX8_ties 111 = .ok (.iload 4, 2) := by decide +kernel
theorem dX8_ties_113 : decode cX8_ties 113 = .ok (.ireturn, 1) := by decide +kernel
theorem dX8_lowest_0 : decode cX8_lowest 0 = .ok (.lload_n 2, 1) := by decide +kernel
theorem dX8_lowest_1 : decode cX8_lowest 1 = .ok (.lstore 5, 2) := by decide +kernel
theorem dX8_lowest_3 : decode cX8_lowest 3 = .ok (.lload_n 0, 1) := by decide +kernel
theorem dX8_lowest_4 : decode cX8_lowest 4 = .ok (.lstore 7, 2) := by decide +kernel
theorem dX8_lowest_6 : decode cX8_lowest 6 = .ok (.lload 7, 2) := by decide +kernel
theorem dX8_lowest_8 : decode cX8_lowest 8 = .ok (.lconst 0, 1) := by decide +kernel
theorem dX8_lowest_9 : decode cX8_lowest 9 = .ok (.lcmp, 1) := by decide +kernel
theorem dX8_lowest_10 : decode cX8_lowest 10 = .ok (.ifCond .eq 21, 3) := by decide +kernel
theorem dX8_lowest_13 : decode cX8_lowest 13 = .ok (.lload 5, 2) := by decide +kernel
theorem dX8_lowest_15 : decode cX8_lowest 15 = .ok (.lload 7, 2) := by decide +kernel
theorem dX8_lowest_17 : decode cX8_lowest 17 = .ok (.lrem, 1) := by decide +kernel
theorem dX8_lowest_18 : decode cX8_lowest 18 = .ok (.lstore 9, 2) := by decide +kernel
theorem dX8_lowest_20 : decode cX8_lowest 20 = .ok (.lload 7, 2) := by decide +kernel
theorem dX8_lowest_22 : decode cX8_lowest 22 = .ok (.lstore 5, 2) := by decide +kernel
theorem dX8_lowest_24 : decode cX8_lowest 24 = .ok (.lload 9, 2) := by decide +kernel
theorem dX8_lowest_26 : decode cX8_lowest 26 = .ok (.lstore 7, 2) := by decide +kernel
theorem dX8_lowest_28 : decode cX8_lowest 28 = .ok (.goto (-22), 3) := by decide +kernel
theorem dX8_lowest_31 : decode cX8_lowest 31 = .ok (.iload 4, 2) := by decide +kernel
theorem dX8_lowest_33 : decode cX8_lowest 33 = .ok (.ifCond .ne 10, 3) := by decide +kernel
theorem dX8_lowest_36 : decode cX8_lowest 36 = .ok (.lload_n 0, 1) := by decide +kernel
theorem dX8_lowest_37 : decode cX8_lowest 37 = .ok (.lload 5, 2) := by decide +kernel
theorem dX8_lowest_39 : decode cX8_lowest 39 = .ok (.ldiv, 1) := by decide +kernel
theorem dX8_lowest_40 : decode cX8_lowest 40 = .ok (.goto 7, 3) := by decide +kernel
theorem dX8_lowest_43 : decode cX8_lowest 43 = .ok (.lload_n 2, 1) := by decide +kernel
theorem dX8_lowest_44 : decode cX8_lowest 44 = .ok (.lload 5, 2) := by decide +kernel
theorem dX8_lowest_46 : decode cX8_lowest 46 = .ok (.ldiv, 1) := by decide +kernel
theorem dX8_lowest_47 : decode cX8_lowest 47 = .ok (.lreturn, 1) := by decide +kernel
theorem dX8_tens_0 : decode cX8_tens 0 = .ok (.lconst 1, 1) := by decide +kernel
theorem dX8_tens_1 : decode cX8_tens 1 = .ok (.lstore_n 1, 1) := by decide +kernel
theorem dX8_tens_2 : decode cX8_tens 2 = .ok (.iconst 0, 1) := by decide +kernel
theorem dX8_tens_3 : decode cX8_tens 3 = .ok (.istore_n 3, 1) := by decide +kernel
theorem dX8_tens_4 : decode cX8_tens 4 = .ok (.iload_n 3, 1) := by decide +kernel
theorem dX8_tens_5 : decode cX8_tens 5 = .ok (.iload_n 0, 1) := by decide +kernel
theorem dX8_tens_6 : decode cX8_tens 6 = .ok (.if_icmp .ge 15, 3) := by decide +kernel
theorem dX8_tens_9 : decode cX8_tens 9 = .ok (.lload_n 1, 1) := by decide +kernel
theorem dX8_tens_10 : decode cX8_tens 10 = .ok (.ldc2_w 242, 3) := by decide +kernel
theorem dX8_tens_13 : decode cX8_tens 13 = .ok (.lmul, 1) := by decide +kernel
theorem dX8_tens_14 : decode cX8_tens 14 = .ok (.lstore_n 1, 1) := by decide +kernel
theorem dX8_tens_15 : decode cX8_tens 15 = .ok (.iinc 3 1, 3) := by decide +kernel
theorem dX8_tens_18 : decode cX8_tens 18 = .ok (.goto (-14), 3) := by decide +kernel
theorem dX8_tens_21 : decode cX8_tens 21 = .ok (.lload_n 1, 1) := by decide +kernel
theorem dX8_tens_22 : decode cX8_tens 22 = .ok (.lreturn, 1) := by decide +kernel
set_option maxRecDepth 20000 in
theorem ggX8_unhurt_X8_in : GoodIn wsX8_unhurt wsX8_in := goodIn_r _ [12] (by decide +kernel) (by decide +kernel)
set_option maxRecDepth 20000 in
theorem gX8_unhurt_X8_in : GoodIn wsX8_unhurt (va_wsS RX8 101 yX8_in wsX8_in) := goodIn_app (goodIn_of _ (by decide +kernel)) ggX8_unhurt_X8_in
set_option maxRecDepth 20000 in
theorem ggX8_unhurt_X8_refusal : GoodIn wsX8_unhurt wsX8_refusal := goodIn_r _ [16, 17, 18, 19, 20, 11, 21, 3, 22, 23, 4, 24, 25, 26, 27, 5, 7, 28, 29, 6, 30, 31, 32, 9, 10, 12, 33, 34, 35, 36, 37, 38, 39, 40, 41, 42, 43, 44, 45, 46, 47, 48, 49, 50, 51, 52, 53, 54, 55, 56, 57, 58, 59, 60, 61, 62, 63, 64, 65, 66, 67, 68, 69, 70, 71, 72, 73, 74, 75, 76, 77, 78, 79, 80, 81, 82, 83, 84, 85, 86, 87, 88, 89, 90, 91, 92, 93, 94, 95, 96, 97, 98, 99, 100, 101, 102, 103, 104, 112, 113, 114, 115, 116, 117, 118, 119, 120, 121, 122, 123, 124, 125, 126, 127, 128, 129, 130, 131, 132, 133, 134, 135, 136, 137, 138, 139, 140, 141, 142, 143, 144, 145, 146, 147, 148, 149, 150, 151, 152, 153, 154, 155, 156, 157] (by decide +kernel) (by decide +kernel)
set_option maxRecDepth 20000 in
theorem gX8_unhurt_X8_refusal : GoodIn wsX8_unhurt (wsV RX8 236 RX8 yX8_refusal wsX8_refusal) := goodIn_app (goodIn_of _ (by decide +kernel)) ggX8_unhurt_X8_refusal
set_option maxRecDepth 20000 in
theorem ggX8_unhurt_X8_oddsOf : GoodIn wsX8_unhurt wsX8_oddsOf := goodIn_r _ [98, 99, 100, 112, 113, 114, 115, 116, 117, 118, 119, 120, 121, 122, 123, 124, 125, 126, 127, 128, 129, 130, 131, 132, 133, 134, 135, 136, 137, 138, 139, 140, 141, 142, 143, 144, 145, 146, 147, 148, 149, 150, 151, 152, 153, 154, 155, 156, 157] (by decide +kernel) (by decide +kernel)
set_option maxRecDepth 20000 in
theorem gX8_unhurt_X8_oddsOf : GoodIn wsX8_unhurt (wsV RX8 182 RX8 yX8_oddsOf wsX8_oddsOf) := goodIn_app (goodIn_of _ (by decide +kernel)) ggX8_unhurt_X8_oddsOf
set_option maxRecDepth 20000 in
theorem ggX8_unhurt_X8_tens : GoodIn wsX8_unhurt wsX8_tens := goodIn_r _ [107, 108] (by decide +kernel) (by decide +kernel)
set_option maxRecDepth 20000 in
theorem gX8_unhurt_X8_tens : GoodIn wsX8_unhurt (va_wsS RX8 250 yX8_tens wsX8_tens) := goodIn_app (goodIn_of _ (by decide +kernel)) ggX8_unhurt_X8_tens
set_option maxRecDepth 20000 in
theorem ggX8_unhurt_X8_lowest : GoodIn wsX8_unhurt wsX8_lowest := goodIn_r _ [111] (by decide +kernel) (by decide +kernel)
set_option maxRecDepth 20000 in
theorem gX8_unhurt_X8_lowest : GoodIn wsX8_unhurt (va_wsS RX8 254 yX8_lowest wsX8_lowest) := goodIn_app (goodIn_of _ (by decide +kernel)) ggX8_unhurt_X8_lowest
theorem dX8_unhurt_0 : decode cX8_unhurt 0 = .ok (.iload_n 1, 1) := by decide +kernel
theorem dX8_unhurt_1 : decode cX8_unhurt 1 = .ok (.i2l, 1) := by decide +kernel
theorem dX8_unhurt_2 : decode cX8_unhurt 2 = .ok (.lconst 0, 1) := by decide +kernel
theorem dX8_unhurt_3 : decode cX8_unhurt 3 = .ok (.lconst 1, 1) := by decide +kernel
theorem dX8_unhurt_4 : decode cX8_unhurt 4 = .ok (.invokestatic 101, 3) := by decide +kernel
theorem dX8_unhurt_7 : decode cX8_unhurt 7 = .ok (.ifCond .ne 7, 3) := by decide +kernel
theorem dX8_unhurt_10 : decode cX8_unhurt 10 = .ok (.ldc2_w 244, 3) := by decide +kernel
theorem dX8_unhurt_13 : decode cX8_unhurt 13 = .ok (.lreturn, 1) := by decide +kernel
theorem dX8_unhurt_14 : decode cX8_unhurt 14 = .ok (.aload_n 0, 1) := by decide +kernel
theorem dX8_unhurt_15 : decode cX8_unhurt 15 = .ok (.invokevirtual 236, 3) := by decide +kernel
theorem dX8_unhurt_18 : decode cX8_unhurt 18 = .ok (.istore_n 2, 1) := by decide +kernel
theorem dX8_unhurt_19 : decode cX8_unhurt 19 = .ok (.iload_n 2, 1) := by decide +kernel
theorem dX8_unhurt_20 : decode cX8_unhurt 20 = .ok (.bipush (-6), 2) := by decide +kernel
theorem dX8_unhurt_22 : decode cX8_unhurt 22 = .ok (.if_icmp .eq 10, 3) := by decide +kernel
theorem dX8_unhurt_25 : decode cX8_unhurt 25 = .ok (.ldc2_w 246, 3) := by decide +kernel
theorem dX8_unhurt_28 : decode cX8_unhurt 28 = .ok (.iload_n 2, 1) := by decide +kernel
theorem dX8_unhurt_29 : decode cX8_unhurt 29 = .ok (.i2l, 1) := by decide +kernel
theorem dX8_unhurt_30 : decode cX8_unhurt 30 = .ok (.ladd, 1) := by decide +kernel
theorem dX8_unhurt_31 : decode cX8_unhurt 31 = .ok (.lreturn, 1) := by decide +kernel
theorem dX8_unhurt_32 : decode cX8_unhurt 32 = .ok (.lconst 1, 1) := by decide +kernel
theorem dX8_unhurt_33 : decode cX8_unhurt 33 = .ok (.lstore_n 3, 1) := by decide +kernel
theorem dX8_unhurt_34 : decode cX8_unhurt 34 = .ok (.iconst 0, 1) := by decide +kernel
theorem dX8_unhurt_35 : decode cX8_unhurt 35 = .ok (.istore 5, 2) := by decide +kernel
theorem dX8_unhurt_37 : decode cX8_unhurt 37 = .ok (.iconst 0, 1) := by decide +kernel
theorem dX8_unhurt_38 : decode cX8_unhurt 38 = .ok (.istore 6, 2) := by decide +kernel
theorem dX8_unhurt_40 : decode cX8_unhurt 40 = .ok (.iload 6, 2) := by decide +kernel
theorem dX8_unhurt_42 : decode cX8_unhurt 42 = .ok (.aload_n 0, 1) := by decide +kernel
theorem dX8_unhurt_43 : decode cX8_unhurt 43 = .ok (.getfield 149, 3) := by decide +kernel
theorem dX8_unhurt_46 : decode cX8_unhurt 46 = .ok (.if_icmp .ge 146, 3) := by decide +kernel
theorem dX8_unhurt_49 : decode cX8_unhurt 49 = .ok (.iload 5, 2) := by decide +kernel
theorem dX8_unhurt_51 : decode cX8_unhurt 51 = .ok (.bipush 15, 2) := by decide +kernel
theorem dX8_unhurt_53 : decode cX8_unhurt 53 = .ok (.if_icmp .gt 139, 3) := by decide +kernel
theorem dX8_unhurt_56 : decode cX8_unhurt 56 = .ok (.aload_n 0, 1) := by decide +kernel
theorem dX8_unhurt_57 : decode cX8_unhurt 57 = .ok (.getfield 43, 3) := by decide +kernel
theorem dX8_unhurt_60 : decode cX8_unhurt 60 = .ok (.iload 6, 2) := by decide +kernel
theorem dX8_unhurt_62 : decode cX8_unhurt 62 = .ok (.iaload, 1) := by decide +kernel
theorem dX8_unhurt_63 : decode cX8_unhurt 63 = .ok (.bipush 42, 2) := by decide +kernel
theorem dX8_unhurt_65 : decode cX8_unhurt 65 = .ok (.if_icmp .ne 7, 3) := by decide +kernel
theorem dX8_unhurt_68 : decode cX8_unhurt 68 = .ok (.iconst 1, 1) := by decide +kernel
theorem dX8_unhurt_69 : decode cX8_unhurt 69 = .ok (.goto 4, 3) := by decide +kernel
theorem dX8_unhurt_72 : decode cX8_unhurt 72 = .ok (.iconst 0, 1) := by decide +kernel
theorem dX8_unhurt_73 : decode cX8_unhurt 73 = .ok (.istore 7, 2) := by decide +kernel
theorem dX8_unhurt_75 : decode cX8_unhurt 75 = .ok (.lload_n 3, 1) := by decide +kernel
theorem dX8_unhurt_76 : decode cX8_unhurt 76 = .ok (.iload 7, 2) := by decide +kernel
theorem dX8_unhurt_78 : decode cX8_unhurt 78 = .ok (.ifCond .eq 28, 3) := by decide +kernel
theorem dX8_unhurt_81 : decode cX8_unhurt 81 = .ok (.bipush 10, 2) := by decide +kernel
theorem dX8_unhurt_83 : decode cX8_unhurt 83 = .ok (.aload_n 0, 1) := by decide +kernel
theorem dX8_unhurt_84 : decode cX8_unhurt 84 = .ok (.aload_n 0, 1) := by decide +kernel
theorem dX8_unhurt_85 : decode cX8_unhurt 85 = .ok (.getfield 46, 3) := by decide +kernel
theorem dX8_unhurt_88 : decode cX8_unhurt 88 = .ok (.iload 6, 2) := by decide +kernel
theorem dX8_unhurt_90 : decode cX8_unhurt 90 = .ok (.iaload, 1) := by decide +kernel
theorem dX8_unhurt_91 : decode cX8_unhurt 91 = .ok (.aload_n 0, 1) := by decide +kernel
theorem dX8_unhurt_92 : decode cX8_unhurt 92 = .ok (.getfield 52, 3) := by decide +kernel
theorem dX8_unhurt_95 : decode cX8_unhurt 95 = .ok (.iload 6, 2) := by decide +kernel
theorem dX8_unhurt_97 : decode cX8_unhurt 97 = .ok (.iaload, 1) := by decide +kernel
theorem dX8_unhurt_98 : decode cX8_unhurt 98 = .ok (.invokevirtual 182, 3) := by decide +kernel
theorem dX8_unhurt_101 : decode cX8_unhurt 101 = .ok (.isub, 1) := by decide +kernel
theorem dX8_unhurt_102 : decode cX8_unhurt 102 = .ok (.i2l, 1) := by decide +kernel
theorem dX8_unhurt_103 : decode cX8_unhurt 103 = .ok (.goto 4, 3) := by decide +kernel
theorem dX8_unhurt_106 : decode cX8_unhurt 106 = .ok (.lconst 1, 1) := by decide +kernel
theorem dX8_unhurt_107 : decode cX8_unhurt 107 = .ok (.lmul, 1) := by decide +kernel
theorem dX8_unhurt_108 : decode cX8_unhurt 108 = .ok (.lstore_n 3, 1) := by decide +kernel
theorem dX8_unhurt_109 : decode cX8_unhurt 109 = .ok (.lload_n 3, 1) := by decide +kernel
theorem dX8_unhurt_110 : decode cX8_unhurt 110 = .ok (.iload 7, 2) := by decide +kernel
theorem dX8_unhurt_112 : decode cX8_unhurt 112 = .ok (.ifCond .ne 15, 3) := by decide +kernel
theorem dX8_unhurt_115 : decode cX8_unhurt 115 = .ok (.aload_n 0, 1) := by decide +kernel
theorem dX8_unhurt_116 : decode cX8_unhurt 116 = .ok (.getfield 43, 3) := by decide +kernel
theorem dX8_unhurt_119 : decode cX8_unhurt 119 = .ok (.iload 6, 2) := by decide +kernel
theorem dX8_unhurt_121 : decode cX8_unhurt 121 = .ok (.iaload, 1) := by decide +kernel
theorem dX8_unhurt_122 : decode cX8_unhurt 122 = .ok (.bipush 43, 2) := by decide +kernel
theorem dX8_unhurt_124 : decode cX8_unhurt 124 = .ok (.if_icmp .ne 28, 3) := by decide +kernel
theorem dX8_unhurt_127 : decode cX8_unhurt 127 = .ok (.bipush 10, 2) := by decide +kernel
theorem dX8_unhurt_129 : decode cX8_unhurt 129 = .ok (.aload_n 0, 1) := by decide +kernel
theorem dX8_unhurt_130 : decode cX8_unhurt 130 = .ok (.aload_n 0, 1) := by decide +kernel
theorem dX8_unhurt_131 : decode cX8_unhurt 131 = .ok (.getfield 49, 3) := by decide +kernel
theorem dX8_unhurt_134 : decode cX8_unhurt 134 = .ok (.iload 6, 2) := by decide +kernel
theorem dX8_unhurt_136 : decode cX8_unhurt 136 = .ok (.iaload, 1) := by decide +kernel
theorem dX8_unhurt_137 : decode cX8_unhurt 137 = .ok (.aload_n 0, 1) := by decide +kernel
theorem dX8_unhurt_138 : decode cX8_unhurt 138 = .ok (.getfield 52, 3) := by decide +kernel
theorem dX8_unhurt_141 : decode cX8_unhurt 141 = .ok (.iload 6, 2) := by decide +kernel
theorem dX8_unhurt_143 : decode cX8_unhurt 143 = .ok (.iaload, 1) := by decide +kernel
theorem dX8_unhurt_144 : decode cX8_unhurt 144 = .ok (.invokevirtual 182, 3) := by decide +kernel
theorem dX8_unhurt_147 : decode cX8_unhurt 147 = .ok (.isub, 1) := by decide +kernel
theorem dX8_unhurt_148 : decode cX8_unhurt 148 = .ok (.i2l, 1) := by decide +kernel
theorem dX8_unhurt_149 : decode cX8_unhurt 149 = .ok (.goto 4, 3) := by decide +kernel
theorem dX8_unhurt_152 : decode cX8_unhurt 152 = .ok (.lconst 1, 1) := by decide +kernel
theorem dX8_unhurt_153 : decode cX8_unhurt 153 = .ok (.lmul, 1) := by decide +kernel
theorem dX8_unhurt_154 : decode cX8_unhurt 154 = .ok (.lstore_n 3, 1) := by decide +kernel
theorem dX8_unhurt_155 : decode cX8_unhurt 155 = .ok (.iload 5, 2) := by decide +kernel
theorem dX8_unhurt_157 : decode cX8_unhurt 157 = .ok (.iload 7, 2) := by decide +kernel
theorem dX8_unhurt_159 : decode cX8_unhurt 159 = .ok (.ifCond .eq 7, 3) := by decide +kernel
theorem dX8_unhurt_162 : decode cX8_unhurt 162 = .ok (.iconst 2, 1) := by decide +kernel
theorem dX8_unhurt_163 : decode cX8_unhurt 163 = .ok (.goto 20, 3) := by decide +kernel
theorem dX8_unhurt_166 : decode cX8_unhurt 166 = .ok (.aload_n 0, 1) := by decide +kernel
theorem dX8_unhurt_167 : decode cX8_unhurt 167 = .ok (.getfield 43, 3) := by decide +kernel
theorem dX8_unhurt_170 : decode cX8_unhurt 170 = .ok (.iload 6, 2) := by decide +kernel
theorem dX8_unhurt_172 : decode cX8_unhurt 172 = .ok (.iaload, 1) := by decide +kernel
theorem dX8_unhurt_173 : decode cX8_unhurt 173 = .ok (.bipush 43, 2) := by decide +kernel
theorem dX8_unhurt_175 : decode cX8_unhurt 175 = .ok (.if_icmp .ne 7, 3) := by decide +kernel
theorem dX8_unhurt_178 : decode cX8_unhurt 178 = .ok (.iconst 1, 1) := by decide +kernel
theorem dX8_unhurt_179 : decode cX8_unhurt 179 = .ok (.goto 4, 3) := by decide +kernel
theorem dX8_unhurt_182 : decode cX8_unhurt 182 = .ok (.iconst 0, 1) := by decide +kernel
theorem dX8_unhurt_183 : decode cX8_unhurt 183 = .ok (.iadd, 1) := by decide +kernel
theorem dX8_unhurt_184 : decode cX8_unhurt 184 = .ok (.istore 5, 2) := by decide +kernel
theorem dX8_unhurt_186 : decode cX8_unhurt 186 = .ok (.iinc 6 1, 3) := by decide +kernel
theorem dX8_unhurt_189 : decode cX8_unhurt 189 = .ok (.goto (-149), 3) := by decide +kernel
theorem dX8_unhurt_192 : decode cX8_unhurt 192 = .ok (.iload 5, 2) := by decide +kernel
theorem dX8_unhurt_194 : decode cX8_unhurt 194 = .ok (.bipush 15, 2) := by decide +kernel
theorem dX8_unhurt_196 : decode cX8_unhurt 196 = .ok (.if_icmp .le 9, 3) := by decide +kernel
theorem dX8_unhurt_199 : decode cX8_unhurt 199 = .ok (.ldc2_w 248, 3) := by decide +kernel
theorem dX8_unhurt_202 : decode cX8_unhurt 202 = .ok (.goto 13, 3) := by decide +kernel
theorem dX8_unhurt_205 : decode cX8_unhurt 205 = .ok (.lload_n 3, 1) := by decide +kernel
theorem dX8_unhurt_206 : decode cX8_unhurt 206 = .ok (.iload 5, 2) := by decide +kernel
theorem dX8_unhurt_208 : decode cX8_unhurt 208 = .ok (.invokestatic 250, 3) := by decide +kernel
theorem dX8_unhurt_211 : decode cX8_unhurt 211 = .ok (.iload_n 1, 1) := by decide +kernel
theorem dX8_unhurt_212 : decode cX8_unhurt 212 = .ok (.invokestatic 254, 3) := by decide +kernel
theorem dX8_unhurt_215 : decode cX8_unhurt 215 = .ok (.lreturn, 1) := by decide +kernel
set_option maxRecDepth 20000 in
theorem ggX8_odds_X8_isThere : GoodIn wsX8_odds wsX8_isThere := goodIn_r _ [5, 6, 7, 8, 4, 9, 10, 11, 12, 13, 24, 25, 26, 27, 28, 29, 30, 31, 32, 33, 34, 35, 36, 37, 38, 39, 40, 41, 42, 43, 44, 45, 46, 47, 48, 49, 50, 51, 52, 53, 54, 55, 56, 57, 58, 59, 60, 61, 62, 63, 64, 65, 66, 67, 68, 69] (by decide +kernel) (by decide +kernel)
set_option maxRecDepth 20000 in
theorem gX8_odds_X8_isThere : GoodIn wsX8_odds (wsV RX8 123 RX8 yX8_isThere wsX8_isThere) := goodIn_app (goodIn_of _ (by decide +kernel)) ggX8_odds_X8_isThere
set_option maxRecDepth 20000 in
theorem ggX8_odds_X8_isHeight : GoodIn wsX8_odds wsX8_isHeight := goodIn_r _ [16, 17, 11, 12, 4, 13] (by decide +kernel) (by decide +kernel)
set_option maxRecDepth 20000 in
theorem gX8_odds_X8_isHeight : GoodIn wsX8_odds (va_wsS RX8 162 yX8_isHeight wsX8_isHeight) := goodIn_app (goodIn_of _ (by decide +kernel)) ggX8_odds_X8_isHeight
set_option maxRecDepth 20000 in
theorem ggX8_odds_X8_oddsOf : GoodIn wsX8_odds wsX8_oddsOf := goodIn_r _ [21, 22, 23, 24, 25, 26, 27, 28, 29, 30, 31, 32, 33, 34, 35, 36, 37, 38, 39, 40, 41, 42, 43, 44, 45, 46, 47, 48, 49, 50, 51, 52, 53, 54, 55, 56, 57, 58, 59, 60, 61, 62, 63, 64, 65, 66, 67, 68, 69] (by decide +kernel) (by decide +kernel)
set_option maxRecDepth 20000 in
theorem gX8_odds_X8_oddsOf : GoodIn wsX8_odds (wsV RX8 182 RX8 yX8_oddsOf wsX8_oddsOf) := goodIn_app (goodIn_of _ (by decide +kernel)) ggX8_odds_X8_oddsOf
theorem dX8_odds_0 : decode cX8_odds 0 = .ok (.aload_n 0, 1) := by decide +kernel
theorem dX8_odds_1 : decode cX8_odds 1 = .ok (.iload_n 1, 1) := by decide +kernel
theorem dX8_odds_2 : decode cX8_odds 2 = .ok (.invokevirtual 123, 3) := by decide +kernel
theorem dX8_odds_5 : decode cX8_odds 5 = .ok (.ifCond .ne 5, 3) := by decide +kernel
theorem dX8_odds_8 : decode cX8_odds 8 = .ok (.iconst (-1), 1) := by decide +kernel
theorem dX8_odds_9 : decode cX8_odds 9 = .ok (.ireturn, 1) := by decide +kernel
theorem dX8_odds_10 : decode cX8_odds 10 = .ok (.iload_n 2, 1) := by decide +kernel
theorem dX8_odds_11 : decode cX8_odds 11 = .ok (.invokestatic 162, 3) := by decide +kernel
theorem dX8_odds_14 : decode cX8_odds 14 = .ok (.ifCond .eq 12, 3) := by decide +kernel
theorem dX8_odds_17 : decode cX8_odds 17 = .ok (.aload_n 0, 1) := by decide +kernel
theorem dX8_odds_18 : decode cX8_odds 18 = .ok (.iload_n 1, 1) := by decide +kernel
theorem dX8_odds_19 : decode cX8_odds 19 = .ok (.iload_n 2, 1) := by decide +kernel
theorem dX8_odds_20 : decode cX8_odds 20 = .ok (.invokevirtual 182, 3) := by decide +kernel
theorem dX8_odds_23 : decode cX8_odds 23 = .ok (.goto 5, 3) := by decide +kernel
theorem dX8_odds_26 : decode cX8_odds 26 = .ok (.bipush (-2), 2) := by decide +kernel
theorem dX8_odds_28 : decode cX8_odds 28 = .ok (.ireturn, 1) := by decide +kernel
set_option maxRecDepth 20000 in
theorem ggX8_doneBy_X8_oddsOf : GoodIn wsX8_doneBy wsX8_oddsOf := goodIn_r _ [7, 8, 9, 10, 11, 12, 13, 14, 15, 16, 17, 18, 19, 20, 21, 22, 23, 24, 25, 26, 27, 28, 29, 30, 31, 32, 33, 34, 35, 36, 37, 38, 39, 40, 41, 42, 43, 44, 45, 46, 47, 48, 49, 50, 51, 52, 53, 54, 55] (by decide +kernel) (by decide +kernel)
set_option maxRecDepth 20000 in
theorem gX8_doneBy_X8_oddsOf : GoodIn wsX8_doneBy (wsV RX8 182 RX8 yX8_oddsOf wsX8_oddsOf) := goodIn_app (goodIn_of _ (by decide +kernel)) ggX8_doneBy_X8_oddsOf
theorem dX8_doneBy_0 : decode cX8_doneBy 0 = .ok (.bipush 10, 2) := by decide +kernel
theorem dX8_doneBy_2 : decode cX8_doneBy 2 = .ok (.iload_n 2, 1) := by decide +kernel
theorem dX8_doneBy_3 : decode cX8_doneBy 3 = .ok (.imul, 1) := by decide +kernel
theorem dX8_doneBy_4 : decode cX8_doneBy 4 = .ok (.iload_n 3, 1) := by decide +kernel
theorem dX8_doneBy_5 : decode cX8_doneBy 5 = .ok (.imul, 1) := by decide +kernel
theorem dX8_doneBy_6 : decode cX8_doneBy 6 = .ok (.aload_n 0, 1) := by decide +kernel
theorem dX8_doneBy_7 : decode cX8_doneBy 7 = .ok (.iload_n 1, 1) := by decide +kernel
theorem dX8_doneBy_8 : decode cX8_doneBy 8 = .ok (.iload_n 3, 1) := by decide +kernel
theorem dX8_doneBy_9 : decode cX8_doneBy 9 = .ok (.invokevirtual 182, 3) := by decide +kernel
theorem dX8_doneBy_12 : decode cX8_doneBy 12 = .ok (.aload_n 0, 1) := by decide +kernel
theorem dX8_doneBy_13 : decode cX8_doneBy 13 = .ok (.getfield 87, 3) := by decide +kernel
theorem dX8_doneBy_16 : decode cX8_doneBy 16 = .ok (.aload_n 0, 1) := by decide +kernel
theorem dX8_doneBy_17 : decode cX8_doneBy 17 = .ok (.getfield 13, 3) := by decide +kernel
theorem dX8_doneBy_20 : decode cX8_doneBy 20 = .ok (.iload_n 1, 1) := by decide +kernel
theorem dX8_doneBy_21 : decode cX8_doneBy 21 = .ok (.iaload, 1) := by decide +kernel
theorem dX8_doneBy_22 : decode cX8_doneBy 22 = .ok (.iload_n 3, 1) := by decide +kernel
theorem dX8_doneBy_23 : decode cX8_doneBy 23 = .ok (.imul, 1) := by decide +kernel
theorem dX8_doneBy_24 : decode cX8_doneBy 24 = .ok (.iadd, 1) := by decide +kernel
theorem dX8_doneBy_25 : decode cX8_doneBy 25 = .ok (.imul, 1) := by decide +kernel
theorem dX8_doneBy_26 : decode cX8_doneBy 26 = .ok (.isub, 1) := by decide +kernel
theorem dX8_doneBy_27 : decode cX8_doneBy 27 = .ok (.ireturn, 1) := by decide +kernel
theorem dX8_refusedBy_0 : decode cX8_refusedBy 0 = .ok (.bipush (-10), 2) := by decide +kernel
theorem dX8_refusedBy_2 : decode cX8_refusedBy 2 = .ok (.iload_n 0, 1) := by decide +kernel
theorem dX8_refusedBy_3 : decode cX8_refusedBy 3 = .ok (.imul, 1) := by decide +kernel
theorem dX8_refusedBy_4 : decode cX8_refusedBy 4 = .ok (.iload_n 1, 1) := by decide +kernel
theorem dX8_refusedBy_5 : decode cX8_refusedBy 5 = .ok (.iconst 2, 1) := by decide +kernel
theorem dX8_refusedBy_6 : decode cX8_refusedBy 6 = .ok (.idiv, 1) := by decide +kernel
theorem dX8_refusedBy_7 : decode cX8_refusedBy 7 = .ok (.imul, 1) := by decide +kernel
theorem dX8_refusedBy_8 : decode cX8_refusedBy 8 = .ok (.ireturn, 1) := by decide +kernel
set_option maxRecDepth 20000 in
theorem ggX8_worthDone_X8_doneBy : GoodIn wsX8_worthDone wsX8_doneBy := goodIn_r _ [6, 7, 8, 9, 10, 11, 5, 12, 13, 14, 15, 16, 17, 18, 19, 20, 21, 22, 23, 24, 25, 26, 27, 28, 29, 30, 31, 32, 33, 34, 35, 36, 37, 38, 39, 40, 41, 42, 43, 44, 45, 46, 47, 48, 49, 50, 51, 52, 53, 54, 55, 56, 57, 58, 59, 60] (by decide +kernel) (by decide +kernel)
set_option maxRecDepth 20000 in
theorem gX8_worthDone_X8_doneBy : GoodIn wsX8_worthDone (wsV RX8 258 RX8 yX8_doneBy wsX8_doneBy) := goodIn_app (goodIn_of _ (by decide +kernel)) ggX8_worthDone_X8_doneBy
theorem dX8_worthDone_0 : decode cX8_worthDone 0 = .ok (.aload_n 0, 1) := by decide +kernel
theorem dX8_worthDone_1 : decode cX8_worthDone 1 = .ok (.iload_n 1, 1) := by decide +kernel
theorem dX8_worthDone_2 : decode cX8_worthDone 2 = .ok (.aload_n 0, 1) := by decide +kernel
theorem dX8_worthDone_3 : decode cX8_worthDone 3 = .ok (.getfield 16, 3) := by decide +kernel
theorem dX8_worthDone_6 : decode cX8_worthDone 6 = .ok (.iload_n 1, 1) := by decide +kernel
theorem dX8_worthDone_7 : decode cX8_worthDone 7 = .ok (.iaload, 1) := by decide +kernel
theorem dX8_worthDone_8 : decode cX8_worthDone 8 = .ok (.iload_n 2, 1) := by decide +kernel
theorem dX8_worthDone_9 : decode cX8_worthDone 9 = .ok (.invokevirtual 258, 3) := by decide +kernel
theorem dX8_worthDone_12 : decode cX8_worthDone 12 = .ok (.ireturn, 1) := by decide +kernel
set_option maxRecDepth 20000 in
theorem ggX8_worthRefused_X8_refusedBy : GoodIn wsX8_worthRefused wsX8_refusedBy := goodIn_r _ [5] (by decide +kernel) (by decide +kernel)
set_option maxRecDepth 20000 in
theorem gX8_worthRefused_X8_refusedBy : GoodIn wsX8_worthRefused (va_wsS RX8 261 yX8_refusedBy wsX8_refusedBy) := goodIn_app (goodIn_of _ (by decide +kernel)) ggX8_worthRefused_X8_refusedBy
theorem dX8_worthRefused_0 : decode cX8_worthRefused 0 = .ok (.aload_n 0, 1) := by decide +kernel
theorem dX8_worthRefused_1 : decode cX8_worthRefused 1 = .ok (.getfield 16, 3) := by decide +kernel
theorem dX8_worthRefused_4 : decode cX8_worthRefused 4 = .ok (.iload_n 1, 1) := by decide +kernel
theorem dX8_worthRefused_5 : decode cX8_worthRefused 5 = .ok (.iaload, 1) := by decide +kernel
theorem dX8_worthRefused_6 : decode cX8_worthRefused 6 = .ok (.iload_n 2, 1) := by decide +kernel
theorem dX8_worthRefused_7 : decode cX8_worthRefused 7 = .ok (.invokestatic 261, 3) := by decide +kernel
theorem dX8_worthRefused_10 : decode cX8_worthRefused 10 = .ok (.ireturn, 1) := by decide +kernel
set_option maxRecDepth 20000 in
theorem ggX8_doesBy_X8_doneBy : GoodIn wsX8_doesBy wsX8_doneBy := goodIn_r _ [5, 6, 7, 8, 9, 10, 4, 11, 12, 13, 17, 18, 19, 20, 21, 22, 23, 24, 25, 26, 27, 28, 29, 30, 31, 32, 33, 34, 35, 36, 37, 38, 39, 40, 41, 42, 43, 44, 45, 46, 47, 48, 49, 50, 51, 52, 53, 54, 55, 56, 57, 58, 59, 60, 61, 62] (by decide +kernel) (by decide +kernel)
set_option maxRecDepth 20000 in
theorem gX8_doesBy_X8_doneBy : GoodIn wsX8_doesBy (wsV RX8 258 RX8 yX8_doneBy wsX8_doneBy) := goodIn_app (goodIn_of _ (by decide +kernel)) ggX8_doesBy_X8_doneBy
set_option maxRecDepth 20000 in
theorem ggX8_doesBy_X8_refusedBy : GoodIn wsX8_doesBy wsX8_refusedBy := goodIn_r _ [16] (by decide +kernel) (by decide +kernel)
set_option maxRecDepth 20000 in
theorem gX8_doesBy_X8_refusedBy : GoodIn wsX8_doesBy (va_wsS RX8 261 yX8_refusedBy wsX8_refusedBy) := goodIn_app (goodIn_of _ (by decide +kernel)) ggX8_doesBy_X8_refusedBy
theorem dX8_doesBy_0 : decode cX8_doesBy 0 = .ok (.aload_n 0, 1) := by decide +kernel
theorem dX8_doesBy_1 : decode cX8_doesBy 1 = .ok (.iload_n 1, 1) := by decide +kernel
theorem dX8_doesBy_2 : decode cX8_doesBy 2 = .ok (.iload_n 2, 1) := by decide +kernel
theorem dX8_doesBy_3 : decode cX8_doesBy 3 = .ok (.iload_n 3, 1) := by decide +kernel
theorem dX8_doesBy_4 : decode cX8_doesBy 4 = .ok (.invokevirtual 258, 3) := by decide +kernel
theorem dX8_doesBy_7 : decode cX8_doesBy 7 = .ok (.iload_n 2, 1) := by decide +kernel
theorem dX8_doesBy_8 : decode cX8_doesBy 8 = .ok (.iload_n 3, 1) := by decide +kernel
theorem dX8_doesBy_9 : decode cX8_doesBy 9 = .ok (.invokestatic 261, 3) := by decide +kernel
theorem dX8_doesBy_12 : decode cX8_doesBy 12 = .ok (.if_icmp .lt 7, 3) := by decide +kernel
theorem dX8_doesBy_15 : decode cX8_doesBy 15 = .ok (.iconst 1, 1) := by decide +kernel
theorem dX8_doesBy_16 : decode cX8_doesBy 16 = .ok (.goto 4, 3) := by decide +kernel
theorem dX8_doesBy_19 : decode cX8_doesBy 19 = .ok (.iconst 0, 1) := by decide +kernel
theorem dX8_doesBy_20 : decode cX8_doesBy 20 = .ok (.ireturn, 1) := by decide +kernel
set_option maxRecDepth 20000 in
theorem ggX8_doesIt_X8_doesBy : GoodIn wsX8_doesIt wsX8_doesBy := goodIn_r _ [6, 7, 8, 9, 5, 10, 11, 12, 13, 14, 15, 16, 17, 18, 19, 20, 21, 22, 23, 24, 25, 26, 27, 28, 29, 30, 31, 32, 33, 34, 35, 36, 37, 38, 39, 40, 41, 42, 43, 44, 45, 46, 47, 48, 49, 50, 51, 52, 53, 54, 55, 56, 57, 58, 59, 60, 61, 62, 63, 64, 65, 66, 67] (by decide +kernel) (by decide +kernel)
set_option maxRecDepth 20000 in
theorem gX8_doesIt_X8_doesBy : GoodIn wsX8_doesIt (wsV RX8 264 RX8 yX8_doesBy wsX8_doesBy) := goodIn_app (goodIn_of _ (by decide +kernel)) ggX8_doesIt_X8_doesBy
theorem dX8_doesIt_0 : decode cX8_doesIt 0 = .ok (.aload_n 0, 1) := by decide +kernel
theorem dX8_doesIt_1 : decode cX8_doesIt 1 = .ok (.iload_n 1, 1) := by decide +kernel
theorem dX8_doesIt_2 : decode cX8_doesIt 2 = .ok (.aload_n 0, 1) := by decide +kernel
theorem dX8_doesIt_3 : decode cX8_doesIt 3 = .ok (.getfield 16, 3) := by decide +kernel
theorem dX8_doesIt_6 : decode cX8_doesIt 6 = .ok (.iload_n 1, 1) := by decide +kernel
theorem dX8_doesIt_7 : decode cX8_doesIt 7 = .ok (.iaload, 1) := by decide +kernel
theorem dX8_doesIt_8 : decode cX8_doesIt 8 = .ok (.iload_n 2, 1) := by decide +kernel
theorem dX8_doesIt_9 : decode cX8_doesIt 9 = .ok (.invokevirtual 264, 3) := by decide +kernel
theorem dX8_doesIt_12 : decode cX8_doesIt 12 = .ok (.ireturn, 1) := by decide +kernel
set_option maxRecDepth 20000 in
theorem ggX8_worth_X8_isThere : GoodIn wsX8_worth wsX8_isThere := goodIn_r _ [6, 7, 8, 9, 5, 10, 11, 12, 13, 14, 43, 44, 45, 46, 47, 48, 49, 50, 51, 52, 53, 54, 55, 56, 57, 58, 59, 60, 61, 62, 63, 64, 65, 66, 67, 68, 69, 70, 71, 72, 73, 74, 75, 76, 77, 78, 79, 80, 81, 82, 83, 84, 85, 86, 87, 88] (by decide +kernel) (by decide +kernel)
set_option maxRecDepth 20000 in
theorem gX8_worth_X8_isThere : GoodIn wsX8_worth (wsV RX8 123 RX8 yX8_isThere wsX8_isThere) := goodIn_app (goodIn_of _ (by decide +kernel)) ggX8_worth_X8_isThere
set_option maxRecDepth 20000 in
theorem ggX8_worth_X8_isHeight : GoodIn wsX8_worth wsX8_isHeight := goodIn_r _ [17, 18, 12, 13, 5, 14] (by decide +kernel) (by decide +kernel)
set_option maxRecDepth 20000 in
theorem gX8_worth_X8_isHeight : GoodIn wsX8_worth (va_wsS RX8 162 yX8_isHeight wsX8_isHeight) := goodIn_app (goodIn_of _ (by decide +kernel)) ggX8_worth_X8_isHeight
set_option maxRecDepth 20000 in
theorem ggX8_worth_X8_in : GoodIn wsX8_worth wsX8_in := goodIn_r _ [14] (by decide +kernel) (by decide +kernel)
set_option maxRecDepth 20000 in
theorem gX8_worth_X8_in : GoodIn wsX8_worth (va_wsS RX8 101 yX8_in wsX8_in) := goodIn_app (goodIn_of _ (by decide +kernel)) ggX8_worth_X8_in
set_option maxRecDepth 20000 in
theorem ggX8_worth_X8_worthDone : GoodIn wsX8_worth wsX8_worthDone := goodIn_r _ [22, 23, 24, 25, 26, 5, 27, 28, 29, 30, 31, 32, 33, 34, 35, 43, 44, 45, 46, 47, 48, 49, 50, 51, 52, 53, 54, 55, 56, 57, 58, 59, 60, 61, 62, 63, 64, 65, 66, 67, 68, 69, 70, 71, 72, 73, 74, 75, 76, 77, 78, 79, 80, 81, 82, 83, 84, 85, 86, 87, 88] (by decide +kernel) (by decide +kernel)
set_option maxRecDepth 20000 in
theorem gX8_worth_X8_worthDone : GoodIn wsX8_worth (wsV RX8 269 RX8 yX8_worthDone wsX8_worthDone) := goodIn_app (goodIn_of _ (by decide +kernel)) ggX8_worth_X8_worthDone
set_option maxRecDepth 20000 in
theorem ggX8_worth_X8_worthRefused : GoodIn wsX8_worth wsX8_worthRefused := goodIn_r _ [39, 23, 40, 41, 5, 42, 43, 44, 45, 46, 47, 48, 49, 50, 51, 52, 53, 54, 55, 56, 57, 58, 59, 60, 61, 62, 63, 64, 65, 66, 67, 68, 69, 70, 71, 72, 73, 74, 75, 76, 77, 78, 79, 80, 81, 82, 83, 84, 85, 86, 87, 88] (by decide +kernel) (by decide +kernel)
set_option maxRecDepth 20000 in
theorem gX8_worth_X8_worthRefused : GoodIn wsX8_worth (wsV RX8 272 RX8 yX8_worthRefused wsX8_worthRefused) := goodIn_app (goodIn_of _ (by decide +kernel)) ggX8_worth_X8_worthRefused
theorem dX8_worth_0 : decode cX8_worth 0 = .ok (.aload_n 0, 1) := by decide +kernel
theorem dX8_worth_1 : decode cX8_worth 1 = .ok (.iload_n 1, 1) := by decide +kernel
theorem dX8_worth_2 : decode cX8_worth 2 = .ok (.invokevirtual 123, 3) := by decide +kernel
theorem dX8_worth_5 : decode cX8_worth 5 = .ok (.ifCond .ne 5, 3) := by decide +kernel
theorem dX8_worth_8 : decode cX8_worth 8 = .ok (.iconst (-1), 1) := by decide +kernel
theorem dX8_worth_9 : decode cX8_worth 9 = .ok (.ireturn, 1) := by decide +kernel
theorem dX8_worth_10 : decode cX8_worth 10 = .ok (.iload_n 2, 1) := by decide +kernel
theorem dX8_worth_11 : decode cX8_worth 11 = .ok (.invokestatic 162, 3) := by decide +kernel
theorem dX8_worth_14 : decode cX8_worth 14 = .ok (.ifCond .eq 13, 3) := by decide +kernel
theorem dX8_worth_17 : decode cX8_worth 17 = .ok (.iload_n 3, 1) := by decide +kernel
theorem dX8_worth_18 : decode cX8_worth 18 = .ok (.i2l, 1) := by decide +kernel
theorem dX8_worth_19 : decode cX8_worth 19 = .ok (.lconst 0, 1) := by decide +kernel
theorem dX8_worth_20 : decode cX8_worth 20 = .ok (.lconst 1, 1) := by decide +kernel
theorem dX8_worth_21 : decode cX8_worth 21 = .ok (.invokestatic 101, 3) := by decide +kernel
theorem dX8_worth_24 : decode cX8_worth 24 = .ok (.ifCond .ne 6, 3) := by decide +kernel
theorem dX8_worth_27 : decode cX8_worth 27 = .ok (.bipush (-2), 2) := by decide +kernel
theorem dX8_worth_29 : decode cX8_worth 29 = .ok (.ireturn, 1) := by decide +kernel
theorem dX8_worth_30 : decode cX8_worth 30 = .ok (.ldc_w 268, 3) := by decide +kernel
theorem dX8_worth_33 : decode cX8_worth 33 = .ok (.iload_n 3, 1) := by decide +kernel
theorem dX8_worth_34 : decode cX8_worth 34 = .ok (.ifCond .ne 12, 3) := by decide +kernel
theorem dX8_worth_37 : decode cX8_worth 37 = .ok (.aload_n 0, 1) := by decide +kernel
theorem dX8_worth_38 : decode cX8_worth 38 = .ok (.iload_n 1, 1) := by decide +kernel
theorem dX8_worth_39 : decode cX8_worth 39 = .ok (.iload_n 2, 1) := by decide +kernel
theorem dX8_worth_40 : decode cX8_worth 40 = .ok (.invokevirtual 269, 3) := by decide +kernel
theorem dX8_worth_43 : decode cX8_worth 43 = .ok (.goto 9, 3) := by decide +kernel
theorem dX8_worth_46 : decode cX8_worth 46 = .ok (.aload_n 0, 1) := by decide +kernel
theorem dX8_worth_47 : decode cX8_worth 47 = .ok (.iload_n 1, 1) := by decide +kernel
theorem dX8_worth_48 : decode cX8_worth 48 = .ok (.iload_n 2, 1) := by decide +kernel
theorem dX8_worth_49 : decode cX8_worth 49 = .ok (.invokevirtual 272, 3) := by decide +kernel
theorem dX8_worth_52 : decode cX8_worth 52 = .ok (.iadd, 1) := by decide +kernel
theorem dX8_worth_53 : decode cX8_worth 53 = .ok (.ireturn, 1) := by decide +kernel
set_option maxRecDepth 20000 in
theorem ggX8_does_X8_isThere : GoodIn wsX8_does wsX8_isThere := goodIn_r _ [5, 6, 7, 8, 4, 9, 10, 11, 12, 13, 42, 43, 44, 45, 46, 47, 48, 49, 50, 51, 52, 53, 54, 55, 56, 57, 58, 59, 60, 61, 62, 63, 64, 65, 66, 67, 68, 69, 70, 71, 72, 73, 74, 75, 76, 77, 78, 79, 80, 81, 82, 83, 84, 85, 86, 87] (by decide +kernel) (by decide +kernel)
set_option maxRecDepth 20000 in
theorem gX8_does_X8_isThere : GoodIn wsX8_does (wsV RX8 123 RX8 yX8_isThere wsX8_isThere) := goodIn_app (goodIn_of _ (by decide +kernel)) ggX8_does_X8_isThere
set_option maxRecDepth 20000 in
theorem ggX8_does_X8_isHeight : GoodIn wsX8_does wsX8_isHeight := goodIn_r _ [16, 17, 11, 12, 4, 13] (by decide +kernel) (by decide +kernel)
set_option maxRecDepth 20000 in
theorem gX8_does_X8_isHeight : GoodIn wsX8_does (va_wsS RX8 162 yX8_isHeight wsX8_isHeight) := goodIn_app (goodIn_of _ (by decide +kernel)) ggX8_does_X8_isHeight
set_option maxRecDepth 20000 in
theorem ggX8_does_X8_doesIt : GoodIn wsX8_does wsX8_doesIt := goodIn_r _ [21, 22, 23, 24, 25, 4, 26, 27, 28, 29, 30, 31, 32, 33, 34, 35, 36, 37, 38, 39, 40, 41, 42, 43, 44, 45, 46, 47, 48, 49, 50, 51, 52, 53, 54, 55, 56, 57, 58, 59, 60, 61, 62, 63, 64, 65, 66, 67, 68, 69, 70, 71, 72, 73, 74, 75, 76, 77, 78, 79, 80, 81, 82, 83, 84, 85, 86, 87] (by decide +kernel) (by decide +kernel)
set_option maxRecDepth 20000 in
theorem gX8_does_X8_doesIt : GoodIn wsX8_does (wsV RX8 275 RX8 yX8_doesIt wsX8_doesIt) := goodIn_app (goodIn_of _ (by decide +kernel)) ggX8_does_X8_doesIt
theorem dX8_does_0 : decode cX8_does 0 = .ok (.aload_n 0, 1) := by decide +kernel
theorem dX8_does_1 : decode cX8_does 1 = .ok (.iload_n 1, 1) := by decide +kernel
theorem dX8_does_2 : decode cX8_does 2 = .ok (.invokevirtual 123, 3) := by decide +kernel
theorem dX8_does_5 : decode cX8_does 5 = .ok (.ifCond .ne 5, 3) := by decide +kernel
theorem dX8_does_8 : decode cX8_does 8 = .ok (.iconst (-1), 1) := by decide +kernel
theorem dX8_does_9 : decode cX8_does 9 = .ok (.ireturn, 1) := by decide +kernel
theorem dX8_does_10 : decode cX8_does 10 = .ok (.iload_n 2, 1) := by decide +kernel
theorem dX8_does_11 : decode cX8_does 11 = .ok (.invokestatic 162, 3) := by decide +kernel
theorem dX8_does_14 : decode cX8_does 14 = .ok (.ifCond .ne 8, 3) := by decide +kernel
theorem dX8_does_17 : decode cX8_does 17 = .ok (.bipush (-2), 2) := by decide +kernel
theorem dX8_does_19 : decode cX8_does 19 = .ok (.goto 17, 3) := by decide +kernel
theorem dX8_does_22 : decode cX8_does 22 = .ok (.aload_n 0, 1) := by decide +kernel
theorem dX8_does_23 : decode cX8_does 23 = .ok (.iload_n 1, 1) := by decide +kernel
theorem dX8_does_24 : decode cX8_does 24 = .ok (.iload_n 2, 1) := by decide +kernel
theorem dX8_does_25 : decode cX8_does 25 = .ok (.invokevirtual 275, 3) := by decide +kernel
theorem dX8_does_28 : decode cX8_does 28 = .ok (.ifCond .eq 7, 3) := by decide +kernel
theorem dX8_does_31 : decode cX8_does 31 = .ok (.iconst 1, 1) := by decide +kernel
theorem dX8_does_32 : decode cX8_does 32 = .ok (.goto 4, 3) := by decide +kernel
theorem dX8_does_35 : decode cX8_does 35 = .ok (.iconst 0, 1) := by decide +kernel
theorem dX8_does_36 : decode cX8_does 36 = .ok (.ireturn, 1) := by decide +kernel
set_option maxRecDepth 20000 in
theorem ggX8_nerve_X8_isThere : GoodIn wsX8_nerve wsX8_isThere := goodIn_r _ [6, 7, 8, 9, 5, 10, 11, 12, 13, 14, 39, 40, 41, 42, 43, 44, 45, 46, 47, 48, 49, 50, 51, 52, 53, 54, 55, 56, 57, 58, 59, 60, 61, 62, 63, 64, 65, 66, 67, 68, 69, 70, 71, 72, 73, 74, 75, 76, 77, 78, 79, 80, 81, 82, 83, 84] (by decide +kernel) (by decide +kernel)
set_option maxRecDepth 20000 in
theorem gX8_nerve_X8_isThere : GoodIn wsX8_nerve (wsV RX8 123 RX8 yX8_isThere wsX8_isThere) := goodIn_app (goodIn_of _ (by decide +kernel)) ggX8_nerve_X8_isThere
set_option maxRecDepth 20000 in
theorem ggX8_nerve_X8_in : GoodIn wsX8_nerve wsX8_in := goodIn_r _ [14] (by decide +kernel) (by decide +kernel)
set_option maxRecDepth 20000 in
theorem gX8_nerve_X8_in : GoodIn wsX8_nerve (va_wsS RX8 101 yX8_in wsX8_in) := goodIn_app (goodIn_of _ (by decide +kernel)) ggX8_nerve_X8_in
set_option maxRecDepth 20000 in
theorem ggX8_nerve_X8_doesIt : GoodIn wsX8_nerve wsX8_doesIt := goodIn_r _ [18, 19, 20, 21, 22, 5, 23, 24, 25, 26, 27, 28, 29, 30, 31, 32, 33, 34, 35, 36, 37, 38, 39, 40, 41, 42, 43, 44, 45, 46, 47, 48, 49, 50, 51, 52, 53, 54, 55, 56, 57, 58, 59, 60, 61, 62, 63, 64, 65, 66, 67, 68, 69, 70, 71, 72, 73, 74, 75, 76, 77, 78, 79, 80, 81, 82, 83, 84] (by decide +kernel) (by decide +kernel)
set_option maxRecDepth 20000 in
theorem gX8_nerve_X8_doesIt : GoodIn wsX8_nerve (wsV RX8 275 RX8 yX8_doesIt wsX8_doesIt) := goodIn_app (goodIn_of _ (by decide +kernel)) ggX8_nerve_X8_doesIt
set_option maxRecDepth 20000 in
theorem ggX8_nerve_X8_oddsOf : GoodIn wsX8_nerve wsX8_oddsOf := goodIn_r _ [33, 34, 35, 39, 40, 41, 42, 43, 44, 45, 46, 47, 48, 49, 50, 51, 52, 53, 54, 55, 56, 57, 58, 59, 60, 61, 62, 63, 64, 65, 66, 67, 68, 69, 70, 71, 72, 73, 74, 75, 76, 77, 78, 79, 80, 81, 82, 83, 84] (by decide +kernel) (by decide +kernel)
set_option maxRecDepth 20000 in
theorem gX8_nerve_X8_oddsOf : GoodIn wsX8_nerve (wsV RX8 182 RX8 yX8_oddsOf wsX8_oddsOf) := goodIn_app (goodIn_of _ (by decide +kernel)) ggX8_nerve_X8_oddsOf
theorem dX8_nerve_0 : decode cX8_nerve 0 = .ok (.aload_n 0, 1) := by decide +kernel
theorem dX8_nerve_1 : decode cX8_nerve 1 = .ok (.iload_n 1, 1) := by decide +kernel
theorem dX8_nerve_2 : decode cX8_nerve 2 = .ok (.invokevirtual 123, 3) := by decide +kernel
theorem dX8_nerve_5 : decode cX8_nerve 5 = .ok (.ifCond .ne 5, 3) := by decide +kernel
theorem dX8_nerve_8 : decode cX8_nerve 8 = .ok (.iconst (-1), 1) := by decide +kernel
theorem dX8_nerve_9 : decode cX8_nerve 9 = .ok (.ireturn, 1) := by decide +kernel
theorem dX8_nerve_10 : decode cX8_nerve 10 = .ok (.iload_n 2, 1) := by decide +kernel
theorem dX8_nerve_11 : decode cX8_nerve 11 = .ok (.i2l, 1) := by decide +kernel
theorem dX8_nerve_12 : decode cX8_nerve 12 = .ok (.lconst 0, 1) := by decide +kernel
theorem dX8_nerve_13 : decode cX8_nerve 13 = .ok (.ldc2_w 231, 3) := by decide +kernel
theorem dX8_nerve_16 : decode cX8_nerve 16 = .ok (.invokestatic 101, 3) := by decide +kernel
theorem dX8_nerve_19 : decode cX8_nerve 19 = .ok (.ifCond .ne 6, 3) := by decide +kernel
theorem dX8_nerve_22 : decode cX8_nerve 22 = .ok (.bipush (-2), 2) := by decide +kernel
theorem dX8_nerve_24 : decode cX8_nerve 24 = .ok (.ireturn, 1) := by decide +kernel
theorem dX8_nerve_25 : decode cX8_nerve 25 = .ok (.bipush (-6), 2) := by decide +kernel
theorem dX8_nerve_27 : decode cX8_nerve 27 = .ok (.istore_n 3, 1) := by decide +kernel
theorem dX8_nerve_28 : decode cX8_nerve 28 = .ok (.iconst 0, 1) := by decide +kernel
theorem dX8_nerve_29 : decode cX8_nerve 29 = .ok (.istore 4, 2) := by decide +kernel
theorem dX8_nerve_31 : decode cX8_nerve 31 = .ok (.bipush 15, 2) := by decide +kernel
theorem dX8_nerve_33 : decode cX8_nerve 33 = .ok (.istore 5, 2) := by decide +kernel
theorem dX8_nerve_35 : decode cX8_nerve 35 = .ok (.iload 5, 2) := by decide +kernel
theorem dX8_nerve_37 : decode cX8_nerve 37 = .ok (.ifCond .le 50, 3) := by decide +kernel
theorem dX8_nerve_40 : decode cX8_nerve 40 = .ok (.aload_n 0, 1) := by decide +kernel
theorem dX8_nerve_41 : decode cX8_nerve 41 = .ok (.iload_n 1, 1) := by decide +kernel
theorem dX8_nerve_42 : decode cX8_nerve 42 = .ok (.iload 5, 2) := by decide +kernel
theorem dX8_nerve_44 : decode cX8_nerve 44 = .ok (.invokevirtual 275, 3) := by decide +kernel
theorem dX8_nerve_47 : decode cX8_nerve 47 = .ok (.ifCond .eq 7, 3) := by decide +kernel
theorem dX8_nerve_50 : decode cX8_nerve 50 = .ok (.iload_n 3, 1) := by decide +kernel
theorem dX8_nerve_51 : decode cX8_nerve 51 = .ok (.goto 5, 3) := by decide +kernel
theorem dX8_nerve_54 : decode cX8_nerve 54 = .ok (.iload 5, 2) := by decide +kernel
theorem dX8_nerve_56 : decode cX8_nerve 56 = .ok (.istore_n 3, 1) := by decide +kernel
theorem dX8_nerve_57 : decode cX8_nerve 57 = .ok (.iload 4, 2) := by decide +kernel
theorem dX8_nerve_59 : decode cX8_nerve 59 = .ok (.ifCond .ne 18, 3) := by decide +kernel
theorem dX8_nerve_62 : decode cX8_nerve 62 = .ok (.aload_n 0, 1) := by decide +kernel
theorem dX8_nerve_63 : decode cX8_nerve 63 = .ok (.iload_n 1, 1) := by decide +kernel
theorem dX8_nerve_64 : decode cX8_nerve 64 = .ok (.iload 5, 2) := by decide +kernel
theorem dX8_nerve_66 : decode cX8_nerve 66 = .ok (.invokevirtual 182, 3) := by decide +kernel
theorem dX8_nerve_69 : decode cX8_nerve 69 = .ok (.ifCond .ne 8, 3) := by decide +kernel
theorem dX8_nerve_72 : decode cX8_nerve 72 = .ok (.iload 5, 2) := by decide +kernel
theorem dX8_nerve_74 : decode cX8_nerve 74 = .ok (.goto 5, 3) := by decide +kernel
theorem dX8_nerve_77 : decode cX8_nerve 77 = .ok (.iload 4, 2) := by decide +kernel
theorem dX8_nerve_79 : decode cX8_nerve 79 = .ok (.istore 4, 2) := by decide +kernel
theorem dX8_nerve_81 : decode cX8_nerve 81 = .ok (.iinc 5 (-1), 3) := by decide +kernel
theorem dX8_nerve_84 : decode cX8_nerve 84 = .ok (.goto (-49), 3) := by decide +kernel
theorem dX8_nerve_87 : decode cX8_nerve 87 = .ok (.iload_n 2, 1) := by decide +kernel
theorem dX8_nerve_88 : decode cX8_nerve 88 = .ok (.ifCond .ne 18, 3) := by decide +kernel
theorem dX8_nerve_91 : decode cX8_nerve 91 = .ok (.iload_n 3, 1) := by decide +kernel
theorem dX8_nerve_92 : decode cX8_nerve 92 = .ok (.ifCond .ge 8, 3) := by decide +kernel
theorem dX8_nerve_95 : decode cX8_nerve 95 = .ok (.bipush 15, 2) := by decide +kernel
theorem dX8_nerve_97 : decode cX8_nerve 97 = .ok (.goto 20, 3) := by decide +kernel
theorem dX8_nerve_100 : decode cX8_nerve 100 = .ok (.iload_n 3, 1) := by decide +kernel
theorem dX8_nerve_101 : decode cX8_nerve 101 = .ok (.iconst 1, 1) := by decide +kernel
theorem dX8_nerve_102 : decode cX8_nerve 102 = .ok (.isub, 1) := by decide +kernel
theorem dX8_nerve_103 : decode cX8_nerve 103 = .ok (.goto 14, 3) := by decide +kernel
theorem dX8_nerve_106 : decode cX8_nerve 106 = .ok (.iload_n 2, 1) := by decide +kernel
theorem dX8_nerve_107 : decode cX8_nerve 107 = .ok (.iconst 1, 1) := by decide +kernel
theorem dX8_nerve_108 : decode cX8_nerve 108 = .ok (.if_icmp .ne 7, 3) := by decide +kernel
theorem dX8_nerve_111 : decode cX8_nerve 111 = .ok (.iload_n 3, 1) := by decide +kernel
theorem dX8_nerve_112 : decode cX8_nerve 112 = .ok (.goto 5, 3) := by decide +kernel
theorem dX8_nerve_115 : decode cX8_nerve 115 = .ok (.iload 4, 2) := by decide +kernel
theorem dX8_nerve_117 : decode cX8_nerve 117 = .ok (.ireturn, 1) := by decide +kernel
set_option maxRecDepth 20000 in
theorem ggX8_climbUp_X8_doesIt : GoodIn wsX8_climbUp wsX8_doesIt := goodIn_r _ [10, 11, 12, 13, 14, 9, 15, 16, 17, 18, 19, 20, 21, 22, 23, 24, 25, 26, 27, 28, 29, 30, 31, 32, 33, 34, 35, 36, 37, 38, 39, 40, 41, 42, 43, 44, 45, 46, 47, 48, 49, 50, 51, 52, 53, 54, 55, 56, 57, 58, 59, 60, 61, 62, 63, 64, 65, 66, 67, 68, 69, 70, 71, 72, 73, 74, 75, 76] (by decide +kernel) (by decide +kernel)
set_option maxRecDepth 20000 in
theorem gX8_climbUp_X8_doesIt : GoodIn wsX8_climbUp (wsV RX8 275 RX8 yX8_doesIt wsX8_doesIt) := goodIn_app (goodIn_of _ (by decide +kernel)) ggX8_climbUp_X8_doesIt
set_option maxRecDepth 20000 in
theorem ggX8_climbUp_X8_oddsOf : GoodIn wsX8_climbUp wsX8_oddsOf := goodIn_r _ [25, 26, 27, 31, 32, 33, 34, 35, 36, 37, 38, 39, 40, 41, 42, 43, 44, 45, 46, 47, 48, 49, 50, 51, 52, 53, 54, 55, 56, 57, 58, 59, 60, 61, 62, 63, 64, 65, 66, 67, 68, 69, 70, 71, 72, 73, 74, 75, 76] (by decide +kernel) (by decide +kernel)
set_option maxRecDepth 20000 in
theorem gX8_climbUp_X8_oddsOf : GoodIn wsX8_climbUp (wsV RX8 182 RX8 yX8_oddsOf wsX8_oddsOf) := goodIn_app (goodIn_of _ (by decide +kernel)) ggX8_climbUp_X8_oddsOf
theorem dX8_climbUp_0 : decode cX8_climbUp 0 = .ok (.aload_n 0, 1) := by decide +kernel
theorem dX8_climbUp_1 : decode cX8_climbUp 1 = .ok (.iconst 0, 1) := by decide +kernel
theorem dX8_climbUp_2 : decode cX8_climbUp 2 = .ok (.putfield 278, 3) := by decide +kernel
theorem dX8_climbUp_5 : decode cX8_climbUp 5 = .ok (.aload_n 0, 1) := by decide +kernel
theorem dX8_climbUp_6 : decode cX8_climbUp 6 = .ok (.iload_n 3, 1) := by decide +kernel
theorem dX8_climbUp_7 : decode cX8_climbUp 7 = .ok (.putfield 281, 3) := by decide +kernel
theorem dX8_climbUp_10 : decode cX8_climbUp 10 = .ok (.aload_n 0, 1) := by decide +kernel
theorem dX8_climbUp_11 : decode cX8_climbUp 11 = .ok (.bipush (-6), 2) := by decide +kernel
theorem dX8_climbUp_13 : decode cX8_climbUp 13 = .ok (.putfield 284, 3) := by decide +kernel
theorem dX8_climbUp_16 : decode cX8_climbUp 16 = .ok (.aload_n 0, 1) := by decide +kernel
theorem dX8_climbUp_17 : decode cX8_climbUp 17 = .ok (.lconst 1, 1) := by decide +kernel
theorem dX8_climbUp_18 : decode cX8_climbUp 18 = .ok (.putfield 287, 3) := by decide +kernel
theorem dX8_climbUp_21 : decode cX8_climbUp 21 = .ok (.iload_n 2, 1) := by decide +kernel
theorem dX8_climbUp_22 : decode cX8_climbUp 22 = .ok (.istore 5, 2) := by decide +kernel
theorem dX8_climbUp_24 : decode cX8_climbUp 24 = .ok (.iload_n 3, 1) := by decide +kernel
theorem dX8_climbUp_25 : decode cX8_climbUp 25 = .ok (.istore 6, 2) := by decide +kernel
theorem dX8_climbUp_27 : decode cX8_climbUp 27 = .ok (.iload 6, 2) := by decide +kernel
theorem dX8_climbUp_29 : decode cX8_climbUp 29 = .ok (.iload 4, 2) := by decide +kernel
theorem dX8_climbUp_31 : decode cX8_climbUp 31 = .ok (.if_icmp .gt 92, 3) := by decide +kernel
theorem dX8_climbUp_34 : decode cX8_climbUp 34 = .ok (.aload_n 0, 1) := by decide +kernel
theorem dX8_climbUp_35 : decode cX8_climbUp 35 = .ok (.getfield 284, 3) := by decide +kernel
theorem dX8_climbUp_38 : decode cX8_climbUp 38 = .ok (.ifCond .ge 85, 3) := by decide +kernel
theorem dX8_climbUp_41 : decode cX8_climbUp 41 = .ok (.aload_n 0, 1) := by decide +kernel
theorem dX8_climbUp_42 : decode cX8_climbUp 42 = .ok (.iload 6, 2) := by decide +kernel
theorem dX8_climbUp_44 : decode cX8_climbUp 44 = .ok (.putfield 281, 3) := by decide +kernel
theorem dX8_climbUp_47 : decode cX8_climbUp 47 = .ok (.aload_n 0, 1) := by decide +kernel
theorem dX8_climbUp_48 : decode cX8_climbUp 48 = .ok (.iload 5, 2) := by decide +kernel
theorem dX8_climbUp_50 : decode cX8_climbUp 50 = .ok (.iload 6, 2) := by decide +kernel
theorem dX8_climbUp_52 : decode cX8_climbUp 52 = .ok (.invokevirtual 275, 3) := by decide +kernel
theorem dX8_climbUp_55 : decode cX8_climbUp 55 = .ok (.ifCond .eq 50, 3) := by decide +kernel
theorem dX8_climbUp_58 : decode cX8_climbUp 58 = .ok (.aload_n 0, 1) := by decide +kernel
theorem dX8_climbUp_59 : decode cX8_climbUp 59 = .ok (.dup, 1) := by decide +kernel
theorem dX8_climbUp_60 : decode cX8_climbUp 60 = .ok (.getfield 278, 3) := by decide +kernel
theorem dX8_climbUp_63 : decode cX8_climbUp 63 = .ok (.iconst 1, 1) := by decide +kernel
theorem dX8_climbUp_64 : decode cX8_climbUp 64 = .ok (.iadd, 1) := by decide +kernel
theorem dX8_climbUp_65 : decode cX8_climbUp 65 = .ok (.putfield 278, 3) := by decide +kernel
theorem dX8_climbUp_68 : decode cX8_climbUp 68 = .ok (.aload_n 0, 1) := by decide +kernel
theorem dX8_climbUp_69 : decode cX8_climbUp 69 = .ok (.dup, 1) := by decide +kernel
theorem dX8_climbUp_70 : decode cX8_climbUp 70 = .ok (.getfield 287, 3) := by decide +kernel
theorem dX8_climbUp_73 : decode cX8_climbUp 73 = .ok (.bipush 10, 2) := by decide +kernel
theorem dX8_climbUp_75 : decode cX8_climbUp 75 = .ok (.aload_n 0, 1) := by decide +kernel
theorem dX8_climbUp_76 : decode cX8_climbUp 76 = .ok (.iload 5, 2) := by decide +kernel
theorem dX8_climbUp_78 : decode cX8_climbUp 78 = .ok (.iload 6, 2) := by decide +kernel
theorem dX8_climbUp_80 : decode cX8_climbUp 80 = .ok (.invokevirtual 182, 3) := by decide +kernel
theorem dX8_climbUp_83 : decode cX8_climbUp 83 = .ok (.isub, 1) := by decide +kernel
theorem dX8_climbUp_84 : decode cX8_climbUp 84 = .ok (.i2l, 1) := by decide +kernel
theorem dX8_climbUp_85 : decode cX8_climbUp 85 = .ok (.lmul, 1) := by decide +kernel
theorem dX8_climbUp_86 : decode cX8_climbUp 86 = .ok (.putfield 287, 3) := by decide +kernel
theorem dX8_climbUp_89 : decode cX8_climbUp 89 = .ok (.iload 5, 2) := by decide +kernel
theorem dX8_climbUp_91 : decode cX8_climbUp 91 = .ok (.iload_n 2, 1) := by decide +kernel
theorem dX8_climbUp_92 : decode cX8_climbUp 92 = .ok (.if_icmp .ne 7, 3) := by decide +kernel
theorem dX8_climbUp_95 : decode cX8_climbUp 95 = .ok (.iload_n 1, 1) := by decide +kernel
theorem dX8_climbUp_96 : decode cX8_climbUp 96 = .ok (.goto 4, 3) := by decide +kernel
theorem dX8_climbUp_99 : decode cX8_climbUp 99 = .ok (.iload_n 2, 1) := by decide +kernel
theorem dX8_climbUp_100 : decode cX8_climbUp 100 = .ok (.istore 5, 2) := by decide +kernel
theorem dX8_climbUp_102 : decode cX8_climbUp 102 = .ok (.goto 9, 3) := by decide +kernel
theorem dX8_climbUp_105 : decode cX8_climbUp 105 = .ok (.aload_n 0, 1) := by decide +kernel
theorem dX8_climbUp_106 : decode cX8_climbUp 106 = .ok (.iload 5, 2) := by decide +kernel
theorem dX8_climbUp_108 : decode cX8_climbUp 108 = .ok (.putfield 284, 3) := by decide +kernel
theorem dX8_climbUp_111 : decode cX8_climbUp 111 = .ok (.iload 6, 2) := by decide +kernel
theorem dX8_climbUp_113 : decode cX8_climbUp 113 = .ok (.aload_n 0, 1) := by decide +kernel
theorem dX8_climbUp_114 : decode cX8_climbUp 114 = .ok (.getfield 80, 3) := by decide +kernel
theorem dX8_climbUp_117 : decode cX8_climbUp 117 = .ok (.iadd, 1) := by decide +kernel
theorem dX8_climbUp_118 : decode cX8_climbUp 118 = .ok (.istore 6, 2) := by decide +kernel
theorem dX8_climbUp_120 : decode cX8_climbUp 120 = .ok (.goto (-93), 3) := by decide +kernel
theorem dX8_climbUp_123 : decode cX8_climbUp 123 = .ok (.return_, 1) := by decide +kernel
set_option maxRecDepth 20000 in
theorem ggX8_areTwo_X8_isThere : GoodIn wsX8_areTwo wsX8_isThere := goodIn_r _ [5, 6, 7, 8, 4, 9, 10, 11, 12, 13, 14, 15, 16, 17, 18, 19, 20, 21, 22, 23, 24, 25, 26, 27, 28, 29, 30, 31, 32, 33, 34, 35, 36, 37, 38, 39, 40, 41, 42, 43, 44, 45, 46, 47, 48, 49, 50, 51, 52, 53, 54, 55, 56, 57, 58, 59] (by decide +kernel) (by decide +kernel)
set_option maxRecDepth 20000 in
theorem gX8_areTwo_X8_isThere : GoodIn wsX8_areTwo (wsV RX8 123 RX8 yX8_isThere wsX8_isThere) := goodIn_app (goodIn_of _ (by decide +kernel)) ggX8_areTwo_X8_isThere
theorem dX8_areTwo_0 : decode cX8_areTwo 0 = .ok (.aload_n 0, 1) := by decide +kernel
theorem dX8_areTwo_1 : decode cX8_areTwo 1 = .ok (.iload_n 1, 1) := by decide +kernel
theorem dX8_areTwo_2 : decode cX8_areTwo 2 = .ok (.invokevirtual 123, 3) := by decide +kernel
theorem dX8_areTwo_5 : decode cX8_areTwo 5 = .ok (.ifCond .eq 20, 3) := by decide +kernel
theorem dX8_areTwo_8 : decode cX8_areTwo 8 = .ok (.aload_n 0, 1) := by decide +kernel
theorem dX8_areTwo_9 : decode cX8_areTwo 9 = .ok (.iload_n 2, 1) := by decide +kernel
theorem dX8_areTwo_10 : decode cX8_areTwo 10 = .ok (.invokevirtual 123, 3) := by decide +kernel
theorem dX8_areTwo_13 : decode cX8_areTwo 13 = .ok (.ifCond .eq 12, 3) := by decide +kernel
theorem dX8_areTwo_16 : decode cX8_areTwo 16 = .ok (.iload_n 1, 1) := by decide +kernel
theorem dX8_areTwo_17 : decode cX8_areTwo 17 = .ok (.iload_n 2, 1) := by decide +kernel
theorem dX8_areTwo_18 : decode cX8_areTwo 18 = .ok (.if_icmp .eq 7, 3) := by decide +kernel
theorem dX8_areTwo_21 : decode cX8_areTwo 21 = .ok (.iconst 1, 1) := by decide +kernel
theorem dX8_areTwo_22 : decode cX8_areTwo 22 = .ok (.goto 4, 3) := by decide +kernel
theorem dX8_areTwo_25 : decode cX8_areTwo 25 = .ok (.iconst 0, 1) := by decide +kernel
theorem dX8_areTwo_26 : decode cX8_areTwo 26 = .ok (.ireturn, 1) := by decide +kernel
set_option maxRecDepth 20000 in
theorem ggX8_isClimb_X8_isHeight : GoodIn wsX8_isClimb wsX8_isHeight := goodIn_r _ [4, 5, 6, 7, 3, 8] (by decide +kernel) (by decide +kernel)
set_option maxRecDepth 20000 in
theorem gX8_isClimb_X8_isHeight : GoodIn wsX8_isClimb (va_wsS RX8 162 yX8_isHeight wsX8_isHeight) := goodIn_app (goodIn_of _ (by decide +kernel)) ggX8_isClimb_X8_isHeight
set_option maxRecDepth 20000 in
theorem ggX8_isClimb_X8_in : GoodIn wsX8_isClimb wsX8_in := goodIn_r _ [8] (by decide +kernel) (by decide +kernel)
set_option maxRecDepth 20000 in
theorem gX8_isClimb_X8_in : GoodIn wsX8_isClimb (va_wsS RX8 101 yX8_in wsX8_in) := goodIn_app (goodIn_of _ (by decide +kernel)) ggX8_isClimb_X8_in
theorem dX8_isClimb_0 : decode cX8_isClimb 0 = .ok (.iload_n 1, 1) := by decide +kernel
theorem dX8_isClimb_1 : decode cX8_isClimb 1 = .ok (.invokestatic 162, 3) := by decide +kernel
theorem dX8_isClimb_4 : decode cX8_isClimb 4 = .ok (.ifCond .eq 18, 3) := by decide +kernel
theorem dX8_isClimb_7 : decode cX8_isClimb 7 = .ok (.iload_n 0, 1) := by decide +kernel
theorem dX8_isClimb_8 : decode cX8_isClimb 8 = .ok (.i2l, 1) := by decide +kernel
theorem dX8_isClimb_9 : decode cX8_isClimb 9 = .ok (.lconst 1, 1) := by decide +kernel
theorem dX8_isClimb_10 : decode cX8_isClimb 10 = .ok (.iload_n 1, 1) := by decide +kernel
theorem dX8_isClimb_11 : decode cX8_isClimb 11 = .ok (.i2l, 1) := by decide +kernel
theorem dX8_isClimb_12 : decode cX8_isClimb 12 = .ok (.invokestatic 101, 3) := by decide +kernel
theorem dX8_isClimb_15 : decode cX8_isClimb 15 = .ok (.ifCond .eq 7, 3) := by decide +kernel
theorem dX8_isClimb_18 : decode cX8_isClimb 18 = .ok (.iconst 1, 1) := by decide +kernel
theorem dX8_isClimb_19 : decode cX8_isClimb 19 = .ok (.goto 4, 3) := by decide +kernel
theorem dX8_isClimb_22 : decode cX8_isClimb 22 = .ok (.iconst 0, 1) := by decide +kernel
theorem dX8_isClimb_23 : decode cX8_isClimb 23 = .ok (.ireturn, 1) := by decide +kernel
set_option maxRecDepth 20000 in
theorem ggX8_climb_X8_areTwo : GoodIn wsX8_climb wsX8_areTwo := goodIn_r _ [9, 10, 11, 12, 8, 13, 14, 15, 16, 17, 18, 19, 20, 21, 59, 60, 61, 62, 63, 64, 65, 66, 67, 68, 69, 70, 71, 72, 73, 74, 75, 76, 77, 78, 79, 80, 81, 82, 83, 84, 85, 86, 87, 88, 89, 90, 91, 92, 93, 94, 95, 96, 97, 98, 99, 100, 101, 102, 103, 104] (by decide +kernel) (by decide +kernel)
set_option maxRecDepth 20000 in
theorem gX8_climb_X8_areTwo : GoodIn wsX8_climb (wsV RX8 291 RX8 yX8_areTwo wsX8_areTwo) := goodIn_app (goodIn_of _ (by decide +kernel)) ggX8_climb_X8_areTwo
set_option maxRecDepth 20000 in
theorem ggX8_climb_X8_isClimb : GoodIn wsX8_climb wsX8_isClimb := goodIn_r _ [24, 25, 26, 8, 27, 28, 19, 20, 21] (by decide +kernel) (by decide +kernel)
set_option maxRecDepth 20000 in
theorem gX8_climb_X8_isClimb : GoodIn wsX8_climb (va_wsS RX8 294 yX8_isClimb wsX8_isClimb) := goodIn_app (goodIn_of _ (by decide +kernel)) ggX8_climb_X8_isClimb
set_option maxRecDepth 20000 in
theorem ggX8_climb_X8_in : GoodIn wsX8_climb wsX8_in := goodIn_r _ [21] (by decide +kernel) (by decide +kernel)
set_option maxRecDepth 20000 in
theorem gX8_climb_X8_in : GoodIn wsX8_climb (va_wsS RX8 101 yX8_in wsX8_in) := goodIn_app (goodIn_of _ (by decide +kernel)) ggX8_climb_X8_in
set_option maxRecDepth 20000 in
theorem ggX8_climb_X8_climbUp : GoodIn wsX8_climb wsX8_climbUp := goodIn_r _ [32, 2, 3, 4, 33, 34, 35, 36, 37, 8, 38, 39, 40, 41, 42, 43, 44, 45, 46, 47, 48, 49, 50, 51, 52, 53, 54, 55, 56, 57, 58, 59, 60, 61, 62, 63, 64, 65, 66, 67, 68, 69, 70, 71, 72, 73, 74, 75, 76, 77, 78, 79, 80, 81, 82, 83, 84, 85, 86, 87, 88, 89, 90, 91, 92, 93, 94, 95, 96, 97, 98, 99, 100, 101, 102, 103, 104] (by decide +kernel) (by decide +kernel)
set_option maxRecDepth 20000 in
theorem gX8_climb_X8_climbUp : GoodIn wsX8_climb (wsV RX8 297 RX8 yX8_climbUp wsX8_climbUp) := goodIn_app (goodIn_of _ (by decide +kernel)) ggX8_climb_X8_climbUp
theorem dX8_climb_0 : decode cX8_climb 0 = .ok (.aload_n 0, 1) := by decide +kernel
theorem dX8_climb_1 : decode cX8_climb 1 = .ok (.iload_n 1, 1) := by decide +kernel
theorem dX8_climb_2 : decode cX8_climb 2 = .ok (.iload_n 2, 1) := by decide +kernel
theorem dX8_climb_3 : decode cX8_climb 3 = .ok (.invokevirtual 291, 3) := by decide +kernel
theorem dX8_climb_6 : decode cX8_climb 6 = .ok (.ifCond .ne 5, 3) := by decide +kernel
theorem dX8_climb_9 : decode cX8_climb 9 = .ok (.iconst (-1), 1) := by decide +kernel
theorem dX8_climb_10 : decode cX8_climb 10 = .ok (.ireturn, 1) := by decide +kernel
theorem dX8_climb_11 : decode cX8_climb 11 = .ok (.iload_n 3, 1) := by decide +kernel
theorem dX8_climb_12 : decode cX8_climb 12 = .ok (.iload 4, 2) := by decide +kernel
theorem dX8_climb_14 : decode cX8_climb 14 = .ok (.invokestatic 294, 3) := by decide +kernel
theorem dX8_climb_17 : decode cX8_climb 17 = .ok (.ifCond .eq 16, 3) := by decide +kernel
theorem dX8_climb_20 : decode cX8_climb 20 = .ok (.iload 5, 2) := by decide +kernel
theorem dX8_climb_22 : decode cX8_climb 22 = .ok (.i2l, 1) := by decide +kernel
theorem dX8_climb_23 : decode cX8_climb 23 = .ok (.lconst 0, 1) := by decide +kernel
theorem dX8_climb_24 : decode cX8_climb 24 = .ok (.ldc2_w 231, 3) := by decide +kernel
theorem dX8_climb_27 : decode cX8_climb 27 = .ok (.invokestatic 101, 3) := by decide +kernel
theorem dX8_climb_30 : decode cX8_climb 30 = .ok (.ifCond .ne 6, 3) := by decide +kernel
theorem dX8_climb_33 : decode cX8_climb 33 = .ok (.bipush (-2), 2) := by decide +kernel
theorem dX8_climb_35 : decode cX8_climb 35 = .ok (.ireturn, 1) := by decide +kernel
theorem dX8_climb_36 : decode cX8_climb 36 = .ok (.aload_n 0, 1) := by decide +kernel
theorem dX8_climb_37 : decode cX8_climb 37 = .ok (.iload_n 1, 1) := by decide +kernel
theorem dX8_climb_38 : decode cX8_climb 38 = .ok (.iload_n 2, 1) := by decide +kernel
theorem dX8_climb_39 : decode cX8_climb 39 = .ok (.iload_n 3, 1) := by decide +kernel
theorem dX8_climb_40 : decode cX8_climb 40 = .ok (.iload 4, 2) := by decide +kernel
theorem dX8_climb_42 : decode cX8_climb 42 = .ok (.invokevirtual 297, 3) := by decide +kernel
theorem dX8_climb_45 : decode cX8_climb 45 = .ok (.iload 5, 2) := by decide +kernel
theorem dX8_climb_47 : decode cX8_climb 47 = .ok (.ifCond .ne 10, 3) := by decide +kernel
theorem dX8_climb_50 : decode cX8_climb 50 = .ok (.aload_n 0, 1) := by decide +kernel
theorem dX8_climb_51 : decode cX8_climb 51 = .ok (.getfield 278, 3) := by decide +kernel
theorem dX8_climb_54 : decode cX8_climb 54 = .ok (.goto 20, 3) := by decide +kernel
theorem dX8_climb_57 : decode cX8_climb 57 = .ok (.iload 5, 2) := by decide +kernel
theorem dX8_climb_59 : decode cX8_climb 59 = .ok (.iconst 1, 1) := by decide +kernel
theorem dX8_climb_60 : decode cX8_climb 60 = .ok (.if_icmp .ne 10, 3) := by decide +kernel
theorem dX8_climb_63 : decode cX8_climb 63 = .ok (.aload_n 0, 1) := by decide +kernel
theorem dX8_climb_64 : decode cX8_climb 64 = .ok (.getfield 281, 3) := by decide +kernel
theorem dX8_climb_67 : decode cX8_climb 67 = .ok (.goto 7, 3) := by decide +kernel
theorem dX8_climb_70 : decode cX8_climb 70 = .ok (.aload_n 0, 1) := by decide +kernel
theorem dX8_climb_71 : decode cX8_climb 71 = .ok (.getfield 284, 3) := by decide +kernel
theorem dX8_climb_74 : decode cX8_climb 74 = .ok (.ireturn, 1) := by decide +kernel
set_option maxRecDepth 20000 in
theorem ggX8_safe_X8_areTwo : GoodIn wsX8_safe wsX8_areTwo := goodIn_r _ [9, 10, 11, 12, 8, 13, 14, 15, 16, 17, 18, 19, 20, 21, 67, 68, 69, 70, 71, 72, 73, 74, 75, 76, 77, 78, 79, 80, 81, 82, 83, 84, 85, 86, 87, 88, 89, 90, 91, 92, 93, 94, 95, 96, 97, 98, 99, 100, 101, 102, 103, 104, 105, 106, 107, 108, 109, 110, 111, 112] (by decide +kernel) (by decide +kernel)
set_option maxRecDepth 20000 in
theorem gX8_safe_X8_areTwo : GoodIn wsX8_safe (wsV RX8 291 RX8 yX8_areTwo wsX8_areTwo) := goodIn_app (goodIn_of _ (by decide +kernel)) ggX8_safe_X8_areTwo
set_option maxRecDepth 20000 in
theorem ggX8_safe_X8_isClimb : GoodIn wsX8_safe wsX8_isClimb := goodIn_r _ [24, 25, 26, 8, 27, 28, 19, 20, 21] (by decide +kernel) (by decide +kernel)
set_option maxRecDepth 20000 in
theorem gX8_safe_X8_isClimb : GoodIn wsX8_safe (va_wsS RX8 294 yX8_isClimb wsX8_isClimb) := goodIn_app (goodIn_of _ (by decide +kernel)) ggX8_safe_X8_isClimb
set_option maxRecDepth 20000 in
theorem ggX8_safe_X8_in : GoodIn wsX8_safe wsX8_in := goodIn_r _ [21] (by decide +kernel) (by decide +kernel)
set_option maxRecDepth 20000 in
theorem gX8_safe_X8_in : GoodIn wsX8_safe (va_wsS RX8 101 yX8_in wsX8_in) := goodIn_app (goodIn_of _ (by decide +kernel)) ggX8_safe_X8_in
set_option maxRecDepth 20000 in
theorem ggX8_safe_X8_climbUp : GoodIn wsX8_safe wsX8_climbUp := goodIn_r _ [32, 4, 33, 34, 3, 35, 36, 37, 38, 8, 39, 40, 41, 42, 43, 44, 45, 46, 47, 48, 49, 50, 51, 52, 53, 54, 55, 56, 57, 58, 59, 67, 68, 69, 70, 71, 72, 73, 74, 75, 76, 77, 78, 79, 80, 81, 82, 83, 84, 85, 86, 87, 88, 89, 90, 91, 92, 93, 94, 95, 96, 97, 98, 99, 100, 101, 102, 103, 104, 105, 106, 107, 108, 109, 110, 111, 112] (by decide +kernel) (by decide +kernel)
set_option maxRecDepth 20000 in
theorem gX8_safe_X8_climbUp : GoodIn wsX8_safe (wsV RX8 297 RX8 yX8_climbUp wsX8_climbUp) := goodIn_app (goodIn_of _ (by decide +kernel)) ggX8_safe_X8_climbUp
set_option maxRecDepth 20000 in
theorem ggX8_safe_X8_tens : GoodIn wsX8_safe wsX8_tens := goodIn_r _ [62, 63] (by decide +kernel) (by decide +kernel)
set_option maxRecDepth 20000 in
theorem gX8_safe_X8_tens : GoodIn wsX8_safe (va_wsS RX8 250 yX8_tens wsX8_tens) := goodIn_app (goodIn_of _ (by decide +kernel)) ggX8_safe_X8_tens
set_option maxRecDepth 20000 in
theorem ggX8_safe_X8_lowest : GoodIn wsX8_safe wsX8_lowest := goodIn_r _ [66] (by decide +kernel) (by decide +kernel)
set_option maxRecDepth 20000 in
theorem gX8_safe_X8_lowest : GoodIn wsX8_safe (va_wsS RX8 254 yX8_lowest wsX8_lowest) := goodIn_app (goodIn_of _ (by decide +kernel)) ggX8_safe_X8_lowest
theorem dX8_safe_0 : decode cX8_safe 0 = .ok (.aload_n 0, 1) := by decide +kernel
theorem dX8_safe_1 : decode cX8_safe 1 = .ok (.iload_n 1, 1) := by decide +kernel
theorem dX8_safe_2 : decode cX8_safe 2 = .ok (.iload_n 2, 1) := by decide +kernel
theorem dX8_safe_3 : decode cX8_safe 3 = .ok (.invokevirtual 291, 3) := by decide +kernel
theorem dX8_safe_6 : decode cX8_safe 6 = .ok (.ifCond .ne 7, 3) := by decide +kernel
theorem dX8_safe_9 : decode cX8_safe 9 = .ok (.ldc2_w 301, 3) := by decide +kernel
theorem dX8_safe_12 : decode cX8_safe 12 = .ok (.lreturn, 1) := by decide +kernel
theorem dX8_safe_13 : decode cX8_safe 13 = .ok (.iload_n 3, 1) := by decide +kernel
theorem dX8_safe_14 : decode cX8_safe 14 = .ok (.iload 4, 2) := by decide +kernel
theorem dX8_safe_16 : decode cX8_safe 16 = .ok (.invokestatic 294, 3) := by decide +kernel
theorem dX8_safe_19 : decode cX8_safe 19 = .ok (.ifCond .eq 14, 3) := by decide +kernel
theorem dX8_safe_22 : decode cX8_safe 22 = .ok (.iload 5, 2) := by decide +kernel
theorem dX8_safe_24 : decode cX8_safe 24 = .ok (.i2l, 1) := by decide +kernel
theorem dX8_safe_25 : decode cX8_safe 25 = .ok (.lconst 0, 1) := by decide +kernel
theorem dX8_safe_26 : decode cX8_safe 26 = .ok (.lconst 1, 1) := by decide +kernel
theorem dX8_safe_27 : decode cX8_safe 27 = .ok (.invokestatic 101, 3) := by decide +kernel
theorem dX8_safe_30 : decode cX8_safe 30 = .ok (.ifCond .ne 7, 3) := by decide +kernel
theorem dX8_safe_33 : decode cX8_safe 33 = .ok (.ldc2_w 244, 3) := by decide +kernel
theorem dX8_safe_36 : decode cX8_safe 36 = .ok (.lreturn, 1) := by decide +kernel
theorem dX8_safe_37 : decode cX8_safe 37 = .ok (.aload_n 0, 1) := by decide +kernel
theorem dX8_safe_38 : decode cX8_safe 38 = .ok (.iload_n 1, 1) := by decide +kernel
theorem dX8_safe_39 : decode cX8_safe 39 = .ok (.iload_n 2, 1) := by decide +kernel
theorem dX8_safe_40 : decode cX8_safe 40 = .ok (.iload_n 3, 1) := by decide +kernel
theorem dX8_safe_41 : decode cX8_safe 41 = .ok (.iload 4, 2) := by decide +kernel
theorem dX8_safe_43 : decode cX8_safe 43 = .ok (.invokevirtual 297, 3) := by decide +kernel
theorem dX8_safe_46 : decode cX8_safe 46 = .ok (.aload_n 0, 1) := by decide +kernel
theorem dX8_safe_47 : decode cX8_safe 47 = .ok (.getfield 287, 3) := by decide +kernel
theorem dX8_safe_50 : decode cX8_safe 50 = .ok (.aload_n 0, 1) := by decide +kernel
theorem dX8_safe_51 : decode cX8_safe 51 = .ok (.getfield 278, 3) := by decide +kernel
theorem dX8_safe_54 : decode cX8_safe 54 = .ok (.invokestatic 250, 3) := by decide +kernel
theorem dX8_safe_57 : decode cX8_safe 57 = .ok (.iload 5, 2) := by decide +kernel
theorem dX8_safe_59 : decode cX8_safe 59 = .ok (.invokestatic 254, 3) := by decide +kernel
theorem dX8_safe_62 : decode cX8_safe 62 = .ok (.lreturn, 1) := by decide +kernel
set_option maxRecDepth 20000 in
theorem ggX8_law_X8_areTwo : GoodIn wsX8_law wsX8_areTwo := goodIn_r _ [8, 9, 10, 11, 7, 12, 13, 14, 15, 16, 17, 18, 19, 20, 60, 61, 62, 63, 64, 65, 66, 67, 68, 69, 70, 71, 72, 73, 74, 75, 76, 77, 78, 79, 80, 81, 82, 83, 84, 85, 86, 87, 88, 89, 90, 91, 92, 93, 94, 95, 96, 97, 98, 99, 100, 101, 102, 103, 104, 105] (by decide +kernel) (by decide +kernel)
set_option maxRecDepth 20000 in
theorem gX8_law_X8_areTwo : GoodIn wsX8_law (wsV RX8 291 RX8 yX8_areTwo wsX8_areTwo) := goodIn_app (goodIn_of _ (by decide +kernel)) ggX8_law_X8_areTwo
set_option maxRecDepth 20000 in
theorem ggX8_law_X8_isHeight : GoodIn wsX8_law wsX8_isHeight := goodIn_r _ [23, 24, 18, 19, 7, 20] (by decide +kernel) (by decide +kernel)
set_option maxRecDepth 20000 in
theorem gX8_law_X8_isHeight : GoodIn wsX8_law (va_wsS RX8 162 yX8_isHeight wsX8_isHeight) := goodIn_app (goodIn_of _ (by decide +kernel)) ggX8_law_X8_isHeight
set_option maxRecDepth 20000 in
theorem ggX8_law_X8_in : GoodIn wsX8_law wsX8_in := goodIn_r _ [20] (by decide +kernel) (by decide +kernel)
set_option maxRecDepth 20000 in
theorem gX8_law_X8_in : GoodIn wsX8_law (va_wsS RX8 101 yX8_in wsX8_in) := goodIn_app (goodIn_of _ (by decide +kernel)) ggX8_law_X8_in
set_option maxRecDepth 20000 in
theorem ggX8_law_X8_climbUp : GoodIn wsX8_law wsX8_climbUp := goodIn_r _ [28, 3, 29, 30, 2, 31, 32, 33, 34, 7, 35, 36, 37, 38, 39, 40, 41, 42, 43, 44, 45, 46, 47, 48, 49, 50, 51, 52, 53, 54, 55, 60, 61, 62, 63, 64, 65, 66, 67, 68, 69, 70, 71, 72, 73, 74, 75, 76, 77, 78, 79, 80, 81, 82, 83, 84, 85, 86, 87, 88, 89, 90, 91, 92, 93, 94, 95, 96, 97, 98, 99, 100, 101, 102, 103, 104, 105] (by decide +kernel) (by decide +kernel)
set_option maxRecDepth 20000 in
theorem gX8_law_X8_climbUp : GoodIn wsX8_law (wsV RX8 297 RX8 yX8_climbUp wsX8_climbUp) := goodIn_app (goodIn_of _ (by decide +kernel)) ggX8_law_X8_climbUp
set_option maxRecDepth 20000 in
theorem ggX8_law_X8_tens : GoodIn wsX8_law wsX8_tens := goodIn_r _ [58, 59] (by decide +kernel) (by decide +kernel)
set_option maxRecDepth 20000 in
theorem gX8_law_X8_tens : GoodIn wsX8_law (va_wsS RX8 250 yX8_tens wsX8_tens) := goodIn_app (goodIn_of _ (by decide +kernel)) ggX8_law_X8_tens
theorem dX8_law_0 : decode cX8_law 0 = .ok (.aload_n 0, 1) := by decide +kernel
theorem dX8_law_1 : decode cX8_law 1 = .ok (.iload_n 1, 1) := by decide +kernel
theorem dX8_law_2 : decode cX8_law 2 = .ok (.iload_n 2, 1) := by decide +kernel
theorem dX8_law_3 : decode cX8_law 3 = .ok (.invokevirtual 291, 3) := by decide +kernel
theorem dX8_law_6 : decode cX8_law 6 = .ok (.ifCond .ne 5, 3) := by decide +kernel
theorem dX8_law_9 : decode cX8_law 9 = .ok (.iconst (-1), 1) := by decide +kernel
theorem dX8_law_10 : decode cX8_law 10 = .ok (.ireturn, 1) := by decide +kernel
theorem dX8_law_11 : decode cX8_law 11 = .ok (.iload_n 3, 1) := by decide +kernel
theorem dX8_law_12 : decode cX8_law 12 = .ok (.invokestatic 162, 3) := by decide +kernel
theorem dX8_law_15 : decode cX8_law 15 = .ok (.ifCond .eq 29, 3) := by decide +kernel
theorem dX8_law_18 : decode cX8_law 18 = .ok (.iload 5, 2) := by decide +kernel
theorem dX8_law_20 : decode cX8_law 20 = .ok (.i2l, 1) := by decide +kernel
theorem dX8_law_21 : decode cX8_law 21 = .ok (.lconst 1, 1) := by decide +kernel
theorem dX8_law_22 : decode cX8_law 22 = .ok (.ldc2_w 303, 3) := by decide +kernel
theorem dX8_law_25 : decode cX8_law 25 = .ok (.invokestatic 101, 3) := by decide +kernel
theorem dX8_law_28 : decode cX8_law 28 = .ok (.ifCond .eq 16, 3) := by decide +kernel
theorem dX8_law_31 : decode cX8_law 31 = .ok (.iload 4, 2) := by decide +kernel
theorem dX8_law_33 : decode cX8_law 33 = .ok (.i2l, 1) := by decide +kernel
theorem dX8_law_34 : decode cX8_law 34 = .ok (.lconst 0, 1) := by decide +kernel
theorem dX8_law_35 : decode cX8_law 35 = .ok (.iload 5, 2) := by decide +kernel
theorem dX8_law_37 : decode cX8_law 37 = .ok (.i2l, 1) := by decide +kernel
theorem dX8_law_38 : decode cX8_law 38 = .ok (.invokestatic 101, 3) := by decide +kernel
theorem dX8_law_41 : decode cX8_law 41 = .ok (.ifCond .ne 6, 3) := by decide +kernel
theorem dX8_law_44 : decode cX8_law 44 = .ok (.bipush (-2), 2) := by decide +kernel
theorem dX8_law_46 : decode cX8_law 46 = .ok (.ireturn, 1) := by decide +kernel
theorem dX8_law_47 : decode cX8_law 47 = .ok (.bipush (-6), 2) := by decide +kernel
theorem dX8_law_49 : decode cX8_law 49 = .ok (.istore 6, 2) := by decide +kernel
theorem dX8_law_51 : decode cX8_law 51 = .ok (.iload_n 3, 1) := by decide +kernel
theorem dX8_law_52 : decode cX8_law 52 = .ok (.istore 7, 2) := by decide +kernel
theorem dX8_law_54 : decode cX8_law 54 = .ok (.iload 7, 2) := by decide +kernel
theorem dX8_law_56 : decode cX8_law 56 = .ok (.bipush 15, 2) := by decide +kernel
theorem dX8_law_58 : decode cX8_law 58 = .ok (.if_icmp .gt 50, 3) := by decide +kernel
theorem dX8_law_61 : decode cX8_law 61 = .ok (.aload_n 0, 1) := by decide +kernel
theorem dX8_law_62 : decode cX8_law 62 = .ok (.iload_n 1, 1) := by decide +kernel
theorem dX8_law_63 : decode cX8_law 63 = .ok (.iload_n 2, 1) := by decide +kernel
theorem dX8_law_64 : decode cX8_law 64 = .ok (.iload_n 3, 1) := by decide +kernel
theorem dX8_law_65 : decode cX8_law 65 = .ok (.iload 7, 2) := by decide +kernel
theorem dX8_law_67 : decode cX8_law 67 = .ok (.invokevirtual 297, 3) := by decide +kernel
theorem dX8_law_70 : decode cX8_law 70 = .ok (.aload_n 0, 1) := by decide +kernel
theorem dX8_law_71 : decode cX8_law 71 = .ok (.getfield 287, 3) := by decide +kernel
theorem dX8_law_74 : decode cX8_law 74 = .ok (.iload 5, 2) := by decide +kernel
theorem dX8_law_76 : decode cX8_law 76 = .ok (.i2l, 1) := by decide +kernel
theorem dX8_law_77 : decode cX8_law 77 = .ok (.lmul, 1) := by decide +kernel
theorem dX8_law_78 : decode cX8_law 78 = .ok (.iload 4, 2) := by decide +kernel
theorem dX8_law_80 : decode cX8_law 80 = .ok (.i2l, 1) := by decide +kernel
theorem dX8_law_81 : decode cX8_law 81 = .ok (.aload_n 0, 1) := by decide +kernel
theorem dX8_law_82 : decode cX8_law 82 = .ok (.getfield 278, 3) := by decide +kernel
theorem dX8_law_85 : decode cX8_law 85 = .ok (.invokestatic 250, 3) := by decide +kernel
theorem dX8_law_88 : decode cX8_law 88 = .ok (.lmul, 1) := by decide +kernel
theorem dX8_law_89 : decode cX8_law 89 = .ok (.lcmp, 1) := by decide +kernel
theorem dX8_law_90 : decode cX8_law 90 = .ok (.ifCond .lt 8, 3) := by decide +kernel
theorem dX8_law_93 : decode cX8_law 93 = .ok (.iload 7, 2) := by decide +kernel
theorem dX8_law_95 : decode cX8_law 95 = .ok (.goto 5, 3) := by decide +kernel
theorem dX8_law_98 : decode cX8_law 98 = .ok (.iload 6, 2) := by decide +kernel
theorem dX8_law_100 : decode cX8_law 100 = .ok (.istore 6, 2) := by decide +kernel
theorem dX8_law_102 : decode cX8_law 102 = .ok (.iinc 7 1, 3) := by decide +kernel
theorem dX8_law_105 : decode cX8_law 105 = .ok (.goto (-51), 3) := by decide +kernel
theorem dX8_law_108 : decode cX8_law 108 = .ok (.iload 6, 2) := by decide +kernel
theorem dX8_law_110 : decode cX8_law 110 = .ok (.ireturn, 1) := by decide +kernel
set_option maxRecDepth 20000 in
theorem ggX8_findGame_X8_play : GoodIn wsX8_findGame wsX8_play := goodIn_r _ [8, 9, 10, 3, 2, 11, 12, 13, 7, 14, 15, 16, 17, 18, 19, 20, 21, 22, 23, 24, 25, 26, 27, 28, 29, 30, 31, 32, 33, 34, 35, 36, 37, 38, 39, 40, 41, 42, 43, 44, 45, 46, 47, 48, 49, 50, 51, 52, 53, 54, 55, 56, 57, 58, 59, 60, 61, 62, 63, 64, 65, 66, 67, 68, 69, 70, 71, 72, 73, 74, 75, 76, 77, 78, 79] (by decide +kernel) (by decide +kernel)
set_option maxRecDepth 20000 in
theorem gX8_findGame_X8_play : GoodIn wsX8_findGame (wsV RX8 305 RX8 yX8_play wsX8_play) := goodIn_app (goodIn_of _ (by decide +kernel)) ggX8_findGame_X8_play
theorem dX8_findGame_0 : decode cX8_findGame 0 = .ok (.iload_n 3, 1) := by decide +kernel
theorem dX8_findGame_1 : decode cX8_findGame 1 = .ok (.istore 4, 2) := by decide +kernel
theorem dX8_findGame_3 : decode cX8_findGame 3 = .ok (.iload 4, 2) := by decide +kernel
theorem dX8_findGame_5 : decode cX8_findGame 5 = .ok (.ifCond .le 139, 3) := by decide +kernel
theorem dX8_findGame_8 : decode cX8_findGame 8 = .ok (.iconst 0, 1) := by decide +kernel
theorem dX8_findGame_9 : decode cX8_findGame 9 = .ok (.istore 5, 2) := by decide +kernel
theorem dX8_findGame_11 : decode cX8_findGame 11 = .ok (.iload 5, 2) := by decide +kernel
theorem dX8_findGame_13 : decode cX8_findGame 13 = .ok (.iconst 2, 1) := by decide +kernel
theorem dX8_findGame_14 : decode cX8_findGame 14 = .ok (.if_icmp .ge 124, 3) := by decide +kernel
theorem dX8_findGame_17 : decode cX8_findGame 17 = .ok (.iload 5, 2) := by decide +kernel
theorem dX8_findGame_19 : decode cX8_findGame 19 = .ok (.ifCond .ne 7, 3) := by decide +kernel
theorem dX8_findGame_22 : decode cX8_findGame 22 = .ok (.iload_n 1, 1) := by decide +kernel
theorem dX8_findGame_23 : decode cX8_findGame 23 = .ok (.goto 4, 3) := by decide +kernel
theorem dX8_findGame_26 : decode cX8_findGame 26 = .ok (.iload_n 2, 1) := by decide +kernel
theorem dX8_findGame_27 : decode cX8_findGame 27 = .ok (.istore 6, 2) := by decide +kernel
theorem dX8_findGame_29 : decode cX8_findGame 29 = .ok (.iload 5, 2) := by decide +kernel
theorem dX8_findGame_31 : decode cX8_findGame 31 = .ok (.ifCond .ne 7, 3) := by decide +kernel
theorem dX8_findGame_34 : decode cX8_findGame 34 = .ok (.iload_n 2, 1) := by decide +kernel
theorem dX8_findGame_35 : decode cX8_findGame 35 = .ok (.goto 4, 3) := by decide +kernel
theorem dX8_findGame_38 : decode cX8_findGame 38 = .ok (.iload_n 1, 1) := by decide +kernel
theorem dX8_findGame_39 : decode cX8_findGame 39 = .ok (.istore 7, 2) := by decide +kernel
theorem dX8_findGame_41 : decode cX8_findGame 41 = .ok (.iload 4, 2) := by decide +kernel
theorem dX8_findGame_43 : decode cX8_findGame 43 = .ok (.aload_n 0, 1) := by decide +kernel
theorem dX8_findGame_44 : decode cX8_findGame 44 = .ok (.getfield 80, 3) := by decide +kernel
theorem dX8_findGame_47 : decode cX8_findGame 47 = .ok (.iadd, 1) := by decide +kernel
theorem dX8_findGame_48 : decode cX8_findGame 48 = .ok (.iload_n 3, 1) := by decide +kernel
theorem dX8_findGame_49 : decode cX8_findGame 49 = .ok (.if_icmp .gt 7, 3) := by decide +kernel
theorem dX8_findGame_52 : decode cX8_findGame 52 = .ok (.iconst 1, 1) := by decide +kernel
theorem dX8_findGame_53 : decode cX8_findGame 53 = .ok (.goto 4, 3) := by decide +kernel
theorem dX8_findGame_56 : decode cX8_findGame 56 = .ok (.iconst 0, 1) := by decide +kernel
theorem dX8_findGame_57 : decode cX8_findGame 57 = .ok (.istore 8, 2) := by decide +kernel
theorem dX8_findGame_59 : decode cX8_findGame 59 = .ok (.iconst 2, 1) := by decide +kernel
theorem dX8_findGame_60 : decode cX8_findGame 60 = .ok (.iload 4, 2) := by decide +kernel
theorem dX8_findGame_62 : decode cX8_findGame 62 = .ok (.aload_n 0, 1) := by decide +kernel
theorem dX8_findGame_63 : decode cX8_findGame 63 = .ok (.getfield 80, 3) := by decide +kernel
theorem dX8_findGame_66 : decode cX8_findGame 66 = .ok (.iadd, 1) := by decide +kernel
theorem dX8_findGame_67 : decode cX8_findGame 67 = .ok (.imul, 1) := by decide +kernel
theorem dX8_findGame_68 : decode cX8_findGame 68 = .ok (.iconst 1, 1) := by decide +kernel
theorem dX8_findGame_69 : decode cX8_findGame 69 = .ok (.iadd, 1) := by decide +kernel
theorem dX8_findGame_70 : decode cX8_findGame 70 = .ok (.iload 5, 2) := by decide +kernel
theorem dX8_findGame_72 : decode cX8_findGame 72 = .ok (.isub, 1) := by decide +kernel
theorem dX8_findGame_73 : decode cX8_findGame 73 = .ok (.istore 9, 2) := by decide +kernel
theorem dX8_findGame_75 : decode cX8_findGame 75 = .ok (.iload 8, 2) := by decide +kernel
theorem dX8_findGame_77 : decode cX8_findGame 77 = .ok (.ifCond .eq 13, 3) := by decide +kernel
theorem dX8_findGame_80 : decode cX8_findGame 80 = .ok (.aload_n 0, 1) := by decide +kernel
theorem dX8_findGame_81 : decode cX8_findGame 81 = .ok (.getfield 70, 3) := by decide +kernel
theorem dX8_findGame_84 : decode cX8_findGame 84 = .ok (.iload 9, 2) := by decide +kernel
theorem dX8_findGame_86 : decode cX8_findGame 86 = .ok (.iaload, 1) := by decide +kernel
theorem dX8_findGame_87 : decode cX8_findGame 87 = .ok (.goto 4, 3) := by decide +kernel
theorem dX8_findGame_90 : decode cX8_findGame 90 = .ok (.iconst 0, 1) := by decide +kernel
theorem dX8_findGame_91 : decode cX8_findGame 91 = .ok (.istore 10, 2) := by decide +kernel
theorem dX8_findGame_93 : decode cX8_findGame 93 = .ok (.iload 8, 2) := by decide +kernel
theorem dX8_findGame_95 : decode cX8_findGame 95 = .ok (.ifCond .eq 13, 3) := by decide +kernel
theorem dX8_findGame_98 : decode cX8_findGame 98 = .ok (.aload_n 0, 1) := by decide +kernel
theorem dX8_findGame_99 : decode cX8_findGame 99 = .ok (.getfield 67, 3) := by decide +kernel
theorem dX8_findGame_102 : decode cX8_findGame 102 = .ok (.iload 9, 2) := by decide +kernel
theorem dX8_findGame_104 : decode cX8_findGame 104 = .ok (.iaload, 1) := by decide +kernel
theorem dX8_findGame_105 : decode cX8_findGame 105 = .ok (.goto 4, 3) := by decide +kernel
theorem dX8_findGame_108 : decode cX8_findGame 108 = .ok (.iconst 0, 1) := by decide +kernel
theorem dX8_findGame_109 : decode cX8_findGame 109 = .ok (.istore 11, 2) := by decide +kernel
theorem dX8_findGame_111 : decode cX8_findGame 111 = .ok (.aload_n 0, 1) := by decide +kernel
theorem dX8_findGame_112 : decode cX8_findGame 112 = .ok (.iconst 2, 1) := by decide +kernel
theorem dX8_findGame_113 : decode cX8_findGame 113 = .ok (.iload 4, 2) := by decide +kernel
theorem dX8_findGame_115 : decode cX8_findGame 115 = .ok (.imul, 1) := by decide +kernel
theorem dX8_findGame_116 : decode cX8_findGame 116 = .ok (.iload 5, 2) := by decide +kernel
theorem dX8_findGame_118 : decode cX8_findGame 118 = .ok (.iadd, 1) := by decide +kernel
theorem dX8_findGame_119 : decode cX8_findGame 119 = .ok (.iload 6, 2) := by decide +kernel
theorem dX8_findGame_121 : decode cX8_findGame 121 = .ok (.iload 7, 2) := by decide +kernel
theorem dX8_findGame_123 : decode cX8_findGame 123 = .ok (.iload 4, 2) := by decide +kernel
theorem dX8_findGame_125 : decode cX8_findGame 125 = .ok (.iload 10, 2) := by decide +kernel
theorem dX8_findGame_127 : decode cX8_findGame 127 = .ok (.iload 11, 2) := by decide +kernel
theorem dX8_findGame_129 : decode cX8_findGame 129 = .ok (.invokevirtual 305, 3) := by decide +kernel
theorem dX8_findGame_132 : decode cX8_findGame 132 = .ok (.iinc 5 1, 3) := by decide +kernel
theorem dX8_findGame_135 : decode cX8_findGame 135 = .ok (.goto (-124), 3) := by decide +kernel
theorem dX8_findGame_138 : decode cX8_findGame 138 = .ok (.iinc 4 (-1), 3) := by decide +kernel
theorem dX8_findGame_141 : decode cX8_findGame 141 = .ok (.goto (-138), 3) := by decide +kernel
theorem dX8_findGame_144 : decode cX8_findGame 144 = .ok (.return_, 1) := by decide +kernel
set_option maxRecDepth 20000 in
theorem ggX8_play_X8_worthDone : GoodIn wsX8_play wsX8_worthDone := goodIn_r _ [9, 1, 10, 11, 12, 8, 13, 14, 15, 16, 17, 18, 19, 20, 21, 29, 30, 31, 32, 33, 34, 35, 36, 37, 38, 39, 40, 41, 42, 43, 44, 45, 46, 47, 48, 49, 50, 51, 52, 53, 54, 55, 56, 57, 58, 59, 60, 61, 62, 63, 64, 65, 66, 67, 68, 69, 70, 71, 72, 73, 74] (by decide +kernel) (by decide +kernel)
set_option maxRecDepth 20000 in
theorem gX8_play_X8_worthDone : GoodIn wsX8_play (wsV RX8 269 RX8 yX8_worthDone wsX8_worthDone) := goodIn_app (goodIn_of _ (by decide +kernel)) ggX8_play_X8_worthDone
set_option maxRecDepth 20000 in
theorem ggX8_play_X8_worthRefused : GoodIn wsX8_play wsX8_worthRefused := goodIn_r _ [25, 1, 26, 27, 8, 28, 29, 30, 31, 32, 33, 34, 35, 36, 37, 38, 39, 40, 41, 42, 43, 44, 45, 46, 47, 48, 49, 50, 51, 52, 53, 54, 55, 56, 57, 58, 59, 60, 61, 62, 63, 64, 65, 66, 67, 68, 69, 70, 71, 72, 73, 74] (by decide +kernel) (by decide +kernel)
set_option maxRecDepth 20000 in
theorem gX8_play_X8_worthRefused : GoodIn wsX8_play (wsV RX8 272 RX8 yX8_worthRefused wsX8_worthRefused) := goodIn_app (goodIn_of _ (by decide +kernel)) ggX8_play_X8_worthRefused
theorem dX8_play_0 : decode cX8_play 0 = .ok (.aload_n 0, 1) := by decide +kernel
theorem dX8_play_1 : decode cX8_play 1 = .ok (.iload_n 2, 1) := by decide +kernel
theorem dX8_play_2 : decode cX8_play 2 = .ok (.iload 4, 2) := by decide +kernel
theorem dX8_play_4 : decode cX8_play 4 = .ok (.invokevirtual 269, 3) := by decide +kernel
theorem dX8_play_7 : decode cX8_play 7 = .ok (.iload 5, 2) := by decide +kernel
theorem dX8_play_9 : decode cX8_play 9 = .ok (.iadd, 1) := by decide +kernel
theorem dX8_play_10 : decode cX8_play 10 = .ok (.istore 7, 2) := by decide +kernel
theorem dX8_play_12 : decode cX8_play 12 = .ok (.aload_n 0, 1) := by decide +kernel
theorem dX8_play_13 : decode cX8_play 13 = .ok (.iload_n 2, 1) := by decide +kernel
theorem dX8_play_14 : decode cX8_play 14 = .ok (.iload 4, 2) := by decide +kernel
theorem dX8_play_16 : decode cX8_play 16 = .ok (.invokevirtual 272, 3) := by decide +kernel
theorem dX8_play_19 : decode cX8_play 19 = .ok (.istore 8, 2) := by decide +kernel
theorem dX8_play_21 : decode cX8_play 21 = .ok (.aload_n 0, 1) := by decide +kernel
theorem dX8_play_22 : decode cX8_play 22 = .ok (.iload_n 3, 1) := by decide +kernel
theorem dX8_play_23 : decode cX8_play 23 = .ok (.iload 4, 2) := by decide +kernel
theorem dX8_play_25 : decode cX8_play 25 = .ok (.invokevirtual 269, 3) := by decide +kernel
theorem dX8_play_28 : decode cX8_play 28 = .ok (.iload 6, 2) := by decide +kernel
theorem dX8_play_30 : decode cX8_play 30 = .ok (.iadd, 1) := by decide +kernel
theorem dX8_play_31 : decode cX8_play 31 = .ok (.istore 9, 2) := by decide +kernel
theorem dX8_play_33 : decode cX8_play 33 = .ok (.bipush (-10), 2) := by decide +kernel
theorem dX8_play_35 : decode cX8_play 35 = .ok (.aload_n 0, 1) := by decide +kernel
theorem dX8_play_36 : decode cX8_play 36 = .ok (.getfield 16, 3) := by decide +kernel
theorem dX8_play_39 : decode cX8_play 39 = .ok (.iload_n 3, 1) := by decide +kernel
theorem dX8_play_40 : decode cX8_play 40 = .ok (.iaload, 1) := by decide +kernel
theorem dX8_play_41 : decode cX8_play 41 = .ok (.imul, 1) := by decide +kernel
theorem dX8_play_42 : decode cX8_play 42 = .ok (.iload 4, 2) := by decide +kernel
theorem dX8_play_44 : decode cX8_play 44 = .ok (.imul, 1) := by decide +kernel
theorem dX8_play_45 : decode cX8_play 45 = .ok (.istore 10, 2) := by decide +kernel
theorem dX8_play_47 : decode cX8_play 47 = .ok (.iload 9, 2) := by decide +kernel
theorem dX8_play_49 : decode cX8_play 49 = .ok (.iload 10, 2) := by decide +kernel
theorem dX8_play_51 : decode cX8_play 51 = .ok (.if_icmp .lt 7, 3) := by decide +kernel
theorem dX8_play_54 : decode cX8_play 54 = .ok (.iconst 1, 1) := by decide +kernel
theorem dX8_play_55 : decode cX8_play 55 = .ok (.goto 4, 3) := by decide +kernel
theorem dX8_play_58 : decode cX8_play 58 = .ok (.iconst 0, 1) := by decide +kernel
theorem dX8_play_59 : decode cX8_play 59 = .ok (.istore 11, 2) := by decide +kernel
theorem dX8_play_61 : decode cX8_play 61 = .ok (.iload 11, 2) := by decide +kernel
theorem dX8_play_63 : decode cX8_play 63 = .ok (.ifCond .eq 8, 3) := by decide +kernel
theorem dX8_play_66 : decode cX8_play 66 = .ok (.iload 7, 2) := by decide +kernel
theorem dX8_play_68 : decode cX8_play 68 = .ok (.goto 14, 3) := by decide +kernel
theorem dX8_play_71 : decode cX8_play 71 = .ok (.iconst 5, 1) := by decide +kernel
theorem dX8_play_72 : decode cX8_play 72 = .ok (.aload_n 0, 1) := by decide +kernel
theorem dX8_play_73 : decode cX8_play 73 = .ok (.getfield 16, 3) := by decide +kernel
theorem dX8_play_76 : decode cX8_play 76 = .ok (.iload_n 2, 1) := by decide +kernel
theorem dX8_play_77 : decode cX8_play 77 = .ok (.iaload, 1) := by decide +kernel
theorem dX8_play_78 : decode cX8_play 78 = .ok (.imul, 1) := by decide +kernel
theorem dX8_play_79 : decode cX8_play 79 = .ok (.iload 4, 2) := by decide +kernel
theorem dX8_play_81 : decode cX8_play 81 = .ok (.imul, 1) := by decide +kernel
theorem dX8_play_82 : decode cX8_play 82 = .ok (.istore 12, 2) := by decide +kernel
theorem dX8_play_84 : decode cX8_play 84 = .ok (.aload_n 0, 1) := by decide +kernel
theorem dX8_play_85 : decode cX8_play 85 = .ok (.getfield 64, 3) := by decide +kernel
theorem dX8_play_88 : decode cX8_play 88 = .ok (.iload_n 1, 1) := by decide +kernel
theorem dX8_play_89 : decode cX8_play 89 = .ok (.iload 7, 2) := by decide +kernel
theorem dX8_play_91 : decode cX8_play 91 = .ok (.iload 8, 2) := by decide +kernel
theorem dX8_play_93 : decode cX8_play 93 = .ok (.if_icmp .lt 14, 3) := by decide +kernel
theorem dX8_play_96 : decode cX8_play 96 = .ok (.iload 7, 2) := by decide +kernel
theorem dX8_play_98 : decode cX8_play 98 = .ok (.iload 12, 2) := by decide +kernel
theorem dX8_play_100 : decode cX8_play 100 = .ok (.if_icmp .lt 7, 3) := by decide +kernel
theorem dX8_play_103 : decode cX8_play 103 = .ok (.iconst 0, 1) := by decide +kernel
theorem dX8_play_104 : decode cX8_play 104 = .ok (.goto 15, 3) := by decide +kernel
theorem dX8_play_107 : decode cX8_play 107 = .ok (.iload 8, 2) := by decide +kernel
theorem dX8_play_109 : decode cX8_play 109 = .ok (.iload 12, 2) := by decide +kernel
theorem dX8_play_111 : decode cX8_play 111 = .ok (.if_icmp .lt 7, 3) := by decide +kernel
theorem dX8_play_114 : decode cX8_play 114 = .ok (.iconst 1, 1) := by decide +kernel
theorem dX8_play_115 : decode cX8_play 115 = .ok (.goto 4, 3) := by decide +kernel
theorem dX8_play_118 : decode cX8_play 118 = .ok (.iconst 2, 1) := by decide +kernel
theorem dX8_play_119 : decode cX8_play 119 = .ok (.iastore, 1) := by decide +kernel
theorem dX8_play_120 : decode cX8_play 120 = .ok (.aload_n 0, 1) := by decide +kernel
theorem dX8_play_121 : decode cX8_play 121 = .ok (.getfield 67, 3) := by decide +kernel
theorem dX8_play_124 : decode cX8_play 124 = .ok (.iload_n 1, 1) := by decide +kernel
theorem dX8_play_125 : decode cX8_play 125 = .ok (.aload_n 0, 1) := by decide +kernel
theorem dX8_play_126 : decode cX8_play 126 = .ok (.getfield 64, 3) := by decide +kernel
theorem dX8_play_129 : decode cX8_play 129 = .ok (.iload_n 1, 1) := by decide +kernel
theorem dX8_play_130 : decode cX8_play 130 = .ok (.iaload, 1) := by decide +kernel
theorem dX8_play_131 : decode cX8_play 131 = .ok (.ifCond .ne 8, 3) := by decide +kernel
theorem dX8_play_134 : decode cX8_play 134 = .ok (.iload 7, 2) := by decide +kernel
theorem dX8_play_136 : decode cX8_play 136 = .ok (.goto 20, 3) := by decide +kernel
theorem dX8_play_139 : decode cX8_play 139 = .ok (.aload_n 0, 1) := by decide +kernel
theorem dX8_play_140 : decode cX8_play 140 = .ok (.getfield 64, 3) := by decide +kernel
theorem dX8_play_143 : decode cX8_play 143 = .ok (.iload_n 1, 1) := by decide +kernel
theorem dX8_play_144 : decode cX8_play 144 = .ok (.iaload, 1) := by decide +kernel
theorem dX8_play_145 : decode cX8_play 145 = .ok (.iconst 1, 1) := by decide +kernel
theorem dX8_play_146 : decode cX8_play 146 = .ok (.if_icmp .ne 8, 3) := by decide +kernel
theorem dX8_play_149 : decode cX8_play 149 = .ok (.iload 8, 2) := by decide +kernel
theorem dX8_play_151 : decode cX8_play 151 = .ok (.goto 5, 3) := by decide +kernel
theorem dX8_play_154 : decode cX8_play 154 = .ok (.iload 12, 2) := by decide +kernel
theorem dX8_play_156 : decode cX8_play 156 = .ok (.iastore, 1) := by decide +kernel
theorem dX8_play_157 : decode cX8_play 157 = .ok (.aload_n 0, 1) := by decide +kernel
theorem dX8_play_158 : decode cX8_play 158 = .ok (.getfield 70, 3) := by decide +kernel
theorem dX8_play_161 : decode cX8_play 161 = .ok (.iload_n 1, 1) := by decide +kernel
theorem dX8_play_162 : decode cX8_play 162 = .ok (.aload_n 0, 1) := by decide +kernel
theorem dX8_play_163 : decode cX8_play 163 = .ok (.getfield 64, 3) := by decide +kernel
theorem dX8_play_166 : decode cX8_play 166 = .ok (.iload_n 1, 1) := by decide +kernel
theorem dX8_play_167 : decode cX8_play 167 = .ok (.iaload, 1) := by decide +kernel
theorem dX8_play_168 : decode cX8_play 168 = .ok (.ifCond .ne 8, 3) := by decide +kernel
theorem dX8_play_171 : decode cX8_play 171 = .ok (.iload 6, 2) := by decide +kernel
theorem dX8_play_173 : decode cX8_play 173 = .ok (.goto 29, 3) := by decide +kernel
theorem dX8_play_176 : decode cX8_play 176 = .ok (.aload_n 0, 1) := by decide +kernel
theorem dX8_play_177 : decode cX8_play 177 = .ok (.getfield 64, 3) := by decide +kernel
theorem dX8_play_180 : decode cX8_play 180 = .ok (.iload_n 1, 1) := by decide +kernel
theorem dX8_play_181 : decode cX8_play 181 = .ok (.iaload, 1) := by decide +kernel
theorem dX8_play_182 : decode cX8_play 182 = .ok (.iconst 1, 1) := by decide +kernel
theorem dX8_play_183 : decode cX8_play 183 = .ok (.if_icmp .ne 7, 3) := by decide +kernel
theorem dX8_play_186 : decode cX8_play 186 = .ok (.iconst 0, 1) := by decide +kernel
theorem dX8_play_187 : decode cX8_play 187 = .ok (.goto 15, 3) := by decide +kernel
theorem dX8_play_190 : decode cX8_play 190 = .ok (.iload 11, 2) := by decide +kernel
theorem dX8_play_192 : decode cX8_play 192 = .ok (.ifCond .eq 8, 3) := by decide +kernel
theorem dX8_play_195 : decode cX8_play 195 = .ok (.iload 9, 2) := by decide +kernel
theorem dX8_play_197 : decode cX8_play 197 = .ok (.goto 5, 3) := by decide +kernel
theorem dX8_play_200 : decode cX8_play 200 = .ok (.iload 10, 2) := by decide +kernel
theorem dX8_play_202 : decode cX8_play 202 = .ok (.iastore, 1) := by decide +kernel
theorem dX8_play_203 : decode cX8_play 203 = .ok (.return_, 1) := by decide +kernel
set_option maxRecDepth 20000 in
theorem ggX8_game_X8_areTwo : GoodIn wsX8_game wsX8_areTwo := goodIn_r _ [10, 11, 12, 13, 9, 14, 15, 16, 17, 18, 19, 20, 21, 22, 63, 64, 65, 66, 67, 68, 69, 70, 71, 72, 73, 74, 75, 76, 77, 78, 79, 80, 81, 82, 83, 84, 85, 86, 87, 88, 89, 90, 91, 92, 93, 94, 95, 96, 97, 98, 99, 100, 101, 102, 103, 104, 105, 106, 107, 108] (by decide +kernel) (by decide +kernel)
set_option maxRecDepth 20000 in
theorem gX8_game_X8_areTwo : GoodIn wsX8_game (wsV RX8 291 RX8 yX8_areTwo wsX8_areTwo) := goodIn_app (goodIn_of _ (by decide +kernel)) ggX8_game_X8_areTwo
set_option maxRecDepth 20000 in
theorem ggX8_game_X8_isClimb : GoodIn wsX8_game wsX8_isClimb := goodIn_r _ [25, 26, 27, 9, 28, 29, 20, 21, 22] (by decide +kernel) (by decide +kernel)
set_option maxRecDepth 20000 in
theorem gX8_game_X8_isClimb : GoodIn wsX8_game (va_wsS RX8 294 yX8_isClimb wsX8_isClimb) := goodIn_app (goodIn_of _ (by decide +kernel)) ggX8_game_X8_isClimb
set_option maxRecDepth 20000 in
theorem ggX8_game_X8_in : GoodIn wsX8_game wsX8_in := goodIn_r _ [22] (by decide +kernel) (by decide +kernel)
set_option maxRecDepth 20000 in
theorem gX8_game_X8_in : GoodIn wsX8_game (va_wsS RX8 101 yX8_in wsX8_in) := goodIn_app (goodIn_of _ (by decide +kernel)) ggX8_game_X8_in
set_option maxRecDepth 20000 in
theorem ggX8_game_X8_findGame : GoodIn wsX8_game wsX8_findGame := goodIn_r _ [33, 34, 5, 4, 35, 36, 37, 9, 38, 39, 2, 40, 41, 42, 43, 44, 45, 46, 47, 48, 49, 50, 51, 52, 53, 54, 55, 56, 57, 58, 59, 60, 61, 62, 63, 64, 65, 66, 67, 68, 69, 70, 71, 72, 73, 74, 75, 76, 77, 78, 79, 80, 81, 82, 83, 84, 85, 86, 87, 88, 89, 90, 91, 92, 93, 94, 95, 96, 97, 98, 99, 100, 101, 102, 103, 104, 105, 106, 107, 108] (by decide +kernel) (by decide +kernel)
set_option maxRecDepth 20000 in
theorem gX8_game_X8_findGame : GoodIn wsX8_game (wsV RX8 309 RX8 yX8_findGame wsX8_findGame) := goodIn_app (goodIn_of _ (by decide +kernel)) ggX8_game_X8_findGame
theorem dX8_game_0 : decode cX8_game 0 = .ok (.aload_n 0, 1) := by decide +kernel
theorem dX8_game_1 : decode cX8_game 1 = .ok (.iload_n 1, 1) := by decide +kernel
theorem dX8_game_2 : decode cX8_game 2 = .ok (.iload_n 2, 1) := by decide +kernel
theorem dX8_game_3 : decode cX8_game 3 = .ok (.invokevirtual 291, 3) := by decide +kernel
theorem dX8_game_6 : decode cX8_game 6 = .ok (.ifCond .ne 5, 3) := by decide +kernel
theorem dX8_game_9 : decode cX8_game 9 = .ok (.iconst (-1), 1) := by decide +kernel
theorem dX8_game_10 : decode cX8_game 10 = .ok (.ireturn, 1) := by decide +kernel
theorem dX8_game_11 : decode cX8_game 11 = .ok (.iload_n 3, 1) := by decide +kernel
theorem dX8_game_12 : decode cX8_game 12 = .ok (.iload 4, 2) := by decide +kernel
theorem dX8_game_14 : decode cX8_game 14 = .ok (.invokestatic 294, 3) := by decide +kernel
theorem dX8_game_17 : decode cX8_game 17 = .ok (.ifCond .eq 16, 3) := by decide +kernel
theorem dX8_game_20 : decode cX8_game 20 = .ok (.iload 5, 2) := by decide +kernel
theorem dX8_game_22 : decode cX8_game 22 = .ok (.i2l, 1) := by decide +kernel
theorem dX8_game_23 : decode cX8_game 23 = .ok (.lconst 0, 1) := by decide +kernel
theorem dX8_game_24 : decode cX8_game 24 = .ok (.ldc2_w 231, 3) := by decide +kernel
theorem dX8_game_27 : decode cX8_game 27 = .ok (.invokestatic 101, 3) := by decide +kernel
theorem dX8_game_30 : decode cX8_game 30 = .ok (.ifCond .ne 6, 3) := by decide +kernel
theorem dX8_game_33 : decode cX8_game 33 = .ok (.bipush (-2), 2) := by decide +kernel
theorem dX8_game_35 : decode cX8_game 35 = .ok (.ireturn, 1) := by decide +kernel
theorem dX8_game_36 : decode cX8_game 36 = .ok (.aload_n 0, 1) := by decide +kernel
theorem dX8_game_37 : decode cX8_game 37 = .ok (.iload_n 1, 1) := by decide +kernel
theorem dX8_game_38 : decode cX8_game 38 = .ok (.iload_n 2, 1) := by decide +kernel
theorem dX8_game_39 : decode cX8_game 39 = .ok (.iload 4, 2) := by decide +kernel
theorem dX8_game_41 : decode cX8_game 41 = .ok (.invokevirtual 309, 3) := by decide +kernel
theorem dX8_game_44 : decode cX8_game 44 = .ok (.iconst 2, 1) := by decide +kernel
theorem dX8_game_45 : decode cX8_game 45 = .ok (.iload_n 3, 1) := by decide +kernel
theorem dX8_game_46 : decode cX8_game 46 = .ok (.imul, 1) := by decide +kernel
theorem dX8_game_47 : decode cX8_game 47 = .ok (.iconst 1, 1) := by decide +kernel
theorem dX8_game_48 : decode cX8_game 48 = .ok (.iadd, 1) := by decide +kernel
theorem dX8_game_49 : decode cX8_game 49 = .ok (.istore 6, 2) := by decide +kernel
theorem dX8_game_51 : decode cX8_game 51 = .ok (.iload 5, 2) := by decide +kernel
theorem dX8_game_53 : decode cX8_game 53 = .ok (.ifCond .ne 13, 3) := by decide +kernel
theorem dX8_game_56 : decode cX8_game 56 = .ok (.aload_n 0, 1) := by decide +kernel
theorem dX8_game_57 : decode cX8_game 57 = .ok (.getfield 64, 3) := by decide +kernel
theorem dX8_game_60 : decode cX8_game 60 = .ok (.iload 6, 2) := by decide +kernel
theorem dX8_game_62 : decode cX8_game 62 = .ok (.iaload, 1) := by decide +kernel
theorem dX8_game_63 : decode cX8_game 63 = .ok (.goto 30, 3) := by decide +kernel
theorem dX8_game_66 : decode cX8_game 66 = .ok (.ldc_w 268, 3) := by decide +kernel
theorem dX8_game_69 : decode cX8_game 69 = .ok (.iload 5, 2) := by decide +kernel
theorem dX8_game_71 : decode cX8_game 71 = .ok (.iconst 1, 1) := by decide +kernel
theorem dX8_game_72 : decode cX8_game 72 = .ok (.if_icmp .ne 13, 3) := by decide +kernel
theorem dX8_game_75 : decode cX8_game 75 = .ok (.aload_n 0, 1) := by decide +kernel
theorem dX8_game_76 : decode cX8_game 76 = .ok (.getfield 67, 3) := by decide +kernel
theorem dX8_game_79 : decode cX8_game 79 = .ok (.iload 6, 2) := by decide +kernel
theorem dX8_game_81 : decode cX8_game 81 = .ok (.iaload, 1) := by decide +kernel
theorem dX8_game_82 : decode cX8_game 82 = .ok (.goto 10, 3) := by decide +kernel
theorem dX8_game_85 : decode cX8_game 85 = .ok (.aload_n 0, 1) := by decide +kernel
theorem dX8_game_86 : decode cX8_game 86 = .ok (.getfield 70, 3) := by decide +kernel
theorem dX8_game_89 : decode cX8_game 89 = .ok (.iload 6, 2) := by decide +kernel
theorem dX8_game_91 : decode cX8_game 91 = .ok (.iaload, 1) := by decide +kernel
theorem dX8_game_92 : decode cX8_game 92 = .ok (.iadd, 1) := by decide +kernel
theorem dX8_game_93 : decode cX8_game 93 = .ok (.ireturn, 1) := by decide +kernel
set_option maxRecDepth 20000 in
theorem ggX8_saidBy_X8_isThere : GoodIn wsX8_saidBy wsX8_isThere := goodIn_r _ [7, 8, 9, 10, 6, 11, 12, 13, 14, 15, 19, 20, 21, 22, 23, 24, 25, 26, 27, 28, 29, 30, 31, 32, 33, 34, 35, 36, 37, 38, 39, 40, 41, 42, 43, 44, 45, 46, 47, 48, 49, 50, 51, 52, 53, 54, 55, 56, 57, 58, 59, 60, 61, 62, 63, 64] (by decide +kernel) (by decide +kernel)
set_option maxRecDepth 20000 in
theorem gX8_saidBy_X8_isThere : GoodIn wsX8_saidBy (wsV RX8 123 RX8 yX8_isThere wsX8_isThere) := goodIn_app (goodIn_of _ (by decide +kernel)) ggX8_saidBy_X8_isThere
set_option maxRecDepth 20000 in
theorem ggX8_saidBy_X8_ones : GoodIn wsX8_saidBy wsX8_ones := goodIn_r _ [18] (by decide +kernel) (by decide +kernel)
set_option maxRecDepth 20000 in
theorem gX8_saidBy_X8_ones : GoodIn wsX8_saidBy (va_wsS RX8 119 yX8_ones wsX8_ones) := goodIn_app (goodIn_of _ (by decide +kernel)) ggX8_saidBy_X8_ones
theorem dX8_saidBy_0 : decode cX8_saidBy 0 = .ok (.iload_n 1, 1) := by decide +kernel
theorem dX8_saidBy_1 : decode cX8_saidBy 1 = .ok (.istore_n 2, 1) := by decide +kernel
theorem dX8_saidBy_2 : decode cX8_saidBy 2 = .ok (.iconst 1, 1) := by decide +kernel
theorem dX8_saidBy_3 : decode cX8_saidBy 3 = .ok (.istore_n 3, 1) := by decide +kernel
theorem dX8_saidBy_4 : decode cX8_saidBy 4 = .ok (.iload_n 3, 1) := by decide +kernel
theorem dX8_saidBy_5 : decode cX8_saidBy 5 = .ok (.ifCond .eq 100, 3) := by decide +kernel
theorem dX8_saidBy_8 : decode cX8_saidBy 8 = .ok (.iload_n 2, 1) := by decide +kernel
theorem dX8_saidBy_9 : decode cX8_saidBy 9 = .ok (.istore 4, 2) := by decide +kernel
theorem dX8_saidBy_11 : decode cX8_saidBy 11 = .ok (.iconst 0, 1) := by decide +kernel
theorem dX8_saidBy_12 : decode cX8_saidBy 12 = .ok (.istore 5, 2) := by decide +kernel
theorem dX8_saidBy_14 : decode cX8_saidBy 14 = .ok (.iload 5, 2) := by decide +kernel
theorem dX8_saidBy_16 : decode cX8_saidBy 16 = .ok (.bipush 6, 2) := by decide +kernel
theorem dX8_saidBy_18 : decode cX8_saidBy 18 = .ok (.if_icmp .ge 69, 3) := by decide +kernel
theorem dX8_saidBy_21 : decode cX8_saidBy 21 = .ok (.aload_n 0, 1) := by decide +kernel
theorem dX8_saidBy_22 : decode cX8_saidBy 22 = .ok (.iload 5, 2) := by decide +kernel
theorem dX8_saidBy_24 : decode cX8_saidBy 24 = .ok (.invokevirtual 123, 3) := by decide +kernel
theorem dX8_saidBy_27 : decode cX8_saidBy 27 = .ok (.ifCond .eq 33, 3) := by decide +kernel
theorem dX8_saidBy_30 : decode cX8_saidBy 30 = .ok (.aload_n 0, 1) := by decide +kernel
theorem dX8_saidBy_31 : decode cX8_saidBy 31 = .ok (.getfield 19, 3) := by decide +kernel
theorem dX8_saidBy_34 : decode cX8_saidBy 34 = .ok (.iload 5, 2) := by decide +kernel
theorem dX8_saidBy_36 : decode cX8_saidBy 36 = .ok (.iaload, 1) := by decide +kernel
theorem dX8_saidBy_37 : decode cX8_saidBy 37 = .ok (.ifCond .ne 23, 3) := by decide +kernel
theorem dX8_saidBy_40 : decode cX8_saidBy 40 = .ok (.aload_n 0, 1) := by decide +kernel
theorem dX8_saidBy_41 : decode cX8_saidBy 41 = .ok (.getfield 16, 3) := by decide +kernel
theorem dX8_saidBy_44 : decode cX8_saidBy 44 = .ok (.iload 5, 2) := by decide +kernel
theorem dX8_saidBy_46 : decode cX8_saidBy 46 = .ok (.iaload, 1) := by decide +kernel
theorem dX8_saidBy_47 : decode cX8_saidBy 47 = .ok (.iconst 2, 1) := by decide +kernel
theorem dX8_saidBy_48 : decode cX8_saidBy 48 = .ok (.idiv, 1) := by decide +kernel
theorem dX8_saidBy_49 : decode cX8_saidBy 49 = .ok (.iload_n 2, 1) := by decide +kernel
theorem dX8_saidBy_50 : decode cX8_saidBy 50 = .ok (.invokestatic 119, 3) := by decide +kernel
theorem dX8_saidBy_53 : decode cX8_saidBy 53 = .ok (.if_icmp .gt 7, 3) := by decide +kernel
theorem dX8_saidBy_56 : decode cX8_saidBy 56 = .ok (.iconst 1, 1) := by decide +kernel
theorem dX8_saidBy_57 : decode cX8_saidBy 57 = .ok (.goto 4, 3) := by decide +kernel
theorem dX8_saidBy_60 : decode cX8_saidBy 60 = .ok (.iconst 0, 1) := by decide +kernel
theorem dX8_saidBy_61 : decode cX8_saidBy 61 = .ok (.istore 6, 2) := by decide +kernel
theorem dX8_saidBy_63 : decode cX8_saidBy 63 = .ok (.iload 4, 2) := by decide +kernel
theorem dX8_saidBy_65 : decode cX8_saidBy 65 = .ok (.iload 6, 2) := by decide +kernel
theorem dX8_saidBy_67 : decode cX8_saidBy 67 = .ok (.ifCond .eq 10, 3) := by decide +kernel
theorem dX8_saidBy_70 : decode cX8_saidBy 70 = .ok (.iconst 1, 1) := by decide +kernel
theorem dX8_saidBy_71 : decode cX8_saidBy 71 = .ok (.iload 5, 2) := by decide +kernel
theorem dX8_saidBy_73 : decode cX8_saidBy 73 = .ok (.ishl, 1) := by decide +kernel
theorem dX8_saidBy_74 : decode cX8_saidBy 74 = .ok (.goto 4, 3) := by decide +kernel
theorem dX8_saidBy_77 : decode cX8_saidBy 77 = .ok (.iconst 0, 1) := by decide +kernel
theorem dX8_saidBy_78 : decode cX8_saidBy 78 = .ok (.ior, 1) := by decide +kernel
theorem dX8_saidBy_79 : decode cX8_saidBy 79 = .ok (.istore 4, 2) := by decide +kernel
theorem dX8_saidBy_81 : decode cX8_saidBy 81 = .ok (.iinc 5 1, 3) := by decide +kernel
theorem dX8_saidBy_84 : decode cX8_saidBy 84 = .ok (.goto (-70), 3) := by decide +kernel
theorem dX8_saidBy_87 : decode cX8_saidBy 87 = .ok (.iload 4, 2) := by decide +kernel
theorem dX8_saidBy_89 : decode cX8_saidBy 89 = .ok (.iload_n 2, 1) := by decide +kernel
theorem dX8_saidBy_90 : decode cX8_saidBy 90 = .ok (.if_icmp .eq 7, 3) := by decide +kernel
theorem dX8_saidBy_93 : decode cX8_saidBy 93 = .ok (.iconst 1, 1) := by decide +kernel
theorem dX8_saidBy_94 : decode cX8_saidBy 94 = .ok (.goto 4, 3) := by decide +kernel
theorem dX8_saidBy_97 : decode cX8_saidBy 97 = .ok (.iconst 0, 1) := by decide +kernel
theorem dX8_saidBy_98 : decode cX8_saidBy 98 = .ok (.istore_n 3, 1) := by decide +kernel
theorem dX8_saidBy_99 : decode cX8_saidBy 99 = .ok (.iload 4, 2) := by decide +kernel
theorem dX8_saidBy_101 : decode cX8_saidBy 101 = .ok (.istore_n 2, 1) := by decide +kernel
theorem dX8_saidBy_102 : decode cX8_saidBy 102 = .ok (.goto (-98), 3) := by decide +kernel
theorem dX8_saidBy_105 : decode cX8_saidBy 105 = .ok (.iload_n 2, 1) := by decide +kernel
theorem dX8_saidBy_106 : decode cX8_saidBy 106 = .ok (.ireturn, 1) := by decide +kernel
set_option maxRecDepth 20000 in
theorem ggX8_isHeld_X8_ones : GoodIn wsX8_isHeld wsX8_ones := goodIn_r _ [5] (by decide +kernel) (by decide +kernel)
set_option maxRecDepth 20000 in
theorem gX8_isHeld_X8_ones : GoodIn wsX8_isHeld (va_wsS RX8 119 yX8_ones wsX8_ones) := goodIn_app (goodIn_of _ (by decide +kernel)) ggX8_isHeld_X8_ones
theorem dX8_isHeld_0 : decode cX8_isHeld 0 = .ok (.iconst 2, 1) := by decide +kernel
theorem dX8_isHeld_1 : decode cX8_isHeld 1 = .ok (.iload_n 1, 1) := by decide +kernel
theorem dX8_isHeld_2 : decode cX8_isHeld 2 = .ok (.invokestatic 119, 3) := by decide +kernel
theorem dX8_isHeld_5 : decode cX8_isHeld 5 = .ok (.imul, 1) := by decide +kernel
theorem dX8_isHeld_6 : decode cX8_isHeld 6 = .ok (.aload_n 0, 1) := by decide +kernel
theorem dX8_isHeld_7 : decode cX8_isHeld 7 = .ok (.getfield 109, 3) := by decide +kernel
theorem dX8_isHeld_10 : decode cX8_isHeld 10 = .ok (.invokestatic 119, 3) := by decide +kernel
theorem dX8_isHeld_13 : decode cX8_isHeld 13 = .ok (.if_icmp .le 7, 3) := by decide +kernel
theorem dX8_isHeld_16 : decode cX8_isHeld 16 = .ok (.iconst 1, 1) := by decide +kernel
theorem dX8_isHeld_17 : decode cX8_isHeld 17 = .ok (.goto 4, 3) := by decide +kernel
theorem dX8_isHeld_20 : decode cX8_isHeld 20 = .ok (.iconst 0, 1) := by decide +kernel
theorem dX8_isHeld_21 : decode cX8_isHeld 21 = .ok (.ireturn, 1) := by decide +kernel
set_option maxRecDepth 20000 in
theorem ggX8_enough_X8_isThere : GoodIn wsX8_enough wsX8_isThere := goodIn_r _ [5, 6, 7, 8, 4, 9, 10, 11, 12, 13, 23, 24, 25, 26, 27, 28, 29, 30, 31, 32, 33, 34, 35, 36, 37, 38, 39, 40, 41, 42, 43, 44, 45, 46, 47, 48, 49, 50, 51, 52, 53, 54, 55, 56, 57, 58, 59, 60, 61, 62, 63, 64, 65, 66, 67, 68] (by decide +kernel) (by decide +kernel)
set_option maxRecDepth 20000 in
theorem gX8_enough_X8_isThere : GoodIn wsX8_enough (wsV RX8 123 RX8 yX8_isThere wsX8_isThere) := goodIn_app (goodIn_of _ (by decide +kernel)) ggX8_enough_X8_isThere
set_option maxRecDepth 20000 in
theorem ggX8_enough_X8_saidBy : GoodIn wsX8_enough wsX8_saidBy := goodIn_r _ [17, 18, 19, 1, 2, 3, 4, 5, 6, 7, 8, 9, 10, 11, 12, 13, 20, 21, 22, 23, 24, 25, 26, 27, 28, 29, 30, 31, 32, 33, 34, 35, 36, 37, 38, 39, 40, 41, 42, 43, 44, 45, 46, 47, 48, 49, 50, 51, 52, 53, 54, 55, 56, 57, 58, 59, 60, 61, 62, 63, 64, 65, 66, 67, 68] (by decide +kernel) (by decide +kernel)
set_option maxRecDepth 20000 in
theorem gX8_enough_X8_saidBy : GoodIn wsX8_enough (wsV RX8 313 RX8 yX8_saidBy wsX8_saidBy) := goodIn_app (goodIn_of _ (by decide +kernel)) ggX8_enough_X8_saidBy
theorem dX8_enough_0 : decode cX8_enough 0 = .ok (.aload_n 0, 1) := by decide +kernel
theorem dX8_enough_1 : decode cX8_enough 1 = .ok (.iload_n 1, 1) := by decide +kernel
theorem dX8_enough_2 : decode cX8_enough 2 = .ok (.invokevirtual 123, 3) := by decide +kernel
theorem dX8_enough_5 : decode cX8_enough 5 = .ok (.ifCond .eq 13, 3) := by decide +kernel
theorem dX8_enough_8 : decode cX8_enough 8 = .ok (.aload_n 0, 1) := by decide +kernel
theorem dX8_enough_9 : decode cX8_enough 9 = .ok (.iconst 1, 1) := by decide +kernel
theorem dX8_enough_10 : decode cX8_enough 10 = .ok (.iload_n 1, 1) := by decide +kernel
theorem dX8_enough_11 : decode cX8_enough 11 = .ok (.ishl, 1) := by decide +kernel
theorem dX8_enough_12 : decode cX8_enough 12 = .ok (.invokevirtual 313, 3) := by decide +kernel
theorem dX8_enough_15 : decode cX8_enough 15 = .ok (.goto 4, 3) := by decide +kernel
theorem dX8_enough_18 : decode cX8_enough 18 = .ok (.iconst (-1), 1) := by decide +kernel
theorem dX8_enough_19 : decode cX8_enough 19 = .ok (.ireturn, 1) := by decide +kernel
set_option maxRecDepth 20000 in
theorem ggX8_holds_X8_isThere : GoodIn wsX8_holds wsX8_isThere := goodIn_r _ [5, 6, 7, 8, 4, 9, 10, 11, 12, 13, 27, 28, 29, 30, 31, 32, 33, 34, 35, 36, 37, 38, 39, 40, 41, 42, 43, 44, 45, 46, 47, 48, 49, 50, 51, 52, 53, 54, 55, 56, 57, 58, 59, 60, 61, 62, 63, 64, 65, 66, 67, 68, 69, 70, 71, 72] (by decide +kernel) (by decide +kernel)
set_option maxRecDepth 20000 in
theorem gX8_holds_X8_isThere : GoodIn wsX8_holds (wsV RX8 123 RX8 yX8_isThere wsX8_isThere) := goodIn_app (goodIn_of _ (by decide +kernel)) ggX8_holds_X8_isThere
set_option maxRecDepth 20000 in
theorem ggX8_holds_X8_saidBy : GoodIn wsX8_holds wsX8_saidBy := goodIn_r _ [17, 18, 19, 1, 2, 3, 4, 5, 6, 7, 8, 9, 10, 11, 12, 13, 20, 21, 22, 27, 28, 29, 30, 31, 32, 33, 34, 35, 36, 37, 38, 39, 40, 41, 42, 43, 44, 45, 46, 47, 48, 49, 50, 51, 52, 53, 54, 55, 56, 57, 58, 59, 60, 61, 62, 63, 64, 65, 66, 67, 68, 69, 70, 71, 72] (by decide +kernel) (by decide +kernel)
set_option maxRecDepth 20000 in
theorem gX8_holds_X8_saidBy : GoodIn wsX8_holds (wsV RX8 313 RX8 yX8_saidBy wsX8_saidBy) := goodIn_app (goodIn_of _ (by decide +kernel)) ggX8_holds_X8_saidBy
set_option maxRecDepth 20000 in
theorem ggX8_holds_X8_isHeld : GoodIn wsX8_holds wsX8_isHeld := goodIn_r _ [26, 6, 20, 21, 4, 22, 27, 28, 29, 30, 31, 32, 33, 34, 35, 36, 37, 38, 39, 40, 41, 42, 43, 44, 45, 46, 47, 48, 49, 50, 51, 52, 53, 54, 55, 56, 57, 58, 59, 60, 61, 62, 63, 64, 65, 66, 67, 68, 69, 70, 71, 72] (by decide +kernel) (by decide +kernel)
set_option maxRecDepth 20000 in
theorem gX8_holds_X8_isHeld : GoodIn wsX8_holds (wsV RX8 316 RX8 yX8_isHeld wsX8_isHeld) := goodIn_app (goodIn_of _ (by decide +kernel)) ggX8_holds_X8_isHeld
theorem dX8_holds_0 : decode cX8_holds 0 = .ok (.aload_n 0, 1) := by decide +kernel
theorem dX8_holds_1 : decode cX8_holds 1 = .ok (.iload_n 1, 1) := by decide +kernel
theorem dX8_holds_2 : decode cX8_holds 2 = .ok (.invokevirtual 123, 3) := by decide +kernel
theorem dX8_holds_5 : decode cX8_holds 5 = .ok (.ifCond .ne 5, 3) := by decide +kernel
theorem dX8_holds_8 : decode cX8_holds 8 = .ok (.iconst (-1), 1) := by decide +kernel
theorem dX8_holds_9 : decode cX8_holds 9 = .ok (.ireturn, 1) := by decide +kernel
theorem dX8_holds_10 : decode cX8_holds 10 = .ok (.aload_n 0, 1) := by decide +kernel
theorem dX8_holds_11 : decode cX8_holds 11 = .ok (.aload_n 0, 1) := by decide +kernel
theorem dX8_holds_12 : decode cX8_holds 12 = .ok (.iconst 1, 1) := by decide +kernel
theorem dX8_holds_13 : decode cX8_holds 13 = .ok (.iload_n 1, 1) := by decide +kernel
theorem dX8_holds_14 : decode cX8_holds 14 = .ok (.ishl, 1) := by decide +kernel
theorem dX8_holds_15 : decode cX8_holds 15 = .ok (.invokevirtual 313, 3) := by decide +kernel
theorem dX8_holds_18 : decode cX8_holds 18 = .ok (.invokevirtual 316, 3) := by decide +kernel
theorem dX8_holds_21 : decode cX8_holds 21 = .ok (.ifCond .eq 7, 3) := by decide +kernel
theorem dX8_holds_24 : decode cX8_holds 24 = .ok (.iconst 1, 1) := by decide +kernel
theorem dX8_holds_25 : decode cX8_holds 25 = .ok (.goto 4, 3) := by decide +kernel
theorem dX8_holds_28 : decode cX8_holds 28 = .ok (.iconst 0, 1) := by decide +kernel
theorem dX8_holds_29 : decode cX8_holds 29 = .ok (.ireturn, 1) := by decide +kernel
set_option maxRecDepth 20000 in
theorem ggX8_without_X8_isThere : GoodIn wsX8_without wsX8_isThere := goodIn_r _ [6, 7, 8, 9, 5, 10, 11, 12, 13, 14, 15, 16, 17, 18, 19, 20, 21, 22, 23, 24, 25, 26, 27, 28, 29, 30, 31, 32, 33, 34, 35, 36, 37, 38, 39, 40, 41, 42, 43, 44, 45, 46, 47, 48, 49, 50, 51, 52, 53, 54, 55, 56, 57, 58, 59, 60] (by decide +kernel) (by decide +kernel)
set_option maxRecDepth 20000 in
theorem gX8_without_X8_isThere : GoodIn wsX8_without (wsV RX8 123 RX8 yX8_isThere wsX8_isThere) := goodIn_app (goodIn_of _ (by decide +kernel)) ggX8_without_X8_isThere
theorem dX8_without_0 : decode cX8_without 0 = .ok (.iconst 0, 1) := by decide +kernel
theorem dX8_without_1 : decode cX8_without 1 = .ok (.istore_n 1, 1) := by decide +kernel
theorem dX8_without_2 : decode cX8_without 2 = .ok (.iconst 0, 1) := by decide +kernel
theorem dX8_without_3 : decode cX8_without 3 = .ok (.istore_n 2, 1) := by decide +kernel
theorem dX8_without_4 : decode cX8_without 4 = .ok (.iload_n 2, 1) := by decide +kernel
theorem dX8_without_5 : decode cX8_without 5 = .ok (.bipush 6, 2) := by decide +kernel
theorem dX8_without_7 : decode cX8_without 7 = .ok (.if_icmp .ge 36, 3) := by decide +kernel
theorem dX8_without_10 : decode cX8_without 10 = .ok (.iload_n 1, 1) := by decide +kernel
theorem dX8_without_11 : decode cX8_without 11 = .ok (.aload_n 0, 1) := by decide +kernel
theorem dX8_without_12 : decode cX8_without 12 = .ok (.iload_n 2, 1) := by decide +kernel
theorem dX8_without_13 : decode cX8_without 13 = .ok (.invokevirtual 123, 3) := by decide +kernel
theorem dX8_without_16 : decode cX8_without 16 = .ok (.ifCond .eq 18, 3) := by decide +kernel
theorem dX8_without_19 : decode cX8_without 19 = .ok (.aload_n 0, 1) := by decide +kernel
theorem dX8_without_20 : decode cX8_without 20 = .ok (.getfield 19, 3) := by decide +kernel
theorem dX8_without_23 : decode cX8_without 23 = .ok (.iload_n 2, 1) := by decide +kernel
theorem dX8_without_24 : decode cX8_without 24 = .ok (.iaload, 1) := by decide +kernel
theorem dX8_without_25 : decode cX8_without 25 = .ok (.ifCond .ne 9, 3) := by decide +kernel
theorem dX8_without_28 : decode cX8_without 28 = .ok (.iconst 1, 1) := by decide +kernel
theorem dX8_without_29 : decode cX8_without 29 = .ok (.iload_n 2, 1) := by decide +kernel
theorem dX8_without_30 : decode cX8_without 30 = .ok (.ishl, 1) := by decide +kernel
theorem dX8_without_31 : decode cX8_without 31 = .ok (.goto 4, 3) := by decide +kernel
theorem dX8_without_34 : decode cX8_without 34 = .ok (.iconst 0, 1) := by decide +kernel
theorem dX8_without_35 : decode cX8_without 35 = .ok (.ior, 1) := by decide +kernel
theorem dX8_without_36 : decode cX8_without 36 = .ok (.istore_n 1, 1) := by decide +kernel
theorem dX8_without_37 : decode cX8_without 37 = .ok (.iinc 2 1, 3) := by decide +kernel
theorem dX8_without_40 : decode cX8_without 40 = .ok (.goto (-36), 3) := by decide +kernel
theorem dX8_without_43 : decode cX8_without 43 = .ok (.iload_n 1, 1) := by decide +kernel
theorem dX8_without_44 : decode cX8_without 44 = .ok (.ireturn, 1) := by decide +kernel
set_option maxRecDepth 20000 in
theorem ggX8_won_X8_in : GoodIn wsX8_won wsX8_in := goodIn_r _ [4] (by decide +kernel) (by decide +kernel)
set_option maxRecDepth 20000 in
theorem gX8_won_X8_in : GoodIn wsX8_won (va_wsS RX8 101 yX8_in wsX8_in) := goodIn_app (goodIn_of _ (by decide +kernel)) ggX8_won_X8_in
set_option maxRecDepth 20000 in
theorem ggX8_won_X8_without : GoodIn wsX8_won wsX8_without := goodIn_r _ [8, 9, 10, 11, 12, 3, 13, 14, 15, 16, 17, 18, 1, 2, 4, 31, 32, 33, 34, 35, 36, 37, 38, 39, 40, 41, 42, 43, 44, 45, 46, 47, 48, 49, 50, 51, 52, 53, 54, 55, 56, 57, 58, 59, 60, 61, 62, 63, 64, 65, 66, 67, 68, 69, 70, 71, 72, 73, 74, 75, 76] (by decide +kernel) (by decide +kernel)
set_option maxRecDepth 20000 in
theorem gX8_won_X8_without : GoodIn wsX8_won (wsV RX8 319 RX8 yX8_without wsX8_without) := goodIn_app (goodIn_of _ (by decide +kernel)) ggX8_won_X8_without
set_option maxRecDepth 20000 in
theorem ggX8_won_X8_ones : GoodIn wsX8_won wsX8_ones := goodIn_r _ [21] (by decide +kernel) (by decide +kernel)
set_option maxRecDepth 20000 in
theorem gX8_won_X8_ones : GoodIn wsX8_won (va_wsS RX8 119 yX8_ones wsX8_ones) := goodIn_app (goodIn_of _ (by decide +kernel)) ggX8_won_X8_ones
set_option maxRecDepth 20000 in
theorem ggX8_won_X8_saidBy : GoodIn wsX8_won wsX8_saidBy := goodIn_r _ [25, 9, 26, 10, 11, 12, 3, 13, 14, 15, 16, 17, 18, 1, 2, 4, 19, 20, 21, 31, 32, 33, 34, 35, 36, 37, 38, 39, 40, 41, 42, 43, 44, 45, 46, 47, 48, 49, 50, 51, 52, 53, 54, 55, 56, 57, 58, 59, 60, 61, 62, 63, 64, 65, 66, 67, 68, 69, 70, 71, 72, 73, 74, 75, 76] (by decide +kernel) (by decide +kernel)
set_option maxRecDepth 20000 in
theorem gX8_won_X8_saidBy : GoodIn wsX8_won (wsV RX8 313 RX8 yX8_saidBy wsX8_saidBy) := goodIn_app (goodIn_of _ (by decide +kernel)) ggX8_won_X8_saidBy
set_option maxRecDepth 20000 in
theorem ggX8_won_X8_isHeld : GoodIn wsX8_won wsX8_isHeld := goodIn_r _ [30, 14, 19, 20, 3, 21, 31, 32, 33, 34, 35, 36, 37, 38, 39, 40, 41, 42, 43, 44, 45, 46, 47, 48, 49, 50, 51, 52, 53, 54, 55, 56, 57, 58, 59, 60, 61, 62, 63, 64, 65, 66, 67, 68, 69, 70, 71, 72, 73, 74, 75, 76] (by decide +kernel) (by decide +kernel)
set_option maxRecDepth 20000 in
theorem gX8_won_X8_isHeld : GoodIn wsX8_won (wsV RX8 316 RX8 yX8_isHeld wsX8_isHeld) := goodIn_app (goodIn_of _ (by decide +kernel)) ggX8_won_X8_isHeld
theorem dX8_won_0 : decode cX8_won 0 = .ok (.iload_n 1, 1) := by decide +kernel
theorem dX8_won_1 : decode cX8_won 1 = .ok (.i2l, 1) := by decide +kernel
theorem dX8_won_2 : decode cX8_won 2 = .ok (.lconst 0, 1) := by decide +kernel
theorem dX8_won_3 : decode cX8_won 3 = .ok (.lconst 1, 1) := by decide +kernel
theorem dX8_won_4 : decode cX8_won 4 = .ok (.invokestatic 101, 3) := by decide +kernel
theorem dX8_won_7 : decode cX8_won 7 = .ok (.ifCond .ne 6, 3) := by decide +kernel
theorem dX8_won_10 : decode cX8_won 10 = .ok (.bipush (-2), 2) := by decide +kernel
theorem dX8_won_12 : decode cX8_won 12 = .ok (.ireturn, 1) := by decide +kernel
theorem dX8_won_13 : decode cX8_won 13 = .ok (.aload_n 0, 1) := by decide +kernel
theorem dX8_won_14 : decode cX8_won 14 = .ok (.invokevirtual 319, 3) := by decide +kernel
theorem dX8_won_17 : decode cX8_won 17 = .ok (.istore_n 2, 1) := by decide +kernel
theorem dX8_won_18 : decode cX8_won 18 = .ok (.bipush (-6), 2) := by decide +kernel
theorem dX8_won_20 : decode cX8_won 20 = .ok (.istore_n 3, 1) := by decide +kernel
theorem dX8_won_21 : decode cX8_won 21 = .ok (.iconst 1, 1) := by decide +kernel
theorem dX8_won_22 : decode cX8_won 22 = .ok (.istore 4, 2) := by decide +kernel
theorem dX8_won_24 : decode cX8_won 24 = .ok (.iload 4, 2) := by decide +kernel
theorem dX8_won_26 : decode cX8_won 26 = .ok (.bipush 64, 2) := by decide +kernel
theorem dX8_won_28 : decode cX8_won 28 = .ok (.if_icmp .ge 66, 3) := by decide +kernel
theorem dX8_won_31 : decode cX8_won 31 = .ok (.iload 4, 2) := by decide +kernel
theorem dX8_won_33 : decode cX8_won 33 = .ok (.iload_n 2, 1) := by decide +kernel
theorem dX8_won_34 : decode cX8_won 34 = .ok (.iconst (-1), 1) := by decide +kernel
theorem dX8_won_35 : decode cX8_won 35 = .ok (.ixor, 1) := by decide +kernel
theorem dX8_won_36 : decode cX8_won 36 = .ok (.iand, 1) := by decide +kernel
theorem dX8_won_37 : decode cX8_won 37 = .ok (.ifCond .ne 23, 3) := by decide +kernel
theorem dX8_won_40 : decode cX8_won 40 = .ok (.iload_n 3, 1) := by decide +kernel
theorem dX8_won_41 : decode cX8_won 41 = .ok (.ifCond .lt 15, 3) := by decide +kernel
theorem dX8_won_44 : decode cX8_won 44 = .ok (.iload 4, 2) := by decide +kernel
theorem dX8_won_46 : decode cX8_won 46 = .ok (.invokestatic 119, 3) := by decide +kernel
theorem dX8_won_49 : decode cX8_won 49 = .ok (.iload_n 3, 1) := by decide +kernel
theorem dX8_won_50 : decode cX8_won 50 = .ok (.invokestatic 119, 3) := by decide +kernel
theorem dX8_won_53 : decode cX8_won 53 = .ok (.if_icmp .ge 7, 3) := by decide +kernel
theorem dX8_won_56 : decode cX8_won 56 = .ok (.iconst 1, 1) := by decide +kernel
theorem dX8_won_57 : decode cX8_won 57 = .ok (.goto 4, 3) := by decide +kernel
theorem dX8_won_60 : decode cX8_won 60 = .ok (.iconst 0, 1) := by decide +kernel
theorem dX8_won_61 : decode cX8_won 61 = .ok (.istore 5, 2) := by decide +kernel
theorem dX8_won_63 : decode cX8_won 63 = .ok (.iload 5, 2) := by decide +kernel
theorem dX8_won_65 : decode cX8_won 65 = .ok (.ifCond .eq 21, 3) := by decide +kernel
theorem dX8_won_68 : decode cX8_won 68 = .ok (.aload_n 0, 1) := by decide +kernel
theorem dX8_won_69 : decode cX8_won 69 = .ok (.aload_n 0, 1) := by decide +kernel
theorem dX8_won_70 : decode cX8_won 70 = .ok (.iload 4, 2) := by decide +kernel
theorem dX8_won_72 : decode cX8_won 72 = .ok (.invokevirtual 313, 3) := by decide +kernel
theorem dX8_won_75 : decode cX8_won 75 = .ok (.invokevirtual 316, 3) := by decide +kernel
theorem dX8_won_78 : decode cX8_won 78 = .ok (.ifCond .eq 8, 3) := by decide +kernel
theorem dX8_won_81 : decode cX8_won 81 = .ok (.iload 4, 2) := by decide +kernel
theorem dX8_won_83 : decode cX8_won 83 = .ok (.goto 4, 3) := by decide +kernel
theorem dX8_won_86 : decode cX8_won 86 = .ok (.iload_n 3, 1) := by decide +kernel
theorem dX8_won_87 : decode cX8_won 87 = .ok (.istore_n 3, 1) := by decide +kernel
theorem dX8_won_88 : decode cX8_won 88 = .ok (.iinc 4 1, 3) := by decide +kernel
theorem dX8_won_91 : decode cX8_won 91 = .ok (.goto (-67), 3) := by decide +kernel
theorem dX8_won_94 : decode cX8_won 94 = .ok (.iload_n 3, 1) := by decide +kernel
theorem dX8_won_95 : decode cX8_won 95 = .ok (.ifCond .lt 8, 3) := by decide +kernel
theorem dX8_won_98 : decode cX8_won 98 = .ok (.iload_n 1, 1) := by decide +kernel
theorem dX8_won_99 : decode cX8_won 99 = .ok (.iconst 1, 1) := by decide +kernel
theorem dX8_won_100 : decode cX8_won 100 = .ok (.if_icmp .ne 7, 3) := by decide +kernel
theorem dX8_won_103 : decode cX8_won 103 = .ok (.iload_n 3, 1) := by decide +kernel
theorem dX8_won_104 : decode cX8_won 104 = .ok (.goto 7, 3) := by decide +kernel
theorem dX8_won_107 : decode cX8_won 107 = .ok (.iload_n 3, 1) := by decide +kernel
theorem dX8_won_108 : decode cX8_won 108 = .ok (.invokestatic 119, 3) := by decide +kernel
theorem dX8_won_111 : decode cX8_won 111 = .ok (.ireturn, 1) := by decide +kernel
set_option maxRecDepth 20000 in
theorem ggX8_refuser_X8_isThere : GoodIn wsX8_refuser wsX8_isThere := goodIn_r _ [7, 8, 9, 10, 6, 11, 12, 13, 14, 15, 44, 45, 46, 47, 48, 49, 50, 51, 52, 53, 54, 55, 56, 57, 58, 59, 60, 61, 62, 63, 64, 65, 66, 67, 68, 69, 70, 71, 72, 73, 74, 75, 76, 77, 78, 79, 80, 81, 82, 83, 84, 85, 86, 87, 88, 89] (by decide +kernel) (by decide +kernel)
set_option maxRecDepth 20000 in
theorem gX8_refuser_X8_isThere : GoodIn wsX8_refuser (wsV RX8 123 RX8 yX8_isThere wsX8_isThere) := goodIn_app (goodIn_of _ (by decide +kernel)) ggX8_refuser_X8_isThere
set_option maxRecDepth 20000 in
theorem ggX8_refuser_X8_isHeight : GoodIn wsX8_refuser wsX8_isHeight := goodIn_r _ [18, 19, 13, 14, 6, 15] (by decide +kernel) (by decide +kernel)
set_option maxRecDepth 20000 in
theorem gX8_refuser_X8_isHeight : GoodIn wsX8_refuser (va_wsS RX8 162 yX8_isHeight wsX8_isHeight) := goodIn_app (goodIn_of _ (by decide +kernel)) ggX8_refuser_X8_isHeight
set_option maxRecDepth 20000 in
theorem ggX8_refuser_X8_doesIt : GoodIn wsX8_refuser wsX8_doesIt := goodIn_r _ [23, 24, 25, 26, 27, 6, 28, 29, 30, 31, 32, 33, 34, 35, 36, 37, 38, 39, 40, 41, 42, 43, 44, 45, 46, 47, 48, 49, 50, 51, 52, 53, 54, 55, 56, 57, 58, 59, 60, 61, 62, 63, 64, 65, 66, 67, 68, 69, 70, 71, 72, 73, 74, 75, 76, 77, 78, 79, 80, 81, 82, 83, 84, 85, 86, 87, 88, 89] (by decide +kernel) (by decide +kernel)
set_option maxRecDepth 20000 in
theorem gX8_refuser_X8_doesIt : GoodIn wsX8_refuser (wsV RX8 275 RX8 yX8_doesIt wsX8_doesIt) := goodIn_app (goodIn_of _ (by decide +kernel)) ggX8_refuser_X8_doesIt
theorem dX8_refuser_0 : decode cX8_refuser 0 = .ok (.aload_n 0, 1) := by decide +kernel
theorem dX8_refuser_1 : decode cX8_refuser 1 = .ok (.iload_n 1, 1) := by decide +kernel
theorem dX8_refuser_2 : decode cX8_refuser 2 = .ok (.invokevirtual 123, 3) := by decide +kernel
theorem dX8_refuser_5 : decode cX8_refuser 5 = .ok (.ifCond .ne 5, 3) := by decide +kernel
theorem dX8_refuser_8 : decode cX8_refuser 8 = .ok (.iconst (-1), 1) := by decide +kernel
theorem dX8_refuser_9 : decode cX8_refuser 9 = .ok (.ireturn, 1) := by decide +kernel
theorem dX8_refuser_10 : decode cX8_refuser 10 = .ok (.iload_n 2, 1) := by decide +kernel
theorem dX8_refuser_11 : decode cX8_refuser 11 = .ok (.invokestatic 162, 3) := by decide +kernel
theorem dX8_refuser_14 : decode cX8_refuser 14 = .ok (.ifCond .ne 6, 3) := by decide +kernel
theorem dX8_refuser_17 : decode cX8_refuser 17 = .ok (.bipush (-2), 2) := by decide +kernel
theorem dX8_refuser_19 : decode cX8_refuser 19 = .ok (.ireturn, 1) := by decide +kernel
theorem dX8_refuser_20 : decode cX8_refuser 20 = .ok (.iconst 0, 1) := by decide +kernel
theorem dX8_refuser_21 : decode cX8_refuser 21 = .ok (.istore_n 3, 1) := by decide +kernel
theorem dX8_refuser_22 : decode cX8_refuser 22 = .ok (.iload_n 3, 1) := by decide +kernel
theorem dX8_refuser_23 : decode cX8_refuser 23 = .ok (.bipush 6, 2) := by decide +kernel
theorem dX8_refuser_25 : decode cX8_refuser 25 = .ok (.if_icmp .ge 52, 3) := by decide +kernel
theorem dX8_refuser_28 : decode cX8_refuser 28 = .ok (.aload_n 0, 1) := by decide +kernel
theorem dX8_refuser_29 : decode cX8_refuser 29 = .ok (.iload_n 3, 1) := by decide +kernel
theorem dX8_refuser_30 : decode cX8_refuser 30 = .ok (.invokevirtual 123, 3) := by decide +kernel
theorem dX8_refuser_33 : decode cX8_refuser 33 = .ok (.ifCond .eq 38, 3) := by decide +kernel
theorem dX8_refuser_36 : decode cX8_refuser 36 = .ok (.iload_n 3, 1) := by decide +kernel
theorem dX8_refuser_37 : decode cX8_refuser 37 = .ok (.iload_n 1, 1) := by decide +kernel
theorem dX8_refuser_38 : decode cX8_refuser 38 = .ok (.if_icmp .eq 33, 3) := by decide +kernel
theorem dX8_refuser_41 : decode cX8_refuser 41 = .ok (.aload_n 0, 1) := by decide +kernel
theorem dX8_refuser_42 : decode cX8_refuser 42 = .ok (.getfield 28, 3) := by decide +kernel
theorem dX8_refuser_45 : decode cX8_refuser 45 = .ok (.iload_n 3, 1) := by decide +kernel
theorem dX8_refuser_46 : decode cX8_refuser 46 = .ok (.iaload, 1) := by decide +kernel
theorem dX8_refuser_47 : decode cX8_refuser 47 = .ok (.ifCond .ne 24, 3) := by decide +kernel
theorem dX8_refuser_50 : decode cX8_refuser 50 = .ok (.aload_n 0, 1) := by decide +kernel
theorem dX8_refuser_51 : decode cX8_refuser 51 = .ok (.getfield 22, 3) := by decide +kernel
theorem dX8_refuser_54 : decode cX8_refuser 54 = .ok (.iload_n 3, 1) := by decide +kernel
theorem dX8_refuser_55 : decode cX8_refuser 55 = .ok (.iaload, 1) := by decide +kernel
theorem dX8_refuser_56 : decode cX8_refuser 56 = .ok (.iload_n 2, 1) := by decide +kernel
theorem dX8_refuser_57 : decode cX8_refuser 57 = .ok (.if_icmp .ge 14, 3) := by decide +kernel
theorem dX8_refuser_60 : decode cX8_refuser 60 = .ok (.aload_n 0, 1) := by decide +kernel
theorem dX8_refuser_61 : decode cX8_refuser 61 = .ok (.iload_n 3, 1) := by decide +kernel
theorem dX8_refuser_62 : decode cX8_refuser 62 = .ok (.iload_n 2, 1) := by decide +kernel
theorem dX8_refuser_63 : decode cX8_refuser 63 = .ok (.invokevirtual 275, 3) := by decide +kernel
theorem dX8_refuser_66 : decode cX8_refuser 66 = .ok (.ifCond .ne 5, 3) := by decide +kernel
theorem dX8_refuser_69 : decode cX8_refuser 69 = .ok (.iload_n 3, 1) := by decide +kernel
theorem dX8_refuser_70 : decode cX8_refuser 70 = .ok (.ireturn, 1) := by decide +kernel
theorem dX8_refuser_71 : decode cX8_refuser 71 = .ok (.iinc 3 1, 3) := by decide +kernel
theorem dX8_refuser_74 : decode cX8_refuser 74 = .ok (.goto (-52), 3) := by decide +kernel
theorem dX8_refuser_77 : decode cX8_refuser 77 = .ok (.bipush (-6), 2) := by decide +kernel
theorem dX8_refuser_79 : decode cX8_refuser 79 = .ok (.ireturn, 1) := by decide +kernel
set_option maxRecDepth 20000 in
theorem ggX8_likely_X8_isThere : GoodIn wsX8_likely wsX8_isThere := goodIn_r _ [5, 6, 7, 8, 4, 9, 10, 11, 12, 13, 37, 38, 39, 40, 41, 42, 43, 44, 45, 46, 47, 48, 49, 50, 51, 52, 53, 54, 55, 56, 57, 58, 59, 60, 61, 62, 63, 64, 65, 66, 67, 68, 69, 70, 71, 72, 73, 74, 75, 76, 77, 78, 79, 80, 81, 82] (by decide +kernel) (by decide +kernel)
set_option maxRecDepth 20000 in
theorem gX8_likely_X8_isThere : GoodIn wsX8_likely (wsV RX8 123 RX8 yX8_isThere wsX8_isThere) := goodIn_app (goodIn_of _ (by decide +kernel)) ggX8_likely_X8_isThere
set_option maxRecDepth 20000 in
theorem ggX8_likely_X8_isHeight : GoodIn wsX8_likely wsX8_isHeight := goodIn_r _ [16, 17, 11, 12, 4, 13] (by decide +kernel) (by decide +kernel)
set_option maxRecDepth 20000 in
theorem gX8_likely_X8_isHeight : GoodIn wsX8_likely (va_wsS RX8 162 yX8_isHeight wsX8_isHeight) := goodIn_app (goodIn_of _ (by decide +kernel)) ggX8_likely_X8_isHeight
set_option maxRecDepth 20000 in
theorem ggX8_likely_X8_doesBy : GoodIn wsX8_likely wsX8_doesBy := goodIn_r _ [21, 22, 23, 24, 4, 25, 26, 27, 28, 29, 30, 31, 32, 33, 34, 35, 36, 37, 38, 39, 40, 41, 42, 43, 44, 45, 46, 47, 48, 49, 50, 51, 52, 53, 54, 55, 56, 57, 58, 59, 60, 61, 62, 63, 64, 65, 66, 67, 68, 69, 70, 71, 72, 73, 74, 75, 76, 77, 78, 79, 80, 81, 82] (by decide +kernel) (by decide +kernel)
set_option maxRecDepth 20000 in
theorem gX8_likely_X8_doesBy : GoodIn wsX8_likely (wsV RX8 264 RX8 yX8_doesBy wsX8_doesBy) := goodIn_app (goodIn_of _ (by decide +kernel)) ggX8_likely_X8_doesBy
theorem dX8_likely_0 : decode cX8_likely 0 = .ok (.aload_n 0, 1) := by decide +kernel
theorem dX8_likely_1 : decode cX8_likely 1 = .ok (.iload_n 1, 1) := by decide +kernel
theorem dX8_likely_2 : decode cX8_likely 2 = .ok (.invokevirtual 123, 3) := by decide +kernel
theorem dX8_likely_5 : decode cX8_likely 5 = .ok (.ifCond .ne 5, 3) := by decide +kernel
theorem dX8_likely_8 : decode cX8_likely 8 = .ok (.iconst (-1), 1) := by decide +kernel
theorem dX8_likely_9 : decode cX8_likely 9 = .ok (.ireturn, 1) := by decide +kernel
theorem dX8_likely_10 : decode cX8_likely 10 = .ok (.iload_n 2, 1) := by decide +kernel
theorem dX8_likely_11 : decode cX8_likely 11 = .ok (.invokestatic 162, 3) := by decide +kernel
theorem dX8_likely_14 : decode cX8_likely 14 = .ok (.ifCond .ne 6, 3) := by decide +kernel
theorem dX8_likely_17 : decode cX8_likely 17 = .ok (.bipush (-2), 2) := by decide +kernel
theorem dX8_likely_19 : decode cX8_likely 19 = .ok (.ireturn, 1) := by decide +kernel
theorem dX8_likely_20 : decode cX8_likely 20 = .ok (.iconst 0, 1) := by decide +kernel
theorem dX8_likely_21 : decode cX8_likely 21 = .ok (.istore_n 3, 1) := by decide +kernel
theorem dX8_likely_22 : decode cX8_likely 22 = .ok (.iconst 0, 1) := by decide +kernel
theorem dX8_likely_23 : decode cX8_likely 23 = .ok (.istore 4, 2) := by decide +kernel
theorem dX8_likely_25 : decode cX8_likely 25 = .ok (.iload 4, 2) := by decide +kernel
theorem dX8_likely_27 : decode cX8_likely 27 = .ok (.bipush 10, 2) := by decide +kernel
theorem dX8_likely_29 : decode cX8_likely 29 = .ok (.if_icmp .ge 28, 3) := by decide +kernel
theorem dX8_likely_32 : decode cX8_likely 32 = .ok (.iload_n 3, 1) := by decide +kernel
theorem dX8_likely_33 : decode cX8_likely 33 = .ok (.aload_n 0, 1) := by decide +kernel
theorem dX8_likely_34 : decode cX8_likely 34 = .ok (.iload_n 1, 1) := by decide +kernel
theorem dX8_likely_35 : decode cX8_likely 35 = .ok (.iload 4, 2) := by decide +kernel
theorem dX8_likely_37 : decode cX8_likely 37 = .ok (.iload_n 2, 1) := by decide +kernel
theorem dX8_likely_38 : decode cX8_likely 38 = .ok (.invokevirtual 264, 3) := by decide +kernel
theorem dX8_likely_41 : decode cX8_likely 41 = .ok (.ifCond .eq 7, 3) := by decide +kernel
theorem dX8_likely_44 : decode cX8_likely 44 = .ok (.iconst 1, 1) := by decide +kernel
theorem dX8_likely_45 : decode cX8_likely 45 = .ok (.goto 4, 3) := by decide +kernel
theorem dX8_likely_48 : decode cX8_likely 48 = .ok (.iconst 0, 1) := by decide +kernel
theorem dX8_likely_49 : decode cX8_likely 49 = .ok (.iadd, 1) := by decide +kernel
theorem dX8_likely_50 : decode cX8_likely 50 = .ok (.istore_n 3, 1) := by decide +kernel
theorem dX8_likely_51 : decode cX8_likely 51 = .ok (.iinc 4 1, 3) := by decide +kernel
theorem dX8_likely_54 : decode cX8_likely 54 = .ok (.goto (-29), 3) := by decide +kernel
theorem dX8_likely_57 : decode cX8_likely 57 = .ok (.iload_n 3, 1) := by decide +kernel
theorem dX8_likely_58 : decode cX8_likely 58 = .ok (.ireturn, 1) := by decide +kernel
set_option maxRecDepth 20000 in
theorem ggX8_seen_X8_isThere : GoodIn wsX8_seen wsX8_isThere := goodIn_r _ [9, 10, 11, 12, 8, 13, 14, 15, 16, 17, 22, 23, 24, 25, 26, 27, 28, 29, 30, 31, 32, 33, 34, 35, 36, 37, 38, 39, 40, 41, 42, 43, 44, 45, 46, 47, 48, 49, 50, 51, 52, 53, 54, 55, 56, 57, 58, 59, 60, 61, 62, 63, 64, 65, 66, 67] (by decide +kernel) (by decide +kernel)
set_option maxRecDepth 20000 in
theorem gX8_seen_X8_isThere : GoodIn wsX8_seen (wsV RX8 123 RX8 yX8_isThere wsX8_isThere) := goodIn_app (goodIn_of _ (by decide +kernel)) ggX8_seen_X8_isThere
set_option maxRecDepth 20000 in
theorem ggX8_seen_X8_isHeight : GoodIn wsX8_seen wsX8_isHeight := goodIn_r _ [20, 21, 15, 16, 8, 17] (by decide +kernel) (by decide +kernel)
set_option maxRecDepth 20000 in
theorem gX8_seen_X8_isHeight : GoodIn wsX8_seen (va_wsS RX8 162 yX8_isHeight wsX8_isHeight) := goodIn_app (goodIn_of _ (by decide +kernel)) ggX8_seen_X8_isHeight
set_option maxRecDepth 20000 in
theorem ggX8_seen_X8_in : GoodIn wsX8_seen wsX8_in := goodIn_r _ [17] (by decide +kernel) (by decide +kernel)
set_option maxRecDepth 20000 in
theorem gX8_seen_X8_in : GoodIn wsX8_seen (va_wsS RX8 101 yX8_in wsX8_in) := goodIn_app (goodIn_of _ (by decide +kernel)) ggX8_seen_X8_in
theorem dX8_seen_0 : decode cX8_seen 0 = .ok (.aload_n 0, 1) := by decide +kernel
theorem dX8_seen_1 : decode cX8_seen 1 = .ok (.iload_n 1, 1) := by decide +kernel
theorem dX8_seen_2 : decode cX8_seen 2 = .ok (.invokevirtual 123, 3) := by decide +kernel
theorem dX8_seen_5 : decode cX8_seen 5 = .ok (.ifCond .ne 5, 3) := by decide +kernel
theorem dX8_seen_8 : decode cX8_seen 8 = .ok (.iconst (-1), 1) := by decide +kernel
theorem dX8_seen_9 : decode cX8_seen 9 = .ok (.ireturn, 1) := by decide +kernel
theorem dX8_seen_10 : decode cX8_seen 10 = .ok (.iload_n 2, 1) := by decide +kernel
theorem dX8_seen_11 : decode cX8_seen 11 = .ok (.invokestatic 162, 3) := by decide +kernel
theorem dX8_seen_14 : decode cX8_seen 14 = .ok (.ifCond .eq 13, 3) := by decide +kernel
theorem dX8_seen_17 : decode cX8_seen 17 = .ok (.iload_n 3, 1) := by decide +kernel
theorem dX8_seen_18 : decode cX8_seen 18 = .ok (.i2l, 1) := by decide +kernel
theorem dX8_seen_19 : decode cX8_seen 19 = .ok (.lconst 0, 1) := by decide +kernel
theorem dX8_seen_20 : decode cX8_seen 20 = .ok (.lconst 1, 1) := by decide +kernel
theorem dX8_seen_21 : decode cX8_seen 21 = .ok (.invokestatic 101, 3) := by decide +kernel
theorem dX8_seen_24 : decode cX8_seen 24 = .ok (.ifCond .ne 6, 3) := by decide +kernel
theorem dX8_seen_27 : decode cX8_seen 27 = .ok (.bipush (-2), 2) := by decide +kernel
theorem dX8_seen_29 : decode cX8_seen 29 = .ok (.ireturn, 1) := by decide +kernel
theorem dX8_seen_30 : decode cX8_seen 30 = .ok (.aload_n 0, 1) := by decide +kernel
theorem dX8_seen_31 : decode cX8_seen 31 = .ok (.getfield 322, 3) := by decide +kernel
theorem dX8_seen_34 : decode cX8_seen 34 = .ok (.bipush 6, 2) := by decide +kernel
theorem dX8_seen_36 : decode cX8_seen 36 = .ok (.if_icmp .ne 6, 3) := by decide +kernel
theorem dX8_seen_39 : decode cX8_seen 39 = .ok (.bipush (-4), 2) := by decide +kernel
theorem dX8_seen_41 : decode cX8_seen 41 = .ok (.ireturn, 1) := by decide +kernel
theorem dX8_seen_42 : decode cX8_seen 42 = .ok (.aload_n 0, 1) := by decide +kernel
theorem dX8_seen_43 : decode cX8_seen 43 = .ok (.getfield 31, 3) := by decide +kernel
theorem dX8_seen_46 : decode cX8_seen 46 = .ok (.aload_n 0, 1) := by decide +kernel
theorem dX8_seen_47 : decode cX8_seen 47 = .ok (.getfield 322, 3) := by decide +kernel
theorem dX8_seen_50 : decode cX8_seen 50 = .ok (.iload_n 1, 1) := by decide +kernel
theorem dX8_seen_51 : decode cX8_seen 51 = .ok (.iastore, 1) := by decide +kernel
theorem dX8_seen_52 : decode cX8_seen 52 = .ok (.aload_n 0, 1) := by decide +kernel
theorem dX8_seen_53 : decode cX8_seen 53 = .ok (.getfield 34, 3) := by decide +kernel
theorem dX8_seen_56 : decode cX8_seen 56 = .ok (.aload_n 0, 1) := by decide +kernel
theorem dX8_seen_57 : decode cX8_seen 57 = .ok (.getfield 322, 3) := by decide +kernel
theorem dX8_seen_60 : decode cX8_seen 60 = .ok (.iload_n 2, 1) := by decide +kernel
theorem dX8_seen_61 : decode cX8_seen 61 = .ok (.iastore, 1) := by decide +kernel
theorem dX8_seen_62 : decode cX8_seen 62 = .ok (.aload_n 0, 1) := by decide +kernel
theorem dX8_seen_63 : decode cX8_seen 63 = .ok (.getfield 37, 3) := by decide +kernel
theorem dX8_seen_66 : decode cX8_seen 66 = .ok (.aload_n 0, 1) := by decide +kernel
theorem dX8_seen_67 : decode cX8_seen 67 = .ok (.getfield 322, 3) := by decide +kernel
theorem dX8_seen_70 : decode cX8_seen 70 = .ok (.iload_n 3, 1) := by decide +kernel
theorem dX8_seen_71 : decode cX8_seen 71 = .ok (.iastore, 1) := by decide +kernel
theorem dX8_seen_72 : decode cX8_seen 72 = .ok (.aload_n 0, 1) := by decide +kernel
theorem dX8_seen_73 : decode cX8_seen 73 = .ok (.dup, 1) := by decide +kernel
theorem dX8_seen_74 : decode cX8_seen 74 = .ok (.getfield 322, 3) := by decide +kernel
theorem dX8_seen_77 : decode cX8_seen 77 = .ok (.iconst 1, 1) := by decide +kernel
theorem dX8_seen_78 : decode cX8_seen 78 = .ok (.iadd, 1) := by decide +kernel
theorem dX8_seen_79 : decode cX8_seen 79 = .ok (.putfield 322, 3) := by decide +kernel
theorem dX8_seen_82 : decode cX8_seen 82 = .ok (.aload_n 0, 1) := by decide +kernel
theorem dX8_seen_83 : decode cX8_seen 83 = .ok (.getfield 322, 3) := by decide +kernel
theorem dX8_seen_86 : decode cX8_seen 86 = .ok (.ireturn, 1) := by decide +kernel
theorem dX8_forget_0 : decode cX8_forget 0 = .ok (.aload_n 0, 1) := by decide +kernel
theorem dX8_forget_1 : decode cX8_forget 1 = .ok (.getfield 322, 3) := by decide +kernel
theorem dX8_forget_4 : decode cX8_forget 4 = .ok (.istore_n 1, 1) := by decide +kernel
theorem dX8_forget_5 : decode cX8_forget 5 = .ok (.aload_n 0, 1) := by decide +kernel
theorem dX8_forget_6 : decode cX8_forget 6 = .ok (.iconst 0, 1) := by decide +kernel
theorem dX8_forget_7 : decode cX8_forget 7 = .ok (.putfield 322, 3) := by decide +kernel
theorem dX8_forget_10 : decode cX8_forget 10 = .ok (.iload_n 1, 1) := by decide +kernel
theorem dX8_forget_11 : decode cX8_forget 11 = .ok (.ireturn, 1) := by decide +kernel
set_option maxRecDepth 20000 in
theorem ggX8_holdsAll_X8_doesBy : GoodIn wsX8_holdsAll wsX8_doesBy := goodIn_r _ [9, 10, 11, 12, 8, 13, 14, 15, 16, 17, 18, 19, 20, 21, 22, 23, 24, 25, 26, 27, 28, 29, 30, 31, 32, 33, 34, 35, 36, 37, 38, 39, 40, 41, 42, 43, 44, 45, 46, 47, 48, 49, 50, 51, 52, 53, 54, 55, 56, 57, 58, 59, 60, 61, 62, 63, 64, 65, 66, 67, 68, 69, 70] (by decide +kernel) (by decide +kernel)
set_option maxRecDepth 20000 in
theorem gX8_holdsAll_X8_doesBy : GoodIn wsX8_holdsAll (wsV RX8 264 RX8 yX8_doesBy wsX8_doesBy) := goodIn_app (goodIn_of _ (by decide +kernel)) ggX8_holdsAll_X8_doesBy
theorem dX8_holdsAll_0 : decode cX8_holdsAll 0 = .ok (.iconst 1, 1) := by decide +kernel
theorem dX8_holdsAll_1 : decode cX8_holdsAll 1 = .ok (.istore_n 3, 1) := by decide +kernel
theorem dX8_holdsAll_2 : decode cX8_holdsAll 2 = .ok (.iconst 0, 1) := by decide +kernel
theorem dX8_holdsAll_3 : decode cX8_holdsAll 3 = .ok (.istore 4, 2) := by decide +kernel
theorem dX8_holdsAll_5 : decode cX8_holdsAll 5 = .ok (.iload 4, 2) := by decide +kernel
theorem dX8_holdsAll_7 : decode cX8_holdsAll 7 = .ok (.aload_n 0, 1) := by decide +kernel
theorem dX8_holdsAll_8 : decode cX8_holdsAll 8 = .ok (.getfield 322, 3) := by decide +kernel
theorem dX8_holdsAll_11 : decode cX8_holdsAll 11 = .ok (.if_icmp .ge 61, 3) := by decide +kernel
theorem dX8_holdsAll_14 : decode cX8_holdsAll 14 = .ok (.iload_n 3, 1) := by decide +kernel
theorem dX8_holdsAll_15 : decode cX8_holdsAll 15 = .ok (.ifCond .eq 49, 3) := by decide +kernel
theorem dX8_holdsAll_18 : decode cX8_holdsAll 18 = .ok (.aload_n 0, 1) := by decide +kernel
theorem dX8_holdsAll_19 : decode cX8_holdsAll 19 = .ok (.getfield 31, 3) := by decide +kernel
theorem dX8_holdsAll_22 : decode cX8_holdsAll 22 = .ok (.iload 4, 2) := by decide +kernel
theorem dX8_holdsAll_24 : decode cX8_holdsAll 24 = .ok (.iaload, 1) := by decide +kernel
theorem dX8_holdsAll_25 : decode cX8_holdsAll 25 = .ok (.iload_n 1, 1) := by decide +kernel
theorem dX8_holdsAll_26 : decode cX8_holdsAll 26 = .ok (.if_icmp .ne 34, 3) := by decide +kernel
theorem dX8_holdsAll_29 : decode cX8_holdsAll 29 = .ok (.aload_n 0, 1) := by decide +kernel
theorem dX8_holdsAll_30 : decode cX8_holdsAll 30 = .ok (.iload_n 1, 1) := by decide +kernel
theorem dX8_holdsAll_31 : decode cX8_holdsAll 31 = .ok (.iload_n 2, 1) := by decide +kernel
theorem dX8_holdsAll_32 : decode cX8_holdsAll 32 = .ok (.aload_n 0, 1) := by decide +kernel
theorem dX8_holdsAll_33 : decode cX8_holdsAll 33 = .ok (.getfield 34, 3) := by decide +kernel
theorem dX8_holdsAll_36 : decode cX8_holdsAll 36 = .ok (.iload 4, 2) := by decide +kernel
theorem dX8_holdsAll_38 : decode cX8_holdsAll 38 = .ok (.iaload, 1) := by decide +kernel
theorem dX8_holdsAll_39 : decode cX8_holdsAll 39 = .ok (.invokevirtual 264, 3) := by decide +kernel
theorem dX8_holdsAll_42 : decode cX8_holdsAll 42 = .ok (.ifCond .eq 7, 3) := by decide +kernel
theorem dX8_holdsAll_45 : decode cX8_holdsAll 45 = .ok (.iconst 1, 1) := by decide +kernel
theorem dX8_holdsAll_46 : decode cX8_holdsAll 46 = .ok (.goto 4, 3) := by decide +kernel
theorem dX8_holdsAll_49 : decode cX8_holdsAll 49 = .ok (.iconst 0, 1) := by decide +kernel
theorem dX8_holdsAll_50 : decode cX8_holdsAll 50 = .ok (.aload_n 0, 1) := by decide +kernel
theorem dX8_holdsAll_51 : decode cX8_holdsAll 51 = .ok (.getfield 37, 3) := by decide +kernel
theorem dX8_holdsAll_54 : decode cX8_holdsAll 54 = .ok (.iload 4, 2) := by decide +kernel
theorem dX8_holdsAll_56 : decode cX8_holdsAll 56 = .ok (.iaload, 1) := by decide +kernel
theorem dX8_holdsAll_57 : decode cX8_holdsAll 57 = .ok (.if_icmp .ne 7, 3) := by decide +kernel
theorem dX8_holdsAll_60 : decode cX8_holdsAll 60 = .ok (.iconst 1, 1) := by decide +kernel
theorem dX8_holdsAll_61 : decode cX8_holdsAll 61 = .ok (.goto 4, 3) := by decide +kernel
theorem dX8_holdsAll_64 : decode cX8_holdsAll 64 = .ok (.iconst 0, 1) := by decide +kernel
theorem dX8_holdsAll_65 : decode cX8_holdsAll 65 = .ok (.istore_n 3, 1) := by decide +kernel
theorem dX8_holdsAll_66 : decode cX8_holdsAll 66 = .ok (.iinc 4 1, 3) := by decide +kernel
theorem dX8_holdsAll_69 : decode cX8_holdsAll 69 = .ok (.goto (-64), 3) := by decide +kernel
theorem dX8_holdsAll_72 : decode cX8_holdsAll 72 = .ok (.iload_n 3, 1) := by decide +kernel
theorem dX8_holdsAll_73 : decode cX8_holdsAll 73 = .ok (.ireturn, 1) := by decide +kernel
set_option maxRecDepth 20000 in
theorem ggX8_prides_X8_isThere : GoodIn wsX8_prides wsX8_isThere := goodIn_r _ [6, 7, 8, 9, 5, 10, 11, 12, 13, 14, 42, 43, 44, 45, 46, 47, 48, 49, 50, 51, 52, 53, 54, 55, 56, 57, 58, 59, 60, 61, 62, 63, 64, 65, 66, 67, 68, 69, 70, 71, 72, 73, 74, 75, 76, 77, 78, 79, 80, 81, 82, 83, 84, 85, 86, 87] (by decide +kernel) (by decide +kernel)
set_option maxRecDepth 20000 in
theorem gX8_prides_X8_isThere : GoodIn wsX8_prides (wsV RX8 123 RX8 yX8_isThere wsX8_isThere) := goodIn_app (goodIn_of _ (by decide +kernel)) ggX8_prides_X8_isThere
set_option maxRecDepth 20000 in
theorem ggX8_prides_X8_in : GoodIn wsX8_prides wsX8_in := goodIn_r _ [14] (by decide +kernel) (by decide +kernel)
set_option maxRecDepth 20000 in
theorem gX8_prides_X8_in : GoodIn wsX8_prides (va_wsS RX8 101 yX8_in wsX8_in) := goodIn_app (goodIn_of _ (by decide +kernel)) ggX8_prides_X8_in
set_option maxRecDepth 20000 in
theorem ggX8_prides_X8_holdsAll : GoodIn wsX8_prides wsX8_holdsAll := goodIn_r _ [18, 19, 20, 21, 22, 23, 24, 25, 5, 26, 27, 28, 29, 30, 31, 32, 33, 34, 35, 36, 37, 38, 39, 40, 41, 42, 43, 44, 45, 46, 47, 48, 49, 50, 51, 52, 53, 54, 55, 56, 57, 58, 59, 60, 61, 62, 63, 64, 65, 66, 67, 68, 69, 70, 71, 72, 73, 74, 75, 76, 77, 78, 79, 80, 81, 82, 83, 84, 85, 86, 87] (by decide +kernel) (by decide +kernel)
set_option maxRecDepth 20000 in
theorem gX8_prides_X8_holdsAll : GoodIn wsX8_prides (wsV RX8 325 RX8 yX8_holdsAll wsX8_holdsAll) := goodIn_app (goodIn_of _ (by decide +kernel)) ggX8_prides_X8_holdsAll
theorem dX8_prides_0 : decode cX8_prides 0 = .ok (.aload_n 0, 1) := by decide +kernel
theorem dX8_prides_1 : decode cX8_prides 1 = .ok (.iload_n 1, 1) := by decide +kernel
theorem dX8_prides_2 : decode cX8_prides 2 = .ok (.invokevirtual 123, 3) := by decide +kernel
theorem dX8_prides_5 : decode cX8_prides 5 = .ok (.ifCond .ne 5, 3) := by decide +kernel
theorem dX8_prides_8 : decode cX8_prides 8 = .ok (.iconst (-1), 1) := by decide +kernel
theorem dX8_prides_9 : decode cX8_prides 9 = .ok (.ireturn, 1) := by decide +kernel
theorem dX8_prides_10 : decode cX8_prides 10 = .ok (.iload_n 2, 1) := by decide +kernel
theorem dX8_prides_11 : decode cX8_prides 11 = .ok (.i2l, 1) := by decide +kernel
theorem dX8_prides_12 : decode cX8_prides 12 = .ok (.lconst 0, 1) := by decide +kernel
theorem dX8_prides_13 : decode cX8_prides 13 = .ok (.ldc2_w 231, 3) := by decide +kernel
theorem dX8_prides_16 : decode cX8_prides 16 = .ok (.invokestatic 101, 3) := by decide +kernel
theorem dX8_prides_19 : decode cX8_prides 19 = .ok (.ifCond .ne 6, 3) := by decide +kernel
theorem dX8_prides_22 : decode cX8_prides 22 = .ok (.bipush (-2), 2) := by decide +kernel
theorem dX8_prides_24 : decode cX8_prides 24 = .ok (.ireturn, 1) := by decide +kernel
theorem dX8_prides_25 : decode cX8_prides 25 = .ok (.iconst 0, 1) := by decide +kernel
theorem dX8_prides_26 : decode cX8_prides 26 = .ok (.istore_n 3, 1) := by decide +kernel
theorem dX8_prides_27 : decode cX8_prides 27 = .ok (.bipush (-6), 2) := by decide +kernel
theorem dX8_prides_29 : decode cX8_prides 29 = .ok (.istore 4, 2) := by decide +kernel
theorem dX8_prides_31 : decode cX8_prides 31 = .ok (.bipush (-6), 2) := by decide +kernel
theorem dX8_prides_33 : decode cX8_prides 33 = .ok (.istore 5, 2) := by decide +kernel
theorem dX8_prides_35 : decode cX8_prides 35 = .ok (.iconst 0, 1) := by decide +kernel
theorem dX8_prides_36 : decode cX8_prides 36 = .ok (.istore 6, 2) := by decide +kernel
theorem dX8_prides_38 : decode cX8_prides 38 = .ok (.iload 6, 2) := by decide +kernel
theorem dX8_prides_40 : decode cX8_prides 40 = .ok (.bipush 10, 2) := by decide +kernel
theorem dX8_prides_42 : decode cX8_prides 42 = .ok (.if_icmp .ge 39, 3) := by decide +kernel
theorem dX8_prides_45 : decode cX8_prides 45 = .ok (.aload_n 0, 1) := by decide +kernel
theorem dX8_prides_46 : decode cX8_prides 46 = .ok (.iload_n 1, 1) := by decide +kernel
theorem dX8_prides_47 : decode cX8_prides 47 = .ok (.iload 6, 2) := by decide +kernel
theorem dX8_prides_49 : decode cX8_prides 49 = .ok (.invokevirtual 325, 3) := by decide +kernel
theorem dX8_prides_52 : decode cX8_prides 52 = .ok (.ifCond .eq 23, 3) := by decide +kernel
theorem dX8_prides_55 : decode cX8_prides 55 = .ok (.iload_n 3, 1) := by decide +kernel
theorem dX8_prides_56 : decode cX8_prides 56 = .ok (.ifCond .ne 8, 3) := by decide +kernel
theorem dX8_prides_59 : decode cX8_prides 59 = .ok (.iload 6, 2) := by decide +kernel
theorem dX8_prides_61 : decode cX8_prides 61 = .ok (.goto 5, 3) := by decide +kernel
theorem dX8_prides_64 : decode cX8_prides 64 = .ok (.iload 4, 2) := by decide +kernel
theorem dX8_prides_66 : decode cX8_prides 66 = .ok (.istore 4, 2) := by decide +kernel
theorem dX8_prides_68 : decode cX8_prides 68 = .ok (.iload 6, 2) := by decide +kernel
theorem dX8_prides_70 : decode cX8_prides 70 = .ok (.istore 5, 2) := by decide +kernel
theorem dX8_prides_72 : decode cX8_prides 72 = .ok (.iinc 3 1, 3) := by decide +kernel
theorem dX8_prides_75 : decode cX8_prides 75 = .ok (.iinc 6 1, 3) := by decide +kernel
theorem dX8_prides_78 : decode cX8_prides 78 = .ok (.goto (-40), 3) := by decide +kernel
theorem dX8_prides_81 : decode cX8_prides 81 = .ok (.iload_n 2, 1) := by decide +kernel
theorem dX8_prides_82 : decode cX8_prides 82 = .ok (.ifCond .ne 7, 3) := by decide +kernel
theorem dX8_prides_85 : decode cX8_prides 85 = .ok (.iload_n 3, 1) := by decide +kernel
theorem dX8_prides_86 : decode cX8_prides 86 = .ok (.goto 15, 3) := by decide +kernel
theorem dX8_prides_89 : decode cX8_prides 89 = .ok (.iload_n 2, 1) := by decide +kernel
theorem dX8_prides_90 : decode cX8_prides 90 = .ok (.iconst 1, 1) := by decide +kernel
theorem dX8_prides_91 : decode cX8_prides 91 = .ok (.if_icmp .ne 8, 3) := by decide +kernel
theorem dX8_prides_94 : decode cX8_prides 94 = .ok (.iload 4, 2) := by decide +kernel
theorem dX8_prides_96 : decode cX8_prides 96 = .ok (.goto 5, 3) := by decide +kernel
theorem dX8_prides_99 : decode cX8_prides 99 = .ok (.iload 5, 2) := by decide +kernel
theorem dX8_prides_101 : decode cX8_prides 101 = .ok (.ireturn, 1) := by decide +kernel
set_option maxRecDepth 20000 in
theorem ggX8_year_X8_in : GoodIn wsX8_year wsX8_in := goodIn_r _ [13] (by decide +kernel) (by decide +kernel)
set_option maxRecDepth 20000 in
theorem gX8_year_X8_in : GoodIn wsX8_year (va_wsS RX8 101 yX8_in wsX8_in) := goodIn_app (goodIn_of _ (by decide +kernel)) ggX8_year_X8_in
set_option maxRecDepth 20000 in
theorem ggX8_year_X8_keepNow : GoodIn wsX8_year wsX8_keepNow := goodIn_r _ [17, 18, 7, 19, 9, 20, 21, 22, 23, 82, 83, 84, 85, 86, 87, 88, 89, 90, 91, 92, 93, 94, 95, 96, 97, 98, 99, 100, 101, 102, 103, 104, 105, 106, 107, 108, 109, 110, 111, 112, 113, 114, 115, 116, 117, 118, 119, 120, 121, 122, 123, 124, 125, 126, 127] (by decide +kernel) (by decide +kernel)
set_option maxRecDepth 20000 in
theorem gX8_year_X8_keepNow : GoodIn wsX8_year (wsV RX8 222 RX8 yX8_keepNow wsX8_keepNow) := goodIn_app (goodIn_of _ (by decide +kernel)) ggX8_year_X8_keepNow
set_option maxRecDepth 20000 in
theorem ggX8_year_X8_whyNot : GoodIn wsX8_year wsX8_whyNot := goodIn_r _ [27, 21, 7, 8, 28, 29, 30, 12, 31, 32, 33, 34, 35, 36, 10, 11, 13, 82, 83, 84, 85, 86, 87, 88, 89, 90, 91, 92, 93, 94, 95, 96, 97, 98, 99, 100, 101, 102, 103, 104, 105, 106, 107, 108, 109, 110, 111, 112, 113, 114, 115, 116, 117, 118, 119, 120, 121, 122, 123, 124, 125, 126, 127] (by decide +kernel) (by decide +kernel)
set_option maxRecDepth 20000 in
theorem gX8_year_X8_whyNot : GoodIn wsX8_year (wsV RX8 209 RX8 yX8_whyNot wsX8_whyNot) := goodIn_app (goodIn_of _ (by decide +kernel)) ggX8_year_X8_whyNot
set_option maxRecDepth 20000 in
theorem ggX8_year_X8_doesIt : GoodIn wsX8_year wsX8_doesIt := goodIn_r _ [40, 41, 42, 43, 44, 12, 45, 46, 47, 48, 49, 50, 51, 52, 53, 54, 55, 56, 57, 58, 59, 60, 82, 83, 84, 85, 86, 87, 88, 89, 90, 91, 92, 93, 94, 95, 96, 97, 98, 99, 100, 101, 102, 103, 104, 105, 106, 107, 108, 109, 110, 111, 112, 113, 114, 115, 116, 117, 118, 119, 120, 121, 122, 123, 124, 125, 126, 127] (by decide +kernel) (by decide +kernel)
set_option maxRecDepth 20000 in
theorem gX8_year_X8_doesIt : GoodIn wsX8_year (wsV RX8 275 RX8 yX8_doesIt wsX8_doesIt) := goodIn_app (goodIn_of _ (by decide +kernel)) ggX8_year_X8_doesIt
set_option maxRecDepth 20000 in
theorem ggX8_year_X8_doIt : GoodIn wsX8_year wsX8_doIt := goodIn_r _ [64, 7, 9, 21, 65, 66, 67, 12, 68, 69, 70, 71, 72, 4, 22, 5, 6, 52, 53, 54, 55, 56, 57, 82, 83, 84, 85, 86, 87, 88, 89, 90, 91, 92, 93, 94, 95, 96, 97, 98, 99, 100, 101, 102, 103, 104, 105, 106, 107, 108, 109, 110, 111, 112, 113, 114, 115, 116, 117, 118, 119, 120, 121, 122, 123, 124, 125, 126, 127] (by decide +kernel) (by decide +kernel)
set_option maxRecDepth 20000 in
theorem gX8_year_X8_doIt : GoodIn wsX8_year (wsV RX8 185 RX8 yX8_doIt wsX8_doIt) := goodIn_app (goodIn_of _ (by decide +kernel)) ggX8_year_X8_doIt
set_option maxRecDepth 20000 in
theorem ggX8_year_X8_passNight : GoodIn wsX8_year wsX8_passNight := goodIn_r _ [76, 9, 77, 21, 66, 67, 12, 68, 82, 83, 84, 85, 86, 87, 88, 89, 90, 91, 92, 93, 94, 95, 96, 97, 98, 99, 100, 101, 102, 103, 104, 105, 106, 107, 108, 109, 110, 111, 112, 113, 114, 115, 116, 117, 118, 119, 120, 121, 122, 123, 124, 125, 126, 127] (by decide +kernel) (by decide +kernel)
set_option maxRecDepth 20000 in
theorem gX8_year_X8_passNight : GoodIn wsX8_year (wsV RX8 206 RX8 yX8_passNight wsX8_passNight) := goodIn_app (goodIn_of _ (by decide +kernel)) ggX8_year_X8_passNight
set_option maxRecDepth 20000 in
theorem ggX8_year_X8_putBack : GoodIn wsX8_year wsX8_putBack := goodIn_r _ [81, 7, 18, 9, 19, 21, 20, 23, 22, 82, 83, 84, 85, 86, 87, 88, 89, 90, 91, 92, 93, 94, 95, 96, 97, 98, 99, 100, 101, 102, 103, 104, 105, 106, 107, 108, 109, 110, 111, 112, 113, 114, 115, 116, 117, 118, 119, 120, 121, 122, 123, 124, 125, 126, 127] (by decide +kernel) (by decide +kernel)
set_option maxRecDepth 20000 in
theorem gX8_year_X8_putBack : GoodIn wsX8_year (wsV RX8 228 RX8 yX8_putBack wsX8_putBack) := goodIn_app (goodIn_of _ (by decide +kernel)) ggX8_year_X8_putBack
theorem dX8_year_0 : decode cX8_year 0 = .ok (.iload_n 1, 1) := by decide +kernel
theorem dX8_year_1 : decode cX8_year 1 = .ok (.i2l, 1) := by decide +kernel
theorem dX8_year_2 : decode cX8_year 2 = .ok (.lconst 0, 1) := by decide +kernel
theorem dX8_year_3 : decode cX8_year 3 = .ok (.ldc2_w 130, 3) := by decide +kernel
theorem dX8_year_6 : decode cX8_year 6 = .ok (.invokestatic 101, 3) := by decide +kernel
theorem dX8_year_9 : decode cX8_year 9 = .ok (.ifCond .eq 27, 3) := by decide +kernel
theorem dX8_year_12 : decode cX8_year 12 = .ok (.iload_n 2, 1) := by decide +kernel
theorem dX8_year_13 : decode cX8_year 13 = .ok (.i2l, 1) := by decide +kernel
theorem dX8_year_14 : decode cX8_year 14 = .ok (.lconst 1, 1) := by decide +kernel
theorem dX8_year_15 : decode cX8_year 15 = .ok (.ldc2_w 126, 3) := by decide +kernel
theorem dX8_year_18 : decode cX8_year 18 = .ok (.invokestatic 101, 3) := by decide +kernel
theorem dX8_year_21 : decode cX8_year 21 = .ok (.ifCond .eq 15, 3) := by decide +kernel
theorem dX8_year_24 : decode cX8_year 24 = .ok (.iload_n 3, 1) := by decide +kernel
theorem dX8_year_25 : decode cX8_year 25 = .ok (.i2l, 1) := by decide +kernel
theorem dX8_year_26 : decode cX8_year 26 = .ok (.lconst 0, 1) := by decide +kernel
theorem dX8_year_27 : decode cX8_year 27 = .ok (.ldc2_w 231, 3) := by decide +kernel
theorem dX8_year_30 : decode cX8_year 30 = .ok (.invokestatic 101, 3) := by decide +kernel
theorem dX8_year_33 : decode cX8_year 33 = .ok (.ifCond .ne 6, 3) := by decide +kernel
theorem dX8_year_36 : decode cX8_year 36 = .ok (.bipush (-2), 2) := by decide +kernel
theorem dX8_year_38 : decode cX8_year 38 = .ok (.ireturn, 1) := by decide +kernel
theorem dX8_year_39 : decode cX8_year 39 = .ok (.aload_n 0, 1) := by decide +kernel
theorem dX8_year_40 : decode cX8_year 40 = .ok (.invokevirtual 222, 3) := by decide +kernel
theorem dX8_year_43 : decode cX8_year 43 = .ok (.iload_n 1, 1) := by decide +kernel
theorem dX8_year_44 : decode cX8_year 44 = .ok (.istore 4, 2) := by decide +kernel
theorem dX8_year_46 : decode cX8_year 46 = .ok (.iconst 0, 1) := by decide +kernel
theorem dX8_year_47 : decode cX8_year 47 = .ok (.istore 5, 2) := by decide +kernel
theorem dX8_year_49 : decode cX8_year 49 = .ok (.iconst 0, 1) := by decide +kernel
theorem dX8_year_50 : decode cX8_year 50 = .ok (.istore 6, 2) := by decide +kernel
theorem dX8_year_52 : decode cX8_year 52 = .ok (.iconst 0, 1) := by decide +kernel
theorem dX8_year_53 : decode cX8_year 53 = .ok (.istore 7, 2) := by decide +kernel
theorem dX8_year_55 : decode cX8_year 55 = .ok (.iconst 1, 1) := by decide +kernel
theorem dX8_year_56 : decode cX8_year 56 = .ok (.istore 8, 2) := by decide +kernel
theorem dX8_year_58 : decode cX8_year 58 = .ok (.iload 8, 2) := by decide +kernel
theorem dX8_year_60 : decode cX8_year 60 = .ok (.iload_n 2, 1) := by decide +kernel
theorem dX8_year_61 : decode cX8_year 61 = .ok (.if_icmp .gt 159, 3) := by decide +kernel
theorem dX8_year_64 : decode cX8_year 64 = .ok (.ldc2_w 168, 3) := by decide +kernel
theorem dX8_year_67 : decode cX8_year 67 = .ok (.iload 4, 2) := by decide +kernel
theorem dX8_year_69 : decode cX8_year 69 = .ok (.i2l, 1) := by decide +kernel
theorem dX8_year_70 : decode cX8_year 70 = .ok (.lmul, 1) := by decide +kernel
theorem dX8_year_71 : decode cX8_year 71 = .ok (.ldc2_w 170, 3) := by decide +kernel
theorem dX8_year_74 : decode cX8_year 74 = .ok (.ladd, 1) := by decide +kernel
theorem dX8_year_75 : decode cX8_year 75 = .ok (.ldc2_w 172, 3) := by decide +kernel
theorem dX8_year_78 : decode cX8_year 78 = .ok (.lrem, 1) := by decide +kernel
theorem dX8_year_79 : decode cX8_year 79 = .ok (.l2i, 1) := by decide +kernel
theorem dX8_year_80 : decode cX8_year 80 = .ok (.istore 4, 2) := by decide +kernel
theorem dX8_year_82 : decode cX8_year 82 = .ok (.iload 4, 2) := by decide +kernel
theorem dX8_year_84 : decode cX8_year 84 = .ok (.bipush 6, 2) := by decide +kernel
theorem dX8_year_86 : decode cX8_year 86 = .ok (.irem, 1) := by decide +kernel
theorem dX8_year_87 : decode cX8_year 87 = .ok (.istore 9, 2) := by decide +kernel
theorem dX8_year_89 : decode cX8_year 89 = .ok (.iload 4, 2) := by decide +kernel
theorem dX8_year_91 : decode cX8_year 91 = .ok (.bipush 6, 2) := by decide +kernel
theorem dX8_year_93 : decode cX8_year 93 = .ok (.idiv, 1) := by decide +kernel
theorem dX8_year_94 : decode cX8_year 94 = .ok (.bipush 6, 2) := by decide +kernel
theorem dX8_year_96 : decode cX8_year 96 = .ok (.irem, 1) := by decide +kernel
theorem dX8_year_97 : decode cX8_year 97 = .ok (.istore 10, 2) := by decide +kernel
theorem dX8_year_99 : decode cX8_year 99 = .ok (.aload_n 0, 1) := by decide +kernel
theorem dX8_year_100 : decode cX8_year 100 = .ok (.getfield 22, 3) := by decide +kernel
theorem dX8_year_103 : decode cX8_year 103 = .ok (.iload 9, 2) := by decide +kernel
theorem dX8_year_105 : decode cX8_year 105 = .ok (.iaload, 1) := by decide +kernel
theorem dX8_year_106 : decode cX8_year 106 = .ok (.aload_n 0, 1) := by decide +kernel
theorem dX8_year_107 : decode cX8_year 107 = .ok (.getfield 80, 3) := by decide +kernel
theorem dX8_year_110 : decode cX8_year 110 = .ok (.iadd, 1) := by decide +kernel
theorem dX8_year_111 : decode cX8_year 111 = .ok (.bipush 15, 2) := by decide +kernel
theorem dX8_year_113 : decode cX8_year 113 = .ok (.if_icmp .ge 18, 3) := by decide +kernel
theorem dX8_year_116 : decode cX8_year 116 = .ok (.aload_n 0, 1) := by decide +kernel
theorem dX8_year_117 : decode cX8_year 117 = .ok (.getfield 22, 3) := by decide +kernel
theorem dX8_year_120 : decode cX8_year 120 = .ok (.iload 9, 2) := by decide +kernel
theorem dX8_year_122 : decode cX8_year 122 = .ok (.iaload, 1) := by decide +kernel
theorem dX8_year_123 : decode cX8_year 123 = .ok (.aload_n 0, 1) := by decide +kernel
theorem dX8_year_124 : decode cX8_year 124 = .ok (.getfield 80, 3) := by decide +kernel
theorem dX8_year_127 : decode cX8_year 127 = .ok (.iadd, 1) := by decide +kernel
theorem dX8_year_128 : decode cX8_year 128 = .ok (.goto 5, 3) := by decide +kernel
theorem dX8_year_131 : decode cX8_year 131 = .ok (.bipush 15, 2) := by decide +kernel
theorem dX8_year_133 : decode cX8_year 133 = .ok (.istore 11, 2) := by decide +kernel
theorem dX8_year_135 : decode cX8_year 135 = .ok (.aload_n 0, 1) := by decide +kernel
theorem dX8_year_136 : decode cX8_year 136 = .ok (.iload 9, 2) := by decide +kernel
theorem dX8_year_138 : decode cX8_year 138 = .ok (.iload 10, 2) := by decide +kernel
theorem dX8_year_140 : decode cX8_year 140 = .ok (.iload 11, 2) := by decide +kernel
theorem dX8_year_142 : decode cX8_year 142 = .ok (.invokevirtual 209, 3) := by decide +kernel
theorem dX8_year_145 : decode cX8_year 145 = .ok (.ifCond .ne 58, 3) := by decide +kernel
theorem dX8_year_148 : decode cX8_year 148 = .ok (.aload_n 0, 1) := by decide +kernel
theorem dX8_year_149 : decode cX8_year 149 = .ok (.iload 10, 2) := by decide +kernel
theorem dX8_year_151 : decode cX8_year 151 = .ok (.iload 11, 2) := by decide +kernel
theorem dX8_year_153 : decode cX8_year 153 = .ok (.invokevirtual 275, 3) := by decide +kernel
theorem dX8_year_156 : decode cX8_year 156 = .ok (.ifCond .eq 30, 3) := by decide +kernel
theorem dX8_year_159 : decode cX8_year 159 = .ok (.iinc 5 1, 3) := by decide +kernel
theorem dX8_year_162 : decode cX8_year 162 = .ok (.iload 7, 2) := by decide +kernel
theorem dX8_year_164 : decode cX8_year 164 = .ok (.aload_n 0, 1) := by decide +kernel
theorem dX8_year_165 : decode cX8_year 165 = .ok (.iload 10, 2) := by decide +kernel
theorem dX8_year_167 : decode cX8_year 167 = .ok (.iload 11, 2) := by decide +kernel
theorem dX8_year_169 : decode cX8_year 169 = .ok (.invokevirtual 185, 3) := by decide +kernel
theorem dX8_year_172 : decode cX8_year 172 = .ok (.ifCond .eq 7, 3) := by decide +kernel
theorem dX8_year_175 : decode cX8_year 175 = .ok (.iconst 0, 1) := by decide +kernel
theorem dX8_year_176 : decode cX8_year 176 = .ok (.goto 4, 3) := by decide +kernel
theorem dX8_year_179 : decode cX8_year 179 = .ok (.iconst 1, 1) := by decide +kernel
theorem dX8_year_180 : decode cX8_year 180 = .ok (.iadd, 1) := by decide +kernel
theorem dX8_year_181 : decode cX8_year 181 = .ok (.istore 7, 2) := by decide +kernel
theorem dX8_year_183 : decode cX8_year 183 = .ok (.goto 20, 3) := by decide +kernel
theorem dX8_year_186 : decode cX8_year 186 = .ok (.aload_n 0, 1) := by decide +kernel
theorem dX8_year_187 : decode cX8_year 187 = .ok (.getfield 25, 3) := by decide +kernel
theorem dX8_year_190 : decode cX8_year 190 = .ok (.iload 10, 2) := by decide +kernel
theorem dX8_year_192 : decode cX8_year 192 = .ok (.dup2, 1) := by decide +kernel
theorem dX8_year_193 : decode cX8_year 193 = .ok (.iaload, 1) := by decide +kernel
theorem dX8_year_194 : decode cX8_year 194 = .ok (.iload 11, 2) := by decide +kernel
theorem dX8_year_196 : decode cX8_year 196 = .ok (.iconst 2, 1) := by decide +kernel
theorem dX8_year_197 : decode cX8_year 197 = .ok (.idiv, 1) := by decide +kernel
theorem dX8_year_198 : decode cX8_year 198 = .ok (.isub, 1) := by decide +kernel
theorem dX8_year_199 : decode cX8_year 199 = .ok (.iastore, 1) := by decide +kernel
theorem dX8_year_200 : decode cX8_year 200 = .ok (.iinc 6 1, 3) := by decide +kernel
theorem dX8_year_203 : decode cX8_year 203 = .ok (.iload 8, 2) := by decide +kernel
theorem dX8_year_205 : decode cX8_year 205 = .ok (.iconst 3, 1) := by decide +kernel
theorem dX8_year_206 : decode cX8_year 206 = .ok (.irem, 1) := by decide +kernel
theorem dX8_year_207 : decode cX8_year 207 = .ok (.ifCond .ne 7, 3) := by decide +kernel
theorem dX8_year_210 : decode cX8_year 210 = .ok (.aload_n 0, 1) := by decide +kernel
theorem dX8_year_211 : decode cX8_year 211 = .ok (.invokevirtual 206, 3) := by decide +kernel
theorem dX8_year_214 : decode cX8_year 214 = .ok (.iinc 8 1, 3) := by decide +kernel
theorem dX8_year_217 : decode cX8_year 217 = .ok (.goto (-159), 3) := by decide +kernel
theorem dX8_year_220 : decode cX8_year 220 = .ok (.aload_n 0, 1) := by decide +kernel
theorem dX8_year_221 : decode cX8_year 221 = .ok (.invokevirtual 228, 3) := by decide +kernel
theorem dX8_year_224 : decode cX8_year 224 = .ok (.iload_n 3, 1) := by decide +kernel
theorem dX8_year_225 : decode cX8_year 225 = .ok (.ifCond .ne 8, 3) := by decide +kernel
theorem dX8_year_228 : decode cX8_year 228 = .ok (.iload 5, 2) := by decide +kernel
theorem dX8_year_230 : decode cX8_year 230 = .ok (.goto 15, 3) := by decide +kernel
theorem dX8_year_233 : decode cX8_year 233 = .ok (.iload_n 3, 1) := by decide +kernel
theorem dX8_year_234 : decode cX8_year 234 = .ok (.iconst 1, 1) := by decide +kernel
theorem dX8_year_235 : decode cX8_year 235 = .ok (.if_icmp .ne 8, 3) := by decide +kernel
theorem dX8_year_238 : decode cX8_year 238 = .ok (.iload 6, 2) := by decide +kernel
theorem dX8_year_240 : decode cX8_year 240 = .ok (.goto 5, 3) := by decide +kernel
theorem dX8_year_243 : decode cX8_year 243 = .ok (.iload 7, 2) := by decide +kernel
theorem dX8_year_245 : decode cX8_year 245 = .ok (.ireturn, 1) := by decide +kernel
theorem dX8_pass_0 : decode cX8_pass 0 = .ok (.aload_n 0, 1) := by decide +kernel
theorem dX8_pass_1 : decode cX8_pass 1 = .ok (.getfield 328, 3) := by decide +kernel
theorem dX8_pass_4 : decode cX8_pass 4 = .ok (.ifCond .eq 7, 3) := by decide +kernel
theorem dX8_pass_7 : decode cX8_pass 7 = .ok (.iload_n 1, 1) := by decide +kernel
theorem dX8_pass_8 : decode cX8_pass 8 = .ok (.goto 12, 3) := by decide +kernel
theorem dX8_pass_11 : decode cX8_pass 11 = .ok (.aload_n 0, 1) := by decide +kernel
theorem dX8_pass_12 : decode cX8_pass 12 = .ok (.getfield 73, 3) := by decide +kernel
theorem dX8_pass_15 : decode cX8_pass 15 = .ok (.aload_n 0, 1) := by decide +kernel
theorem dX8_pass_16 : decode cX8_pass 16 = .ok (.getfield 332, 3) := by decide +kernel
theorem dX8_pass_19 : decode cX8_pass 19 = .ok (.iaload, 1) := by decide +kernel
theorem dX8_pass_20 : decode cX8_pass 20 = .ok (.istore_n 2, 1) := by decide +kernel
theorem dX8_pass_21 : decode cX8_pass 21 = .ok (.aload_n 0, 1) := by decide +kernel
theorem dX8_pass_22 : decode cX8_pass 22 = .ok (.getfield 73, 3) := by decide +kernel
theorem dX8_pass_25 : decode cX8_pass 25 = .ok (.aload_n 0, 1) := by decide +kernel
theorem dX8_pass_26 : decode cX8_pass 26 = .ok (.getfield 332, 3) := by decide +kernel
theorem dX8_pass_29 : decode cX8_pass 29 = .ok (.iload_n 2, 1) := by decide +kernel
theorem dX8_pass_30 : decode cX8_pass 30 = .ok (.iastore, 1) := by decide +kernel
theorem dX8_pass_31 : decode cX8_pass 31 = .ok (.aload_n 0, 1) := by decide +kernel
theorem dX8_pass_32 : decode cX8_pass 32 = .ok (.dup, 1) := by decide +kernel
theorem dX8_pass_33 : decode cX8_pass 33 = .ok (.getfield 332, 3) := by decide +kernel
theorem dX8_pass_36 : decode cX8_pass 36 = .ok (.iconst 1, 1) := by decide +kernel
theorem dX8_pass_37 : decode cX8_pass 37 = .ok (.iadd, 1) := by decide +kernel
theorem dX8_pass_38 : decode cX8_pass 38 = .ok (.putfield 332, 3) := by decide +kernel
theorem dX8_pass_41 : decode cX8_pass 41 = .ok (.iload_n 2, 1) := by decide +kernel
theorem dX8_pass_42 : decode cX8_pass 42 = .ok (.ireturn, 1) := by decide +kernel
set_option maxRecDepth 20000 in
theorem ggX8_passAll_X8_pass : GoodIn wsX8_passAll wsX8_pass := goodIn_r _ [24, 25, 26, 27, 28, 29, 30, 31, 32, 33, 34, 35, 36, 37, 38, 39, 40, 41, 42, 43, 44, 45, 46, 47, 48, 49, 50, 51, 52, 53, 54, 55, 56, 57, 58, 59, 60, 61, 62, 63, 64, 65, 66, 67, 68, 69, 70, 71, 72, 73] (by decide +kernel) (by decide +kernel)
set_option maxRecDepth 20000 in
theorem gX8_passAll_X8_pass : GoodIn wsX8_passAll (wsV RX8 335 RX8 yX8_pass wsX8_pass) := goodIn_app (goodIn_of _ (by decide +kernel)) ggX8_passAll_X8_pass
theorem dX8_passAll_0 : decode cX8_passAll 0 = .ok (.aload_n 0, 1) := by decide +kernel
theorem dX8_passAll_1 : decode cX8_passAll 1 = .ok (.aload_n 0, 1) := by decide +kernel
theorem dX8_passAll_2 : decode cX8_passAll 2 = .ok (.aload_n 0, 1) := by decide +kernel
theorem dX8_passAll_3 : decode cX8_passAll 3 = .ok (.getfield 109, 3) := by decide +kernel
theorem dX8_passAll_6 : decode cX8_passAll 6 = .ok (.invokevirtual 335, 3) := by decide +kernel
theorem dX8_passAll_9 : decode cX8_passAll 9 = .ok (.putfield 109, 3) := by decide +kernel
theorem dX8_passAll_12 : decode cX8_passAll 12 = .ok (.aload_n 0, 1) := by decide +kernel
theorem dX8_passAll_13 : decode cX8_passAll 13 = .ok (.aload_n 0, 1) := by decide +kernel
theorem dX8_passAll_14 : decode cX8_passAll 14 = .ok (.aload_n 0, 1) := by decide +kernel
theorem dX8_passAll_15 : decode cX8_passAll 15 = .ok (.getfield 80, 3) := by decide +kernel
theorem dX8_passAll_18 : decode cX8_passAll 18 = .ok (.invokevirtual 335, 3) := by decide +kernel
theorem dX8_passAll_21 : decode cX8_passAll 21 = .ok (.putfield 80, 3) := by decide +kernel
theorem dX8_passAll_24 : decode cX8_passAll 24 = .ok (.aload_n 0, 1) := by decide +kernel
theorem dX8_passAll_25 : decode cX8_passAll 25 = .ok (.aload_n 0, 1) := by decide +kernel
theorem dX8_passAll_26 : decode cX8_passAll 26 = .ok (.aload_n 0, 1) := by decide +kernel
theorem dX8_passAll_27 : decode cX8_passAll 27 = .ok (.getfield 84, 3) := by decide +kernel
theorem dX8_passAll_30 : decode cX8_passAll 30 = .ok (.invokevirtual 335, 3) := by decide +kernel
theorem dX8_passAll_33 : decode cX8_passAll 33 = .ok (.putfield 84, 3) := by decide +kernel
theorem dX8_passAll_36 : decode cX8_passAll 36 = .ok (.aload_n 0, 1) := by decide +kernel
theorem dX8_passAll_37 : decode cX8_passAll 37 = .ok (.aload_n 0, 1) := by decide +kernel
theorem dX8_passAll_38 : decode cX8_passAll 38 = .ok (.aload_n 0, 1) := by decide +kernel
theorem dX8_passAll_39 : decode cX8_passAll 39 = .ok (.getfield 87, 3) := by decide +kernel
theorem dX8_passAll_42 : decode cX8_passAll 42 = .ok (.invokevirtual 335, 3) := by decide +kernel
theorem dX8_passAll_45 : decode cX8_passAll 45 = .ok (.putfield 87, 3) := by decide +kernel
theorem dX8_passAll_48 : decode cX8_passAll 48 = .ok (.aload_n 0, 1) := by decide +kernel
theorem dX8_passAll_49 : decode cX8_passAll 49 = .ok (.aload_n 0, 1) := by decide +kernel
theorem dX8_passAll_50 : decode cX8_passAll 50 = .ok (.aload_n 0, 1) := by decide +kernel
theorem dX8_passAll_51 : decode cX8_passAll 51 = .ok (.getfield 90, 3) := by decide +kernel
theorem dX8_passAll_54 : decode cX8_passAll 54 = .ok (.invokevirtual 335, 3) := by decide +kernel
theorem dX8_passAll_57 : decode cX8_passAll 57 = .ok (.putfield 90, 3) := by decide +kernel
theorem dX8_passAll_60 : decode cX8_passAll 60 = .ok (.aload_n 0, 1) := by decide +kernel
theorem dX8_passAll_61 : decode cX8_passAll 61 = .ok (.aload_n 0, 1) := by decide +kernel
theorem dX8_passAll_62 : decode cX8_passAll 62 = .ok (.aload_n 0, 1) := by decide +kernel
theorem dX8_passAll_63 : decode cX8_passAll 63 = .ok (.getfield 93, 3) := by decide +kernel
theorem dX8_passAll_66 : decode cX8_passAll 66 = .ok (.invokevirtual 335, 3) := by decide +kernel
theorem dX8_passAll_69 : decode cX8_passAll 69 = .ok (.putfield 93, 3) := by decide +kernel
theorem dX8_passAll_72 : decode cX8_passAll 72 = .ok (.aload_n 0, 1) := by decide +kernel
theorem dX8_passAll_73 : decode cX8_passAll 73 = .ok (.aload_n 0, 1) := by decide +kernel
theorem dX8_passAll_74 : decode cX8_passAll 74 = .ok (.aload_n 0, 1) := by decide +kernel
theorem dX8_passAll_75 : decode cX8_passAll 75 = .ok (.getfield 132, 3) := by decide +kernel
theorem dX8_passAll_78 : decode cX8_passAll 78 = .ok (.invokevirtual 335, 3) := by decide +kernel
theorem dX8_passAll_81 : decode cX8_passAll 81 = .ok (.putfield 132, 3) := by decide +kernel
theorem dX8_passAll_84 : decode cX8_passAll 84 = .ok (.aload_n 0, 1) := by decide +kernel
theorem dX8_passAll_85 : decode cX8_passAll 85 = .ok (.aload_n 0, 1) := by decide +kernel
theorem dX8_passAll_86 : decode cX8_passAll 86 = .ok (.aload_n 0, 1) := by decide +kernel
theorem dX8_passAll_87 : decode cX8_passAll 87 = .ok (.getfield 96, 3) := by decide +kernel
theorem dX8_passAll_90 : decode cX8_passAll 90 = .ok (.invokevirtual 335, 3) := by decide +kernel
theorem dX8_passAll_93 : decode cX8_passAll 93 = .ok (.putfield 96, 3) := by decide +kernel
theorem dX8_passAll_96 : decode cX8_passAll 96 = .ok (.aload_n 0, 1) := by decide +kernel
theorem dX8_passAll_97 : decode cX8_passAll 97 = .ok (.aload_n 0, 1) := by decide +kernel
theorem dX8_passAll_98 : decode cX8_passAll 98 = .ok (.aload_n 0, 1) := by decide +kernel
theorem dX8_passAll_99 : decode cX8_passAll 99 = .ok (.getfield 322, 3) := by decide +kernel
theorem dX8_passAll_102 : decode cX8_passAll 102 = .ok (.invokevirtual 335, 3) := by decide +kernel
theorem dX8_passAll_105 : decode cX8_passAll 105 = .ok (.putfield 322, 3) := by decide +kernel
theorem dX8_passAll_108 : decode cX8_passAll 108 = .ok (.iconst 0, 1) := by decide +kernel
theorem dX8_passAll_109 : decode cX8_passAll 109 = .ok (.istore_n 1, 1) := by decide +kernel
theorem dX8_passAll_110 : decode cX8_passAll 110 = .ok (.iload_n 1, 1) := by decide +kernel
theorem dX8_passAll_111 : decode cX8_passAll 111 = .ok (.bipush 6, 2) := by decide +kernel
theorem dX8_passAll_113 : decode cX8_passAll 113 = .ok (.if_icmp .ge 169, 3) := by decide +kernel
theorem dX8_passAll_116 : decode cX8_passAll 116 = .ok (.aload_n 0, 1) := by decide +kernel
theorem dX8_passAll_117 : decode cX8_passAll 117 = .ok (.getfield 7, 3) := by decide +kernel
theorem dX8_passAll_120 : decode cX8_passAll 120 = .ok (.iload_n 1, 1) := by decide +kernel
theorem dX8_passAll_121 : decode cX8_passAll 121 = .ok (.aload_n 0, 1) := by decide +kernel
theorem dX8_passAll_122 : decode cX8_passAll 122 = .ok (.aload_n 0, 1) := by decide +kernel
theorem dX8_passAll_123 : decode cX8_passAll 123 = .ok (.getfield 7, 3) := by decide +kernel
theorem dX8_passAll_126 : decode cX8_passAll 126 = .ok (.iload_n 1, 1) := by decide +kernel
theorem dX8_passAll_127 : decode cX8_passAll 127 = .ok (.iaload, 1) := by decide +kernel
theorem dX8_passAll_128 : decode cX8_passAll 128 = .ok (.invokevirtual 335, 3) := by decide +kernel
theorem dX8_passAll_131 : decode cX8_passAll 131 = .ok (.iastore, 1) := by decide +kernel
theorem dX8_passAll_132 : decode cX8_passAll 132 = .ok (.aload_n 0, 1) := by decide +kernel
theorem dX8_passAll_133 : decode cX8_passAll 133 = .ok (.getfield 13, 3) := by decide +kernel
theorem dX8_passAll_136 : decode cX8_passAll 136 = .ok (.iload_n 1, 1) := by decide +kernel
theorem dX8_passAll_137 : decode cX8_passAll 137 = .ok (.aload_n 0, 1) := by decide +kernel
theorem dX8_passAll_138 : decode cX8_passAll 138 = .ok (.aload_n 0, 1) := by decide +kernel
theorem dX8_passAll_139 : decode cX8_passAll 139 = .ok (.getfield 13, 3) := by decide +kernel
theorem dX8_passAll_142 : decode cX8_passAll 142 = .ok (.iload_n 1, 1) := by decide +kernel
theorem dX8_passAll_143 : decode cX8_passAll 143 = .ok (.iaload, 1) := by decide +kernel
theorem dX8_passAll_144 : decode cX8_passAll 144 = .ok (.invokevirtual 335, 3) := by decide +kernel
theorem dX8_passAll_147 : decode cX8_passAll 147 = .ok (.iastore, 1) := by decide +kernel
theorem dX8_passAll_148 : decode cX8_passAll 148 = .ok (.aload_n 0, 1) := by decide +kernel
theorem dX8_passAll_149 : decode cX8_passAll 149 = .ok (.getfield 16, 3) := by decide +kernel
theorem dX8_passAll_152 : decode cX8_passAll 152 = .ok (.iload_n 1, 1) := by decide +kernel
theorem dX8_passAll_153 : decode cX8_passAll 153 = .ok (.aload_n 0, 1) := by decide +kernel
theorem dX8_passAll_154 : decode cX8_passAll 154 = .ok (.aload_n 0, 1) := by decide +kernel
theorem dX8_passAll_155 : decode cX8_passAll 155 = .ok (.getfield 16, 3) := by decide +kernel
theorem dX8_passAll_158 : decode cX8_passAll 158 = .ok (.iload_n 1, 1) := by decide +kernel
theorem dX8_passAll_159 : decode cX8_passAll 159 = .ok (.iaload, 1) := by decide +kernel
theorem dX8_passAll_160 : decode cX8_passAll 160 = .ok (.invokevirtual 335, 3) := by decide +kernel
theorem dX8_passAll_163 : decode cX8_passAll 163 = .ok (.iastore, 1) := by decide +kernel
theorem dX8_passAll_164 : decode cX8_passAll 164 = .ok (.aload_n 0, 1) := by decide +kernel
theorem dX8_passAll_165 : decode cX8_passAll 165 = .ok (.getfield 19, 3) := by decide +kernel
theorem dX8_passAll_168 : decode cX8_passAll 168 = .ok (.iload_n 1, 1) := by decide +kernel
theorem dX8_passAll_169 : decode cX8_passAll 169 = .ok (.aload_n 0, 1) := by decide +kernel
theorem dX8_passAll_170 : decode cX8_passAll 170 = .ok (.aload_n 0, 1) := by decide +kernel
theorem dX8_passAll_171 : decode cX8_passAll 171 = .ok (.getfield 19, 3) := by decide +kernel
theorem dX8_passAll_174 : decode cX8_passAll 174 = .ok (.iload_n 1, 1) := by decide +kernel
theorem dX8_passAll_175 : decode cX8_passAll 175 = .ok (.iaload, 1) := by decide +kernel
theorem dX8_passAll_176 : decode cX8_passAll 176 = .ok (.invokevirtual 335, 3) := by decide +kernel
theorem dX8_passAll_179 : decode cX8_passAll 179 = .ok (.iastore, 1) := by decide +kernel
theorem dX8_passAll_180 : decode cX8_passAll 180 = .ok (.aload_n 0, 1) := by decide +kernel
theorem dX8_passAll_181 : decode cX8_passAll 181 = .ok (.getfield 22, 3) := by decide +kernel
theorem dX8_passAll_184 : decode cX8_passAll 184 = .ok (.iload_n 1, 1) := by decide +kernel
theorem dX8_passAll_185 : decode cX8_passAll 185 = .ok (.aload_n 0, 1) := by decide +kernel
theorem dX8_passAll_186 : decode cX8_passAll 186 = .ok (.aload_n 0, 1) := by decide +kernel
theorem dX8_passAll_187 : decode cX8_passAll 187 = .ok (.getfield 22, 3) := by decide +kernel
theorem dX8_passAll_190 : decode cX8_passAll 190 = .ok (.iload_n 1, 1) := by decide +kernel
theorem dX8_passAll_191 : decode cX8_passAll 191 = .ok (.iaload, 1) := by decide +kernel
theorem dX8_passAll_192 : decode cX8_passAll 192 = .ok (.invokevirtual 335, 3) := by decide +kernel
theorem dX8_passAll_195 : decode cX8_passAll 195 = .ok (.iastore, 1) := by decide +kernel
theorem dX8_passAll_196 : decode cX8_passAll 196 = .ok (.aload_n 0, 1) := by decide +kernel
theorem dX8_passAll_197 : decode cX8_passAll 197 = .ok (.getfield 25, 3) := by decide +kernel
theorem dX8_passAll_200 : decode cX8_passAll 200 = .ok (.iload_n 1, 1) := by decide +kernel
theorem dX8_passAll_201 : decode cX8_passAll 201 = .ok (.aload_n 0, 1) := by decide +kernel
theorem dX8_passAll_202 : decode cX8_passAll 202 = .ok (.aload_n 0, 1) := by decide +kernel
theorem dX8_passAll_203 : decode cX8_passAll 203 = .ok (.getfield 25, 3) := by decide +kernel
theorem dX8_passAll_206 : decode cX8_passAll 206 = .ok (.iload_n 1, 1) := by decide +kernel
theorem dX8_passAll_207 : decode cX8_passAll 207 = .ok (.iaload, 1) := by decide +kernel
theorem dX8_passAll_208 : decode cX8_passAll 208 = .ok (.invokevirtual 335, 3) := by decide +kernel
theorem dX8_passAll_211 : decode cX8_passAll 211 = .ok (.iastore, 1) := by decide +kernel
theorem dX8_passAll_212 : decode cX8_passAll 212 = .ok (.aload_n 0, 1) := by decide +kernel
theorem dX8_passAll_213 : decode cX8_passAll 213 = .ok (.getfield 28, 3) := by decide +kernel
theorem dX8_passAll_216 : decode cX8_passAll 216 = .ok (.iload_n 1, 1) := by decide +kernel
theorem dX8_passAll_217 : decode cX8_passAll 217 = .ok (.aload_n 0, 1) := by decide +kernel
theorem dX8_passAll_218 : decode cX8_passAll 218 = .ok (.aload_n 0, 1) := by decide +kernel
theorem dX8_passAll_219 : decode cX8_passAll 219 = .ok (.getfield 28, 3) := by decide +kernel
theorem dX8_passAll_222 : decode cX8_passAll 222 = .ok (.iload_n 1, 1) := by decide +kernel
theorem dX8_passAll_223 : decode cX8_passAll 223 = .ok (.iaload, 1) := by decide +kernel
theorem dX8_passAll_224 : decode cX8_passAll 224 = .ok (.invokevirtual 335, 3) := by decide +kernel
theorem dX8_passAll_227 : decode cX8_passAll 227 = .ok (.iastore, 1) := by decide +kernel
theorem dX8_passAll_228 : decode cX8_passAll 228 = .ok (.aload_n 0, 1) := by decide +kernel
theorem dX8_passAll_229 : decode cX8_passAll 229 = .ok (.getfield 31, 3) := by decide +kernel
theorem dX8_passAll_232 : decode cX8_passAll 232 = .ok (.iload_n 1, 1) := by decide +kernel
theorem dX8_passAll_233 : decode cX8_passAll 233 = .ok (.aload_n 0, 1) := by decide +kernel
theorem dX8_passAll_234 : decode cX8_passAll 234 = .ok (.aload_n 0, 1) := by decide +kernel
theorem dX8_passAll_235 : decode cX8_passAll 235 = .ok (.getfield 31, 3) := by decide +kernel
theorem dX8_passAll_238 : decode cX8_passAll 238 = .ok (.iload_n 1, 1) := by decide +kernel
theorem dX8_passAll_239 : decode cX8_passAll 239 = .ok (.iaload, 1) := by decide +kernel
theorem dX8_passAll_240 : decode cX8_passAll 240 = .ok (.invokevirtual 335, 3) := by decide +kernel
theorem dX8_passAll_243 : decode cX8_passAll 243 = .ok (.iastore, 1) := by decide +kernel
theorem dX8_passAll_244 : decode cX8_passAll 244 = .ok (.aload_n 0, 1) := by decide +kernel
theorem dX8_passAll_245 : decode cX8_passAll 245 = .ok (.getfield 34, 3) := by decide +kernel
theorem dX8_passAll_248 : decode cX8_passAll 248 = .ok (.iload_n 1, 1) := by decide +kernel
theorem dX8_passAll_249 : decode cX8_passAll 249 = .ok (.aload_n 0, 1) := by decide +kernel
theorem dX8_passAll_250 : decode cX8_passAll 250 = .ok (.aload_n 0, 1) := by decide +kernel
theorem dX8_passAll_251 : decode cX8_passAll 251 = .ok (.getfield 34, 3) := by decide +kernel
theorem dX8_passAll_254 : decode cX8_passAll 254 = .ok (.iload_n 1, 1) := by decide +kernel
theorem dX8_passAll_255 : decode cX8_passAll 255 = .ok (.iaload, 1) := by decide +kernel
theorem dX8_passAll_256 : decode cX8_passAll 256 = .ok (.invokevirtual 335, 3) := by decide +kernel
theorem dX8_passAll_259 : decode cX8_passAll 259 = .ok (.iastore, 1) := by decide +kernel
theorem dX8_passAll_260 : decode cX8_passAll 260 = .ok (.aload_n 0, 1) := by decide +kernel
theorem dX8_passAll_261 : decode cX8_passAll 261 = .ok (.getfield 37, 3) := by decide +kernel
theorem dX8_passAll_264 : decode cX8_passAll 264 = .ok (.iload_n 1, 1) := by decide +kernel
theorem dX8_passAll_265 : decode cX8_passAll 265 = .ok (.aload_n 0, 1) := by decide +kernel
theorem dX8_passAll_266 : decode cX8_passAll 266 = .ok (.aload_n 0, 1) := by decide +kernel
theorem dX8_passAll_267 : decode cX8_passAll 267 = .ok (.getfield 37, 3) := by decide +kernel
theorem dX8_passAll_270 : decode cX8_passAll 270 = .ok (.iload_n 1, 1) := by decide +kernel
theorem dX8_passAll_271 : decode cX8_passAll 271 = .ok (.iaload, 1) := by decide +kernel
theorem dX8_passAll_272 : decode cX8_passAll 272 = .ok (.invokevirtual 335, 3) := by decide +kernel
theorem dX8_passAll_275 : decode cX8_passAll 275 = .ok (.iastore, 1) := by decide +kernel
theorem dX8_passAll_276 : decode cX8_passAll 276 = .ok (.iinc 1 1, 3) := by decide +kernel
theorem dX8_passAll_279 : decode cX8_passAll 279 = .ok (.goto (-169), 3) := by decide +kernel
theorem dX8_passAll_282 : decode cX8_passAll 282 = .ok (.return_, 1) := by decide +kernel
set_option maxRecDepth 20000 in
theorem ggX8_image_X8_in : GoodIn wsX8_image wsX8_in := goodIn_r _ [7] (by decide +kernel) (by decide +kernel)
set_option maxRecDepth 20000 in
theorem gX8_image_X8_in : GoodIn wsX8_image (va_wsS RX8 101 yX8_in wsX8_in) := goodIn_app (goodIn_of _ (by decide +kernel)) ggX8_image_X8_in
set_option maxRecDepth 20000 in
theorem ggX8_image_X8_passAll : GoodIn wsX8_image wsX8_passAll := goodIn_r _ [11, 12, 13, 14, 15, 16, 17, 18, 19, 20, 21, 22, 23, 24, 25, 26, 27, 28, 29, 30, 31, 32, 33, 6, 34, 2, 35, 1, 36, 37, 38, 39, 40, 41, 42, 43, 44, 45, 46, 47, 48, 49, 50, 51, 52, 53, 54, 55, 56, 57, 58, 59, 60, 61, 62, 63, 64, 65, 66, 67, 68, 69, 70, 71, 72, 73, 74, 75, 76, 77, 78, 79, 80, 81] (by decide +kernel) (by decide +kernel)
set_option maxRecDepth 20000 in
theorem gX8_image_X8_passAll : GoodIn wsX8_image (wsV RX8 338 RX8 yX8_passAll wsX8_passAll) := goodIn_app (goodIn_of _ (by decide +kernel)) ggX8_image_X8_passAll
theorem dX8_image_0 : decode cX8_image 0 = .ok (.iload_n 1, 1) := by decide +kernel
theorem dX8_image_1 : decode cX8_image 1 = .ok (.i2l, 1) := by decide +kernel
theorem dX8_image_2 : decode cX8_image 2 = .ok (.lconst 0, 1) := by decide +kernel
theorem dX8_image_3 : decode cX8_image 3 = .ok (.lconst 1, 1) := by decide +kernel
theorem dX8_image_4 : decode cX8_image 4 = .ok (.invokestatic 101, 3) := by decide +kernel
theorem dX8_image_7 : decode cX8_image 7 = .ok (.ifCond .ne 6, 3) := by decide +kernel
theorem dX8_image_10 : decode cX8_image 10 = .ok (.bipush (-2), 2) := by decide +kernel
theorem dX8_image_12 : decode cX8_image 12 = .ok (.ireturn, 1) := by decide +kernel
theorem dX8_image_13 : decode cX8_image 13 = .ok (.aload_n 0, 1) := by decide +kernel
theorem dX8_image_14 : decode cX8_image 14 = .ok (.bipush 100, 2) := by decide +kernel
theorem dX8_image_16 : decode cX8_image 16 = .ok (.iload_n 1, 1) := by decide +kernel
theorem dX8_image_17 : decode cX8_image 17 = .ok (.imul, 1) := by decide +kernel
theorem dX8_image_18 : decode cX8_image 18 = .ok (.putfield 332, 3) := by decide +kernel
theorem dX8_image_21 : decode cX8_image 21 = .ok (.aload_n 0, 1) := by decide +kernel
theorem dX8_image_22 : decode cX8_image 22 = .ok (.iconst 1, 1) := by decide +kernel
theorem dX8_image_23 : decode cX8_image 23 = .ok (.putfield 328, 3) := by decide +kernel
theorem dX8_image_26 : decode cX8_image 26 = .ok (.aload_n 0, 1) := by decide +kernel
theorem dX8_image_27 : decode cX8_image 27 = .ok (.invokevirtual 338, 3) := by decide +kernel
theorem dX8_image_30 : decode cX8_image 30 = .ok (.aload_n 0, 1) := by decide +kernel
theorem dX8_image_31 : decode cX8_image 31 = .ok (.getfield 76, 3) := by decide +kernel
theorem dX8_image_34 : decode cX8_image 34 = .ok (.iload_n 1, 1) := by decide +kernel
theorem dX8_image_35 : decode cX8_image 35 = .ok (.iconst 1, 1) := by decide +kernel
theorem dX8_image_36 : decode cX8_image 36 = .ok (.bastore, 1) := by decide +kernel
theorem dX8_image_37 : decode cX8_image 37 = .ok (.iconst 1, 1) := by decide +kernel
theorem dX8_image_38 : decode cX8_image 38 = .ok (.ireturn, 1) := by decide +kernel
set_option maxRecDepth 20000 in
theorem ggX8_restore_X8_in : GoodIn wsX8_restore wsX8_in := goodIn_r _ [7] (by decide +kernel) (by decide +kernel)
set_option maxRecDepth 20000 in
theorem gX8_restore_X8_in : GoodIn wsX8_restore (va_wsS RX8 101 yX8_in wsX8_in) := goodIn_app (goodIn_of _ (by decide +kernel)) ggX8_restore_X8_in
set_option maxRecDepth 20000 in
theorem ggX8_restore_X8_passAll : GoodIn wsX8_restore wsX8_passAll := goodIn_r _ [11, 12, 13, 14, 15, 16, 17, 18, 19, 20, 21, 22, 23, 24, 25, 26, 27, 28, 29, 30, 31, 32, 33, 6, 34, 3, 35, 2, 36, 37, 38, 39, 40, 41, 42, 43, 44, 45, 46, 47, 48, 49, 50, 51, 52, 53, 54, 55, 56, 57, 58, 59, 60, 61, 62, 63, 64, 65, 66, 67, 68, 69, 70, 71, 72, 73, 74, 75, 76, 77, 78, 79, 80, 81] (by decide +kernel) (by decide +kernel)
set_option maxRecDepth 20000 in
theorem gX8_restore_X8_passAll : GoodIn wsX8_restore (wsV RX8 338 RX8 yX8_passAll wsX8_passAll) := goodIn_app (goodIn_of _ (by decide +kernel)) ggX8_restore_X8_passAll
theorem dX8_restore_0 : decode cX8_restore 0 = .ok (.iload_n 1, 1) := by decide +kernel
theorem dX8_restore_1 : decode cX8_restore 1 = .ok (.i2l, 1) := by decide +kernel
theorem dX8_restore_2 : decode cX8_restore 2 = .ok (.lconst 0, 1) := by decide +kernel
theorem dX8_restore_3 : decode cX8_restore 3 = .ok (.lconst 1, 1) := by decide +kernel
theorem dX8_restore_4 : decode cX8_restore 4 = .ok (.invokestatic 101, 3) := by decide +kernel
theorem dX8_restore_7 : decode cX8_restore 7 = .ok (.ifCond .ne 6, 3) := by decide +kernel
theorem dX8_restore_10 : decode cX8_restore 10 = .ok (.bipush (-2), 2) := by decide +kernel
theorem dX8_restore_12 : decode cX8_restore 12 = .ok (.ireturn, 1) := by decide +kernel
theorem dX8_restore_13 : decode cX8_restore 13 = .ok (.aload_n 0, 1) := by decide +kernel
theorem dX8_restore_14 : decode cX8_restore 14 = .ok (.getfield 76, 3) := by decide +kernel
theorem dX8_restore_17 : decode cX8_restore 17 = .ok (.iload_n 1, 1) := by decide +kernel
theorem dX8_restore_18 : decode cX8_restore 18 = .ok (.baload, 1) := by decide +kernel
theorem dX8_restore_19 : decode cX8_restore 19 = .ok (.ifCond .ne 6, 3) := by decide +kernel
theorem dX8_restore_22 : decode cX8_restore 22 = .ok (.bipush (-3), 2) := by decide +kernel
theorem dX8_restore_24 : decode cX8_restore 24 = .ok (.ireturn, 1) := by decide +kernel
theorem dX8_restore_25 : decode cX8_restore 25 = .ok (.aload_n 0, 1) := by decide +kernel
theorem dX8_restore_26 : decode cX8_restore 26 = .ok (.bipush 100, 2) := by decide +kernel
theorem dX8_restore_28 : decode cX8_restore 28 = .ok (.iload_n 1, 1) := by decide +kernel
theorem dX8_restore_29 : decode cX8_restore 29 = .ok (.imul, 1) := by decide +kernel
theorem dX8_restore_30 : decode cX8_restore 30 = .ok (.putfield 332, 3) := by decide +kernel
theorem dX8_restore_33 : decode cX8_restore 33 = .ok (.aload_n 0, 1) := by decide +kernel
theorem dX8_restore_34 : decode cX8_restore 34 = .ok (.iconst 0, 1) := by decide +kernel
theorem dX8_restore_35 : decode cX8_restore 35 = .ok (.putfield 328, 3) := by decide +kernel
theorem dX8_restore_38 : decode cX8_restore 38 = .ok (.aload_n 0, 1) := by decide +kernel
theorem dX8_restore_39 : decode cX8_restore 39 = .ok (.invokevirtual 338, 3) := by decide +kernel
theorem dX8_restore_42 : decode cX8_restore 42 = .ok (.iconst 1, 1) := by decide +kernel
theorem dX8_restore_43 : decode cX8_restore 43 = .ok (.ireturn, 1) := by decide +kernel
set_option maxRecDepth 20000 in
theorem ggX8_told_X8_in : GoodIn wsX8_told wsX8_in := goodIn_r _ [15] (by decide +kernel) (by decide +kernel)
set_option maxRecDepth 20000 in
theorem gX8_told_X8_in : GoodIn wsX8_told (va_wsS RX8 101 yX8_in wsX8_in) := goodIn_app (goodIn_of _ (by decide +kernel)) ggX8_told_X8_in
set_option maxRecDepth 20000 in
theorem ggX8_told_X8_isThere : GoodIn wsX8_told wsX8_isThere := goodIn_r _ [19, 10, 20, 21, 14, 22, 23, 12, 13, 15, 35, 36, 37, 38, 39, 40, 41, 42, 43, 44, 45, 46, 47, 48, 49, 50, 51, 52, 53, 54, 55, 56, 57, 58, 59, 60, 61, 62, 63, 64, 65, 66, 67, 68, 69, 70, 71, 72, 73, 74, 75, 76, 77, 78, 79, 80] (by decide +kernel) (by decide +kernel)
set_option maxRecDepth 20000 in
theorem gX8_told_X8_isThere : GoodIn wsX8_told (wsV RX8 123 RX8 yX8_isThere wsX8_isThere) := goodIn_app (goodIn_of _ (by decide +kernel)) ggX8_told_X8_isThere
set_option maxRecDepth 20000 in
theorem ggX8_told_X8_toldSet : GoodIn wsX8_told wsX8_toldSet := goodIn_r _ [27, 28, 29, 30, 31, 32, 33, 34, 35, 36, 37, 38, 39, 40, 41, 42, 43, 44, 45, 46, 47, 48, 49, 50, 51, 52, 53, 54, 55, 56, 57, 58, 59, 60, 61, 62, 63, 64, 65, 66, 67, 68, 69, 70, 71, 72, 73, 74, 75, 76, 77, 78, 79, 80] (by decide +kernel) (by decide +kernel)
set_option maxRecDepth 20000 in
theorem gX8_told_X8_toldSet : GoodIn wsX8_told (wsV RX8 139 RX8 yX8_toldSet wsX8_toldSet) := goodIn_app (goodIn_of _ (by decide +kernel)) ggX8_told_X8_toldSet
theorem dX8_told_0 : decode cX8_told 0 = .ok (.iload_n 1, 1) := by decide +kernel
theorem dX8_told_1 : decode cX8_told 1 = .ok (.i2l, 1) := by decide +kernel
theorem dX8_told_2 : decode cX8_told 2 = .ok (.ldc2_w 242, 3) := by decide +kernel
theorem dX8_told_5 : decode cX8_told 5 = .ok (.ldc2_w 341, 3) := by decide +kernel
theorem dX8_told_8 : decode cX8_told 8 = .ok (.invokestatic 101, 3) := by decide +kernel
theorem dX8_told_11 : decode cX8_told 11 = .ok (.ifCond .eq 86, 3) := by decide +kernel
theorem dX8_told_14 : decode cX8_told 14 = .ok (.iload_n 1, 1) := by decide +kernel
theorem dX8_told_15 : decode cX8_told 15 = .ok (.bipush 10, 2) := by decide +kernel
theorem dX8_told_17 : decode cX8_told 17 = .ok (.idiv, 1) := by decide +kernel
theorem dX8_told_18 : decode cX8_told 18 = .ok (.iconst 1, 1) := by decide +kernel
theorem dX8_told_19 : decode cX8_told 19 = .ok (.isub, 1) := by decide +kernel
theorem dX8_told_20 : decode cX8_told 20 = .ok (.istore_n 2, 1) := by decide +kernel
theorem dX8_told_21 : decode cX8_told 21 = .ok (.iload_n 1, 1) := by decide +kernel
theorem dX8_told_22 : decode cX8_told 22 = .ok (.bipush 10, 2) := by decide +kernel
theorem dX8_told_24 : decode cX8_told 24 = .ok (.irem, 1) := by decide +kernel
theorem dX8_told_25 : decode cX8_told 25 = .ok (.istore_n 3, 1) := by decide +kernel
theorem dX8_told_26 : decode cX8_told 26 = .ok (.aload_n 0, 1) := by decide +kernel
theorem dX8_told_27 : decode cX8_told 27 = .ok (.iload_n 2, 1) := by decide +kernel
theorem dX8_told_28 : decode cX8_told 28 = .ok (.invokevirtual 123, 3) := by decide +kernel
theorem dX8_told_31 : decode cX8_told 31 = .ok (.ifCond .ne 8, 3) := by decide +kernel
theorem dX8_told_34 : decode cX8_told 34 = .ok (.bipush (-2), 2) := by decide +kernel
theorem dX8_told_36 : decode cX8_told 36 = .ok (.goto 60, 3) := by decide +kernel
theorem dX8_told_39 : decode cX8_told 39 = .ok (.iload_n 3, 1) := by decide +kernel
theorem dX8_told_40 : decode cX8_told 40 = .ok (.ifCond .ne 12, 3) := by decide +kernel
theorem dX8_told_43 : decode cX8_told 43 = .ok (.aload_n 0, 1) := by decide +kernel
theorem dX8_told_44 : decode cX8_told 44 = .ok (.getfield 7, 3) := by decide +kernel
theorem dX8_told_47 : decode cX8_told 47 = .ok (.iload_n 2, 1) := by decide +kernel
theorem dX8_told_48 : decode cX8_told 48 = .ok (.iaload, 1) := by decide +kernel
theorem dX8_told_49 : decode cX8_told 49 = .ok (.goto 47, 3) := by decide +kernel
theorem dX8_told_52 : decode cX8_told 52 = .ok (.iload_n 3, 1) := by decide +kernel
theorem dX8_told_53 : decode cX8_told 53 = .ok (.iconst 1, 1) := by decide +kernel
theorem dX8_told_54 : decode cX8_told 54 = .ok (.if_icmp .ne 12, 3) := by decide +kernel
theorem dX8_told_57 : decode cX8_told 57 = .ok (.aload_n 0, 1) := by decide +kernel
theorem dX8_told_58 : decode cX8_told 58 = .ok (.getfield 13, 3) := by decide +kernel
theorem dX8_told_61 : decode cX8_told 61 = .ok (.iload_n 2, 1) := by decide +kernel
theorem dX8_told_62 : decode cX8_told 62 = .ok (.iaload, 1) := by decide +kernel
theorem dX8_told_63 : decode cX8_told 63 = .ok (.goto 33, 3) := by decide +kernel
theorem dX8_told_66 : decode cX8_told 66 = .ok (.iload_n 3, 1) := by decide +kernel
theorem dX8_told_67 : decode cX8_told 67 = .ok (.iconst 2, 1) := by decide +kernel
theorem dX8_told_68 : decode cX8_told 68 = .ok (.if_icmp .ne 12, 3) := by decide +kernel
theorem dX8_told_71 : decode cX8_told 71 = .ok (.aload_n 0, 1) := by decide +kernel
theorem dX8_told_72 : decode cX8_told 72 = .ok (.getfield 16, 3) := by decide +kernel
theorem dX8_told_75 : decode cX8_told 75 = .ok (.iload_n 2, 1) := by decide +kernel
theorem dX8_told_76 : decode cX8_told 76 = .ok (.iaload, 1) := by decide +kernel
theorem dX8_told_77 : decode cX8_told 77 = .ok (.goto 19, 3) := by decide +kernel
theorem dX8_told_80 : decode cX8_told 80 = .ok (.iload_n 3, 1) := by decide +kernel
theorem dX8_told_81 : decode cX8_told 81 = .ok (.iconst 3, 1) := by decide +kernel
theorem dX8_told_82 : decode cX8_told 82 = .ok (.if_icmp .ne 12, 3) := by decide +kernel
theorem dX8_told_85 : decode cX8_told 85 = .ok (.aload_n 0, 1) := by decide +kernel
theorem dX8_told_86 : decode cX8_told 86 = .ok (.getfield 19, 3) := by decide +kernel
theorem dX8_told_89 : decode cX8_told 89 = .ok (.iload_n 2, 1) := by decide +kernel
theorem dX8_told_90 : decode cX8_told 90 = .ok (.iaload, 1) := by decide +kernel
theorem dX8_told_91 : decode cX8_told 91 = .ok (.goto 5, 3) := by decide +kernel
theorem dX8_told_94 : decode cX8_told 94 = .ok (.bipush (-2), 2) := by decide +kernel
theorem dX8_told_96 : decode cX8_told 96 = .ok (.ireturn, 1) := by decide +kernel
theorem dX8_told_97 : decode cX8_told 97 = .ok (.iload_n 1, 1) := by decide +kernel
theorem dX8_told_98 : decode cX8_told 98 = .ok (.i2l, 1) := by decide +kernel
theorem dX8_told_99 : decode cX8_told 99 = .ok (.ldc2_w 231, 3) := by decide +kernel
theorem dX8_told_102 : decode cX8_told 102 = .ok (.ldc2_w 343, 3) := by decide +kernel
theorem dX8_told_105 : decode cX8_told 105 = .ok (.invokestatic 101, 3) := by decide +kernel
theorem dX8_told_108 : decode cX8_told 108 = .ok (.ifCond .eq 11, 3) := by decide +kernel
theorem dX8_told_111 : decode cX8_told 111 = .ok (.aload_n 0, 1) := by decide +kernel
theorem dX8_told_112 : decode cX8_told 112 = .ok (.iload_n 1, 1) := by decide +kernel
theorem dX8_told_113 : decode cX8_told 113 = .ok (.iconst 2, 1) := by decide +kernel
theorem dX8_told_114 : decode cX8_told 114 = .ok (.isub, 1) := by decide +kernel
theorem dX8_told_115 : decode cX8_told 115 = .ok (.invokevirtual 139, 3) := by decide +kernel
theorem dX8_told_118 : decode cX8_told 118 = .ok (.ireturn, 1) := by decide +kernel
theorem dX8_told_119 : decode cX8_told 119 = .ok (.iload_n 1, 1) := by decide +kernel
theorem dX8_told_120 : decode cX8_told 120 = .ok (.ifCond .ne 10, 3) := by decide +kernel
theorem dX8_told_123 : decode cX8_told 123 = .ok (.aload_n 0, 1) := by decide +kernel
theorem dX8_told_124 : decode cX8_told 124 = .ok (.getfield 146, 3) := by decide +kernel
theorem dX8_told_127 : decode cX8_told 127 = .ok (.goto 30, 3) := by decide +kernel
theorem dX8_told_130 : decode cX8_told 130 = .ok (.iload_n 1, 1) := by decide +kernel
theorem dX8_told_131 : decode cX8_told 131 = .ok (.iconst 1, 1) := by decide +kernel
theorem dX8_told_132 : decode cX8_told 132 = .ok (.if_icmp .ne 10, 3) := by decide +kernel
theorem dX8_told_135 : decode cX8_told 135 = .ok (.aload_n 0, 1) := by decide +kernel
theorem dX8_told_136 : decode cX8_told 136 = .ok (.getfield 109, 3) := by decide +kernel
theorem dX8_told_139 : decode cX8_told 139 = .ok (.goto 18, 3) := by decide +kernel
theorem dX8_told_142 : decode cX8_told 142 = .ok (.iload_n 1, 1) := by decide +kernel
theorem dX8_told_143 : decode cX8_told 143 = .ok (.bipush 9, 2) := by decide +kernel
theorem dX8_told_145 : decode cX8_told 145 = .ok (.if_icmp .ne 10, 3) := by decide +kernel
theorem dX8_told_148 : decode cX8_told 148 = .ok (.aload_n 0, 1) := by decide +kernel
theorem dX8_told_149 : decode cX8_told 149 = .ok (.getfield 322, 3) := by decide +kernel
theorem dX8_told_152 : decode cX8_told 152 = .ok (.goto 5, 3) := by decide +kernel
theorem dX8_told_155 : decode cX8_told 155 = .ok (.bipush (-2), 2) := by decide +kernel
theorem dX8_told_157 : decode cX8_told 157 = .ok (.ireturn, 1) := by decide +kernel
theorem dJ6_bitCount_0f7a4_0 : decode cJ6_bitCount_0f7a4 0 = .ok (.iload_n 0, 1) := by decide +kernel
theorem dJ6_bitCount_0f7a4_1 : decode cJ6_bitCount_0f7a4 1 = .ok (.iload_n 0, 1) := by decide +kernel
theorem dJ6_bitCount_0f7a4_2 : decode cJ6_bitCount_0f7a4 2 = .ok (.iconst 1, 1) := by decide +kernel
theorem dJ6_bitCount_0f7a4_3 : decode cJ6_bitCount_0f7a4 3 = .ok (.iushr, 1) := by decide +kernel
theorem dJ6_bitCount_0f7a4_4 : decode cJ6_bitCount_0f7a4 4 = .ok (.ldc_w 265, 3) := by decide +kernel
theorem dJ6_bitCount_0f7a4_7 : decode cJ6_bitCount_0f7a4 7 = .ok (.iand, 1) := by decide +kernel
theorem dJ6_bitCount_0f7a4_8 : decode cJ6_bitCount_0f7a4 8 = .ok (.isub, 1) := by decide +kernel
theorem dJ6_bitCount_0f7a4_9 : decode cJ6_bitCount_0f7a4 9 = .ok (.istore_n 0, 1) := by decide +kernel
theorem dJ6_bitCount_0f7a4_10 : decode cJ6_bitCount_0f7a4 10 = .ok (.iload_n 0, 1) := by decide +kernel
theorem dJ6_bitCount_0f7a4_11 : decode cJ6_bitCount_0f7a4 11 = .ok (.ldc_w 266, 3) := by decide +kernel
theorem dJ6_bitCount_0f7a4_14 : decode cJ6_bitCount_0f7a4 14 = .ok (.iand, 1) := by decide +kernel
theorem dJ6_bitCount_0f7a4_15 : decode cJ6_bitCount_0f7a4 15 = .ok (.iload_n 0, 1) := by decide +kernel
theorem dJ6_bitCount_0f7a4_16 : decode cJ6_bitCount_0f7a4 16 = .ok (.iconst 2, 1) := by decide +kernel
theorem dJ6_bitCount_0f7a4_17 : decode cJ6_bitCount_0f7a4 17 = .ok (.iushr, 1) := by decide +kernel
theorem dJ6_bitCount_0f7a4_18 : decode cJ6_bitCount_0f7a4 18 = .ok (.ldc_w 266, 3) := by decide +kernel
theorem dJ6_bitCount_0f7a4_21 : decode cJ6_bitCount_0f7a4 21 = .ok (.iand, 1) := by decide +kernel
theorem dJ6_bitCount_0f7a4_22 : decode cJ6_bitCount_0f7a4 22 = .ok (.iadd, 1) := by decide +kernel
theorem dJ6_bitCount_0f7a4_23 : decode cJ6_bitCount_0f7a4 23 = .ok (.istore_n 0, 1) := by decide +kernel
theorem dJ6_bitCount_0f7a4_24 : decode cJ6_bitCount_0f7a4 24 = .ok (.iload_n 0, 1) := by decide +kernel
theorem dJ6_bitCount_0f7a4_25 : decode cJ6_bitCount_0f7a4 25 = .ok (.iload_n 0, 1) := by decide +kernel
theorem dJ6_bitCount_0f7a4_26 : decode cJ6_bitCount_0f7a4 26 = .ok (.iconst 4, 1) := by decide +kernel
theorem dJ6_bitCount_0f7a4_27 : decode cJ6_bitCount_0f7a4 27 = .ok (.iushr, 1) := by decide +kernel
theorem dJ6_bitCount_0f7a4_28 : decode cJ6_bitCount_0f7a4 28 = .ok (.iadd, 1) := by decide +kernel
theorem dJ6_bitCount_0f7a4_29 : decode cJ6_bitCount_0f7a4 29 = .ok (.ldc_w 267, 3) := by decide +kernel
theorem dJ6_bitCount_0f7a4_32 : decode cJ6_bitCount_0f7a4 32 = .ok (.iand, 1) := by decide +kernel
theorem dJ6_bitCount_0f7a4_33 : decode cJ6_bitCount_0f7a4 33 = .ok (.istore_n 0, 1) := by decide +kernel
theorem dJ6_bitCount_0f7a4_34 : decode cJ6_bitCount_0f7a4 34 = .ok (.iload_n 0, 1) := by decide +kernel
theorem dJ6_bitCount_0f7a4_35 : decode cJ6_bitCount_0f7a4 35 = .ok (.iload_n 0, 1) := by decide +kernel
theorem dJ6_bitCount_0f7a4_36 : decode cJ6_bitCount_0f7a4 36 = .ok (.bipush 8, 2) := by decide +kernel
theorem dJ6_bitCount_0f7a4_38 : decode cJ6_bitCount_0f7a4 38 = .ok (.iushr, 1) := by decide +kernel
theorem dJ6_bitCount_0f7a4_39 : decode cJ6_bitCount_0f7a4 39 = .ok (.iadd, 1) := by decide +kernel
theorem dJ6_bitCount_0f7a4_40 : decode cJ6_bitCount_0f7a4 40 = .ok (.istore_n 0, 1) := by decide +kernel
theorem dJ6_bitCount_0f7a4_41 : decode cJ6_bitCount_0f7a4 41 = .ok (.iload_n 0, 1) := by decide +kernel
theorem dJ6_bitCount_0f7a4_42 : decode cJ6_bitCount_0f7a4 42 = .ok (.iload_n 0, 1) := by decide +kernel
theorem dJ6_bitCount_0f7a4_43 : decode cJ6_bitCount_0f7a4 43 = .ok (.bipush 16, 2) := by decide +kernel
theorem dJ6_bitCount_0f7a4_45 : decode cJ6_bitCount_0f7a4 45 = .ok (.iushr, 1) := by decide +kernel
theorem dJ6_bitCount_0f7a4_46 : decode cJ6_bitCount_0f7a4 46 = .ok (.iadd, 1) := by decide +kernel
theorem dJ6_bitCount_0f7a4_47 : decode cJ6_bitCount_0f7a4 47 = .ok (.istore_n 0, 1) := by decide +kernel
theorem dJ6_bitCount_0f7a4_48 : decode cJ6_bitCount_0f7a4 48 = .ok (.iload_n 0, 1) := by decide +kernel
theorem dJ6_bitCount_0f7a4_49 : decode cJ6_bitCount_0f7a4 49 = .ok (.bipush 63, 2) := by decide +kernel
theorem dJ6_bitCount_0f7a4_51 : decode cJ6_bitCount_0f7a4 51 = .ok (.iand, 1) := by decide +kernel
theorem dJ6_bitCount_0f7a4_52 : decode cJ6_bitCount_0f7a4 52 = .ok (.ireturn, 1) := by decide +kernel
theorem dJ9_max_7cf53_0 : decode cJ9_max_7cf53 0 = .ok (.iload_n 0, 1) := by decide +kernel
theorem dJ9_max_7cf53_1 : decode cJ9_max_7cf53 1 = .ok (.iload_n 1, 1) := by decide +kernel
theorem dJ9_max_7cf53_2 : decode cJ9_max_7cf53 2 = .ok (.if_icmp .lt 7, 3) := by decide +kernel
theorem dJ9_max_7cf53_5 : decode cJ9_max_7cf53 5 = .ok (.iload_n 0, 1) := by decide +kernel
theorem dJ9_max_7cf53_6 : decode cJ9_max_7cf53 6 = .ok (.goto 4, 3) := by decide +kernel
theorem dJ9_max_7cf53_9 : decode cJ9_max_7cf53 9 = .ok (.iload_n 1, 1) := by decide +kernel
theorem dJ9_max_7cf53_10 : decode cJ9_max_7cf53 10 = .ok (.ireturn, 1) := by decide +kernel
theorem dJ9_min_7cf53_0 : decode cJ9_min_7cf53 0 = .ok (.iload_n 0, 1) := by decide +kernel
theorem dJ9_min_7cf53_1 : decode cJ9_min_7cf53 1 = .ok (.iload_n 1, 1) := by decide +kernel
theorem dJ9_min_7cf53_2 : decode cJ9_min_7cf53 2 = .ok (.if_icmp .gt 7, 3) := by decide +kernel
theorem dJ9_min_7cf53_5 : decode cJ9_min_7cf53 5 = .ok (.iload_n 0, 1) := by decide +kernel
theorem dJ9_min_7cf53_6 : decode cJ9_min_7cf53 6 = .ok (.goto 4, 3) := by decide +kernel
theorem dJ9_min_7cf53_9 : decode cJ9_min_7cf53 9 = .ok (.iload_n 1, 1) := by decide +kernel
