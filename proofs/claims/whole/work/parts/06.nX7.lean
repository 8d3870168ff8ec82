theorem dX7_init_0 : decode cX7_init 0 = .ok (.aload_n 0, 1) := by decide +kernel
theorem dX7_init_1 : decode cX7_init 1 = .ok (.invokespecial 3, 3) := by decide +kernel
theorem dX7_init_4 : decode cX7_init 4 = .ok (.aload_n 0, 1) := by decide +kernel
theorem dX7_init_5 : decode cX7_init 5 = .ok (.aload_n 1, 1) := by decide +kernel
theorem dX7_init_6 : decode cX7_init 6 = .ok (.putfield 9, 3) := by decide +kernel
theorem dX7_init_9 : decode cX7_init 9 = .ok (.return_, 1) := by decide +kernel
set_option maxRecDepth 20000 in
theorem ggX7_open_X7_step : GoodIn wsX7_open wsX7_step := goodIn_r _ [14, 7, 15, 6, 2, 3, 4, 5, 16, 17, 18, 19, 13, 20, 1, 21, 22, 23, 24, 25, 26, 27, 28, 29, 30, 31, 32, 33, 34, 35, 36, 37, 38, 39, 40, 41, 42] (by decide +kernel) (by decide +kernel)
set_option maxRecDepth 20000 in
theorem gX7_open_X7_step : GoodIn wsX7_open (wsV RX7 34 RX7 yX7_step wsX7_step) := goodIn_app (goodIn_of _ (by decide +kernel)) ggX7_open_X7_step
theorem dX7_open_0 : decode cX7_open 0 = .ok (.aload_n 0, 1) := by decide +kernel
theorem dX7_open_1 : decode cX7_open 1 = .ok (.iload_n 1, 1) := by decide +kernel
theorem dX7_open_2 : decode cX7_open 2 = .ok (.aload_n 0, 1) := by decide +kernel
theorem dX7_open_3 : decode cX7_open 3 = .ok (.getfield 9, 3) := by decide +kernel
theorem dX7_open_6 : decode cX7_open 6 = .ok (.arraylength, 1) := by decide +kernel
theorem dX7_open_7 : decode cX7_open 7 = .ok (.invokestatic 15, 3) := by decide +kernel
theorem dX7_open_10 : decode cX7_open 10 = .ok (.putfield 21, 3) := by decide +kernel
theorem dX7_open_13 : decode cX7_open 13 = .ok (.aload_n 0, 1) := by decide +kernel
theorem dX7_open_14 : decode cX7_open 14 = .ok (.iconst 0, 1) := by decide +kernel
theorem dX7_open_15 : decode cX7_open 15 = .ok (.putfield 25, 3) := by decide +kernel
theorem dX7_open_18 : decode cX7_open 18 = .ok (.aload_n 0, 1) := by decide +kernel
theorem dX7_open_19 : decode cX7_open 19 = .ok (.iconst 0, 1) := by decide +kernel
theorem dX7_open_20 : decode cX7_open 20 = .ok (.putfield 28, 3) := by decide +kernel
theorem dX7_open_23 : decode cX7_open 23 = .ok (.aload_n 0, 1) := by decide +kernel
theorem dX7_open_24 : decode cX7_open 24 = .ok (.iconst (-1), 1) := by decide +kernel
theorem dX7_open_25 : decode cX7_open 25 = .ok (.putfield 31, 3) := by decide +kernel
theorem dX7_open_28 : decode cX7_open 28 = .ok (.aload_n 0, 1) := by decide +kernel
theorem dX7_open_29 : decode cX7_open 29 = .ok (.invokevirtual 34, 3) := by decide +kernel
theorem dX7_open_32 : decode cX7_open 32 = .ok (.return_, 1) := by decide +kernel
theorem dX7_hasMore_0 : decode cX7_hasMore 0 = .ok (.aload_n 0, 1) := by decide +kernel
theorem dX7_hasMore_1 : decode cX7_hasMore 1 = .ok (.getfield 37, 3) := by decide +kernel
theorem dX7_hasMore_4 : decode cX7_hasMore 4 = .ok (.iconst 1, 1) := by decide +kernel
theorem dX7_hasMore_5 : decode cX7_hasMore 5 = .ok (.if_icmp .eq 7, 3) := by decide +kernel
theorem dX7_hasMore_8 : decode cX7_hasMore 8 = .ok (.iconst 1, 1) := by decide +kernel
theorem dX7_hasMore_9 : decode cX7_hasMore 9 = .ok (.goto 4, 3) := by decide +kernel
theorem dX7_hasMore_12 : decode cX7_hasMore 12 = .ok (.iconst 0, 1) := by decide +kernel
theorem dX7_hasMore_13 : decode cX7_hasMore 13 = .ok (.ireturn, 1) := by decide +kernel
theorem dX7_refuse_0 : decode cX7_refuse 0 = .ok (.aload_n 0, 1) := by decide +kernel
theorem dX7_refuse_1 : decode cX7_refuse 1 = .ok (.iload_n 1, 1) := by decide +kernel
theorem dX7_refuse_2 : decode cX7_refuse 2 = .ok (.putfield 28, 3) := by decide +kernel
theorem dX7_refuse_5 : decode cX7_refuse 5 = .ok (.aload_n 0, 1) := by decide +kernel
theorem dX7_refuse_6 : decode cX7_refuse 6 = .ok (.aload_n 0, 1) := by decide +kernel
theorem dX7_refuse_7 : decode cX7_refuse 7 = .ok (.getfield 40, 3) := by decide +kernel
theorem dX7_refuse_10 : decode cX7_refuse 10 = .ok (.putfield 31, 3) := by decide +kernel
theorem dX7_refuse_13 : decode cX7_refuse 13 = .ok (.iconst 0, 1) := by decide +kernel
theorem dX7_refuse_14 : decode cX7_refuse 14 = .ok (.ireturn, 1) := by decide +kernel
set_option maxRecDepth 20000 in
theorem ggX7_step_X7_signAt : GoodIn wsX7_step wsX7_signAt := goodIn_r _ [13, 3, 14, 27, 28, 29, 30, 31, 32, 33, 34, 35, 36] (by decide +kernel) (by decide +kernel)
set_option maxRecDepth 20000 in
theorem gX7_step_X7_signAt : GoodIn wsX7_step (wsV RX7 43 RX7 yX7_signAt wsX7_signAt) := goodIn_app (goodIn_of _ (by decide +kernel)) ggX7_step_X7_signAt
set_option maxRecDepth 20000 in
theorem ggX7_step_X7_isBlank : GoodIn wsX7_step wsX7_isBlank := goodIn_r _ [17] (by decide +kernel) (by decide +kernel)
set_option maxRecDepth 20000 in
theorem gX7_step_X7_isBlank : GoodIn wsX7_step (va_wsS RX7 47 yX7_isBlank wsX7_isBlank) := goodIn_app (goodIn_of _ (by decide +kernel)) ggX7_step_X7_isBlank
set_option maxRecDepth 20000 in
theorem ggX7_step_X7_isLetter : GoodIn wsX7_step wsX7_isLetter := goodIn_r _ [20] (by decide +kernel) (by decide +kernel)
set_option maxRecDepth 20000 in
theorem gX7_step_X7_isLetter : GoodIn wsX7_step (va_wsS RX7 51 yX7_isLetter wsX7_isLetter) := goodIn_app (goodIn_of _ (by decide +kernel)) ggX7_step_X7_isLetter
set_option maxRecDepth 20000 in
theorem ggX7_step_X7_isDigit : GoodIn wsX7_step wsX7_isDigit := goodIn_r _ [23] (by decide +kernel) (by decide +kernel)
set_option maxRecDepth 20000 in
theorem gX7_step_X7_isDigit : GoodIn wsX7_step (va_wsS RX7 54 yX7_isDigit wsX7_isDigit) := goodIn_app (goodIn_of _ (by decide +kernel)) ggX7_step_X7_isDigit
set_option maxRecDepth 20000 in
theorem ggX7_step_X7_kindOf : GoodIn wsX7_step wsX7_kindOf := goodIn_r _ [26] (by decide +kernel) (by decide +kernel)
set_option maxRecDepth 20000 in
theorem gX7_step_X7_kindOf : GoodIn wsX7_step (va_wsS RX7 57 yX7_kindOf wsX7_kindOf) := goodIn_app (goodIn_of _ (by decide +kernel)) ggX7_step_X7_kindOf
theorem dX7_step_0 : decode cX7_step 0 = .ok (.aload_n 0, 1) := by decide +kernel
theorem dX7_step_1 : decode cX7_step 1 = .ok (.aload_n 0, 1) := by decide +kernel
theorem dX7_step_2 : decode cX7_step 2 = .ok (.getfield 25, 3) := by decide +kernel
theorem dX7_step_5 : decode cX7_step 5 = .ok (.putfield 40, 3) := by decide +kernel
theorem dX7_step_8 : decode cX7_step 8 = .ok (.aload_n 0, 1) := by decide +kernel
theorem dX7_step_9 : decode cX7_step 9 = .ok (.getfield 40, 3) := by decide +kernel
theorem dX7_step_12 : decode cX7_step 12 = .ok (.aload_n 0, 1) := by decide +kernel
theorem dX7_step_13 : decode cX7_step 13 = .ok (.getfield 21, 3) := by decide +kernel
theorem dX7_step_16 : decode cX7_step 16 = .ok (.if_icmp .ge 30, 3) := by decide +kernel
theorem dX7_step_19 : decode cX7_step 19 = .ok (.aload_n 0, 1) := by decide +kernel
theorem dX7_step_20 : decode cX7_step 20 = .ok (.aload_n 0, 1) := by decide +kernel
theorem dX7_step_21 : decode cX7_step 21 = .ok (.getfield 40, 3) := by decide +kernel
theorem dX7_step_24 : decode cX7_step 24 = .ok (.invokevirtual 43, 3) := by decide +kernel
theorem dX7_step_27 : decode cX7_step 27 = .ok (.invokestatic 47, 3) := by decide +kernel
theorem dX7_step_30 : decode cX7_step 30 = .ok (.ifCond .eq 16, 3) := by decide +kernel
theorem dX7_step_33 : decode cX7_step 33 = .ok (.aload_n 0, 1) := by decide +kernel
theorem dX7_step_34 : decode cX7_step 34 = .ok (.dup, 1) := by decide +kernel
theorem dX7_step_35 : decode cX7_step 35 = .ok (.getfield 40, 3) := by decide +kernel
theorem dX7_step_38 : decode cX7_step 38 = .ok (.iconst 1, 1) := by decide +kernel
theorem dX7_step_39 : decode cX7_step 39 = .ok (.iadd, 1) := by decide +kernel
theorem dX7_step_40 : decode cX7_step 40 = .ok (.putfield 40, 3) := by decide +kernel
theorem dX7_step_43 : decode cX7_step 43 = .ok (.goto (-35), 3) := by decide +kernel
theorem dX7_step_46 : decode cX7_step 46 = .ok (.aload_n 0, 1) := by decide +kernel
theorem dX7_step_47 : decode cX7_step 47 = .ok (.aload_n 0, 1) := by decide +kernel
theorem dX7_step_48 : decode cX7_step 48 = .ok (.getfield 40, 3) := by decide +kernel
theorem dX7_step_51 : decode cX7_step 51 = .ok (.invokevirtual 43, 3) := by decide +kernel
theorem dX7_step_54 : decode cX7_step 54 = .ok (.istore_n 1, 1) := by decide +kernel
theorem dX7_step_55 : decode cX7_step 55 = .ok (.iload_n 1, 1) := by decide +kernel
theorem dX7_step_56 : decode cX7_step 56 = .ok (.bipush 35, 2) := by decide +kernel
theorem dX7_step_58 : decode cX7_step 58 = .ok (.if_icmp .eq 10, 3) := by decide +kernel
theorem dX7_step_61 : decode cX7_step 61 = .ok (.iload_n 1, 1) := by decide +kernel
theorem dX7_step_62 : decode cX7_step 62 = .ok (.invokestatic 51, 3) := by decide +kernel
theorem dX7_step_65 : decode cX7_step 65 = .ok (.ifCond .eq 7, 3) := by decide +kernel
theorem dX7_step_68 : decode cX7_step 68 = .ok (.iconst 1, 1) := by decide +kernel
theorem dX7_step_69 : decode cX7_step 69 = .ok (.goto 4, 3) := by decide +kernel
theorem dX7_step_72 : decode cX7_step 72 = .ok (.iconst 0, 1) := by decide +kernel
theorem dX7_step_73 : decode cX7_step 73 = .ok (.istore_n 2, 1) := by decide +kernel
theorem dX7_step_74 : decode cX7_step 74 = .ok (.iload_n 1, 1) := by decide +kernel
theorem dX7_step_75 : decode cX7_step 75 = .ok (.bipush 35, 2) := by decide +kernel
theorem dX7_step_77 : decode cX7_step 77 = .ok (.if_icmp .eq 10, 3) := by decide +kernel
theorem dX7_step_80 : decode cX7_step 80 = .ok (.iload_n 1, 1) := by decide +kernel
theorem dX7_step_81 : decode cX7_step 81 = .ok (.invokestatic 54, 3) := by decide +kernel
theorem dX7_step_84 : decode cX7_step 84 = .ok (.ifCond .eq 7, 3) := by decide +kernel
theorem dX7_step_87 : decode cX7_step 87 = .ok (.iconst 1, 1) := by decide +kernel
theorem dX7_step_88 : decode cX7_step 88 = .ok (.goto 4, 3) := by decide +kernel
theorem dX7_step_91 : decode cX7_step 91 = .ok (.iconst 0, 1) := by decide +kernel
theorem dX7_step_92 : decode cX7_step 92 = .ok (.istore_n 3, 1) := by decide +kernel
theorem dX7_step_93 : decode cX7_step 93 = .ok (.aload_n 0, 1) := by decide +kernel
theorem dX7_step_94 : decode cX7_step 94 = .ok (.aload_n 0, 1) := by decide +kernel
theorem dX7_step_95 : decode cX7_step 95 = .ok (.getfield 40, 3) := by decide +kernel
theorem dX7_step_98 : decode cX7_step 98 = .ok (.iconst 1, 1) := by decide +kernel
theorem dX7_step_99 : decode cX7_step 99 = .ok (.iadd, 1) := by decide +kernel
theorem dX7_step_100 : decode cX7_step 100 = .ok (.aload_n 0, 1) := by decide +kernel
theorem dX7_step_101 : decode cX7_step 101 = .ok (.getfield 21, 3) := by decide +kernel
theorem dX7_step_104 : decode cX7_step 104 = .ok (.invokestatic 15, 3) := by decide +kernel
theorem dX7_step_107 : decode cX7_step 107 = .ok (.putfield 25, 3) := by decide +kernel
theorem dX7_step_110 : decode cX7_step 110 = .ok (.aload_n 0, 1) := by decide +kernel
theorem dX7_step_111 : decode cX7_step 111 = .ok (.getfield 25, 3) := by decide +kernel
theorem dX7_step_114 : decode cX7_step 114 = .ok (.aload_n 0, 1) := by decide +kernel
theorem dX7_step_115 : decode cX7_step 115 = .ok (.getfield 21, 3) := by decide +kernel
theorem dX7_step_118 : decode cX7_step 118 = .ok (.if_icmp .ge 52, 3) := by decide +kernel
theorem dX7_step_121 : decode cX7_step 121 = .ok (.iload_n 2, 1) := by decide +kernel
theorem dX7_step_122 : decode cX7_step 122 = .ok (.ifCond .eq 17, 3) := by decide +kernel
theorem dX7_step_125 : decode cX7_step 125 = .ok (.aload_n 0, 1) := by decide +kernel
theorem dX7_step_126 : decode cX7_step 126 = .ok (.aload_n 0, 1) := by decide +kernel
theorem dX7_step_127 : decode cX7_step 127 = .ok (.getfield 25, 3) := by decide +kernel
theorem dX7_step_130 : decode cX7_step 130 = .ok (.invokevirtual 43, 3) := by decide +kernel
theorem dX7_step_133 : decode cX7_step 133 = .ok (.invokestatic 51, 3) := by decide +kernel
theorem dX7_step_136 : decode cX7_step 136 = .ok (.ifCond .ne 21, 3) := by decide +kernel
theorem dX7_step_139 : decode cX7_step 139 = .ok (.iload_n 3, 1) := by decide +kernel
theorem dX7_step_140 : decode cX7_step 140 = .ok (.ifCond .eq 30, 3) := by decide +kernel
theorem dX7_step_143 : decode cX7_step 143 = .ok (.aload_n 0, 1) := by decide +kernel
theorem dX7_step_144 : decode cX7_step 144 = .ok (.aload_n 0, 1) := by decide +kernel
theorem dX7_step_145 : decode cX7_step 145 = .ok (.getfield 25, 3) := by decide +kernel
theorem dX7_step_148 : decode cX7_step 148 = .ok (.invokevirtual 43, 3) := by decide +kernel
theorem dX7_step_151 : decode cX7_step 151 = .ok (.invokestatic 54, 3) := by decide +kernel
theorem dX7_step_154 : decode cX7_step 154 = .ok (.ifCond .eq 16, 3) := by decide +kernel
theorem dX7_step_157 : decode cX7_step 157 = .ok (.aload_n 0, 1) := by decide +kernel
theorem dX7_step_158 : decode cX7_step 158 = .ok (.dup, 1) := by decide +kernel
theorem dX7_step_159 : decode cX7_step 159 = .ok (.getfield 25, 3) := by decide +kernel
theorem dX7_step_162 : decode cX7_step 162 = .ok (.iconst 1, 1) := by decide +kernel
theorem dX7_step_163 : decode cX7_step 163 = .ok (.iadd, 1) := by decide +kernel
theorem dX7_step_164 : decode cX7_step 164 = .ok (.putfield 25, 3) := by decide +kernel
theorem dX7_step_167 : decode cX7_step 167 = .ok (.goto (-57), 3) := by decide +kernel
theorem dX7_step_170 : decode cX7_step 170 = .ok (.aload_n 0, 1) := by decide +kernel
theorem dX7_step_171 : decode cX7_step 171 = .ok (.iload_n 1, 1) := by decide +kernel
theorem dX7_step_172 : decode cX7_step 172 = .ok (.iload_n 2, 1) := by decide +kernel
theorem dX7_step_173 : decode cX7_step 173 = .ok (.iload_n 3, 1) := by decide +kernel
theorem dX7_step_174 : decode cX7_step 174 = .ok (.aload_n 0, 1) := by decide +kernel
theorem dX7_step_175 : decode cX7_step 175 = .ok (.getfield 25, 3) := by decide +kernel
theorem dX7_step_178 : decode cX7_step 178 = .ok (.aload_n 0, 1) := by decide +kernel
theorem dX7_step_179 : decode cX7_step 179 = .ok (.getfield 40, 3) := by decide +kernel
theorem dX7_step_182 : decode cX7_step 182 = .ok (.isub, 1) := by decide +kernel
theorem dX7_step_183 : decode cX7_step 183 = .ok (.invokestatic 57, 3) := by decide +kernel
theorem dX7_step_186 : decode cX7_step 186 = .ok (.putfield 37, 3) := by decide +kernel
theorem dX7_step_189 : decode cX7_step 189 = .ok (.return_, 1) := by decide +kernel
theorem dX7_kindOf_0 : decode cX7_kindOf 0 = .ok (.iload_n 3, 1) := by decide +kernel
theorem dX7_kindOf_1 : decode cX7_kindOf 1 = .ok (.iconst 1, 1) := by decide +kernel
theorem dX7_kindOf_2 : decode cX7_kindOf 2 = .ok (.if_icmp .ge 5, 3) := by decide +kernel
theorem dX7_kindOf_5 : decode cX7_kindOf 5 = .ok (.iconst 1, 1) := by decide +kernel
theorem dX7_kindOf_6 : decode cX7_kindOf 6 = .ok (.ireturn, 1) := by decide +kernel
theorem dX7_kindOf_7 : decode cX7_kindOf 7 = .ok (.iload_n 1, 1) := by decide +kernel
theorem dX7_kindOf_8 : decode cX7_kindOf 8 = .ok (.ifCond .eq 18, 3) := by decide +kernel
theorem dX7_kindOf_11 : decode cX7_kindOf 11 = .ok (.iload_n 2, 1) := by decide +kernel
theorem dX7_kindOf_12 : decode cX7_kindOf 12 = .ok (.ifCond .eq 14, 3) := by decide +kernel
theorem dX7_kindOf_15 : decode cX7_kindOf 15 = .ok (.iload_n 3, 1) := by decide +kernel
theorem dX7_kindOf_16 : decode cX7_kindOf 16 = .ok (.iconst 1, 1) := by decide +kernel
theorem dX7_kindOf_17 : decode cX7_kindOf 17 = .ok (.if_icmp .le 7, 3) := by decide +kernel
theorem dX7_kindOf_20 : decode cX7_kindOf 20 = .ok (.iconst 4, 1) := by decide +kernel
theorem dX7_kindOf_21 : decode cX7_kindOf 21 = .ok (.goto 4, 3) := by decide +kernel
theorem dX7_kindOf_24 : decode cX7_kindOf 24 = .ok (.iconst 0, 1) := by decide +kernel
theorem dX7_kindOf_25 : decode cX7_kindOf 25 = .ok (.ireturn, 1) := by decide +kernel
theorem dX7_kindOf_26 : decode cX7_kindOf 26 = .ok (.iload_n 1, 1) := by decide +kernel
theorem dX7_kindOf_27 : decode cX7_kindOf 27 = .ok (.ifCond .eq 5, 3) := by decide +kernel
theorem dX7_kindOf_30 : decode cX7_kindOf 30 = .ok (.iconst 2, 1) := by decide +kernel
theorem dX7_kindOf_31 : decode cX7_kindOf 31 = .ok (.ireturn, 1) := by decide +kernel
theorem dX7_kindOf_32 : decode cX7_kindOf 32 = .ok (.iload_n 2, 1) := by decide +kernel
theorem dX7_kindOf_33 : decode cX7_kindOf 33 = .ok (.ifCond .eq 5, 3) := by decide +kernel
theorem dX7_kindOf_36 : decode cX7_kindOf 36 = .ok (.iconst 3, 1) := by decide +kernel
theorem dX7_kindOf_37 : decode cX7_kindOf 37 = .ok (.ireturn, 1) := by decide +kernel
theorem dX7_kindOf_38 : decode cX7_kindOf 38 = .ok (.iload_n 0, 1) := by decide +kernel
theorem dX7_kindOf_39 : decode cX7_kindOf 39 = .ok (.bipush 59, 2) := by decide +kernel
theorem dX7_kindOf_41 : decode cX7_kindOf 41 = .ok (.if_icmp .ne 7, 3) := by decide +kernel
theorem dX7_kindOf_44 : decode cX7_kindOf 44 = .ok (.iconst 5, 1) := by decide +kernel
theorem dX7_kindOf_45 : decode cX7_kindOf 45 = .ok (.goto 4, 3) := by decide +kernel
theorem dX7_kindOf_48 : decode cX7_kindOf 48 = .ok (.iconst 0, 1) := by decide +kernel
theorem dX7_kindOf_49 : decode cX7_kindOf 49 = .ok (.ireturn, 1) := by decide +kernel
theorem dX7_signAt_0 : decode cX7_signAt 0 = .ok (.iload_n 1, 1) := by decide +kernel
theorem dX7_signAt_1 : decode cX7_signAt 1 = .ok (.ifCond .lt 29, 3) := by decide +kernel
theorem dX7_signAt_4 : decode cX7_signAt 4 = .ok (.iload_n 1, 1) := by decide +kernel
theorem dX7_signAt_5 : decode cX7_signAt 5 = .ok (.aload_n 0, 1) := by decide +kernel
theorem dX7_signAt_6 : decode cX7_signAt 6 = .ok (.getfield 21, 3) := by decide +kernel
theorem dX7_signAt_9 : decode cX7_signAt 9 = .ok (.if_icmp .ge 21, 3) := by decide +kernel
theorem dX7_signAt_12 : decode cX7_signAt 12 = .ok (.iload_n 1, 1) := by decide +kernel
theorem dX7_signAt_13 : decode cX7_signAt 13 = .ok (.aload_n 0, 1) := by decide +kernel
theorem dX7_signAt_14 : decode cX7_signAt 14 = .ok (.getfield 9, 3) := by decide +kernel
theorem dX7_signAt_17 : decode cX7_signAt 17 = .ok (.arraylength, 1) := by decide +kernel
theorem dX7_signAt_18 : decode cX7_signAt 18 = .ok (.if_icmp .ge 12, 3) := by decide +kernel
theorem dX7_signAt_21 : decode cX7_signAt 21 = .ok (.aload_n 0, 1) := by decide +kernel
theorem dX7_signAt_22 : decode cX7_signAt 22 = .ok (.getfield 9, 3) := by decide +kernel
theorem dX7_signAt_25 : decode cX7_signAt 25 = .ok (.iload_n 1, 1) := by decide +kernel
theorem dX7_signAt_26 : decode cX7_signAt 26 = .ok (.baload, 1) := by decide +kernel
theorem dX7_signAt_27 : decode cX7_signAt 27 = .ok (.goto 4, 3) := by decide +kernel
theorem dX7_signAt_30 : decode cX7_signAt 30 = .ok (.iconst (-1), 1) := by decide +kernel
theorem dX7_signAt_31 : decode cX7_signAt 31 = .ok (.ireturn, 1) := by decide +kernel
theorem dX7_isBlank_0 : decode cX7_isBlank 0 = .ok (.iload_n 0, 1) := by decide +kernel
theorem dX7_isBlank_1 : decode cX7_isBlank 1 = .ok (.bipush 32, 2) := by decide +kernel
theorem dX7_isBlank_3 : decode cX7_isBlank 3 = .ok (.if_icmp .eq 9, 3) := by decide +kernel
theorem dX7_isBlank_6 : decode cX7_isBlank 6 = .ok (.iload_n 0, 1) := by decide +kernel
theorem dX7_isBlank_7 : decode cX7_isBlank 7 = .ok (.bipush 10, 2) := by decide +kernel
theorem dX7_isBlank_9 : decode cX7_isBlank 9 = .ok (.if_icmp .ne 7, 3) := by decide +kernel
theorem dX7_isBlank_12 : decode cX7_isBlank 12 = .ok (.iconst 1, 1) := by decide +kernel
theorem dX7_isBlank_13 : decode cX7_isBlank 13 = .ok (.goto 4, 3) := by decide +kernel
theorem dX7_isBlank_16 : decode cX7_isBlank 16 = .ok (.iconst 0, 1) := by decide +kernel
theorem dX7_isBlank_17 : decode cX7_isBlank 17 = .ok (.ireturn, 1) := by decide +kernel
theorem dX7_isLetter_0 : decode cX7_isLetter 0 = .ok (.iload_n 0, 1) := by decide +kernel
theorem dX7_isLetter_1 : decode cX7_isLetter 1 = .ok (.bipush 97, 2) := by decide +kernel
theorem dX7_isLetter_3 : decode cX7_isLetter 3 = .ok (.if_icmp .lt 13, 3) := by decide +kernel
theorem dX7_isLetter_6 : decode cX7_isLetter 6 = .ok (.iload_n 0, 1) := by decide +kernel
theorem dX7_isLetter_7 : decode cX7_isLetter 7 = .ok (.bipush 122, 2) := by decide +kernel
theorem dX7_isLetter_9 : decode cX7_isLetter 9 = .ok (.if_icmp .gt 7, 3) := by decide +kernel
theorem dX7_isLetter_12 : decode cX7_isLetter 12 = .ok (.iconst 1, 1) := by decide +kernel
theorem dX7_isLetter_13 : decode cX7_isLetter 13 = .ok (.goto 4, 3) := by decide +kernel
theorem dX7_isLetter_16 : decode cX7_isLetter 16 = .ok (.iconst 0, 1) := by decide +kernel
theorem dX7_isLetter_17 : decode cX7_isLetter 17 = .ok (.ireturn, 1) := by decide +kernel
theorem dX7_isDigit_0 : decode cX7_isDigit 0 = .ok (.iload_n 0, 1) := by decide +kernel
theorem dX7_isDigit_1 : decode cX7_isDigit 1 = .ok (.bipush 48, 2) := by decide +kernel
theorem dX7_isDigit_3 : decode cX7_isDigit 3 = .ok (.if_icmp .lt 13, 3) := by decide +kernel
theorem dX7_isDigit_6 : decode cX7_isDigit 6 = .ok (.iload_n 0, 1) := by decide +kernel
theorem dX7_isDigit_7 : decode cX7_isDigit 7 = .ok (.bipush 57, 2) := by decide +kernel
theorem dX7_isDigit_9 : decode cX7_isDigit 9 = .ok (.if_icmp .gt 7, 3) := by decide +kernel
theorem dX7_isDigit_12 : decode cX7_isDigit 12 = .ok (.iconst 1, 1) := by decide +kernel
theorem dX7_isDigit_13 : decode cX7_isDigit 13 = .ok (.goto 4, 3) := by decide +kernel
theorem dX7_isDigit_16 : decode cX7_isDigit 16 = .ok (.iconst 0, 1) := by decide +kernel
theorem dX7_isDigit_17 : decode cX7_isDigit 17 = .ok (.ireturn, 1) := by decide +kernel
set_option maxRecDepth 20000 in
theorem ggX7_isWord_J0_length_8abf5 : GoodIn wsX7_isWord wsJ0_length_8abf5 := goodIn_r _ [8, 9, 10, 11, 12, 7, 13, 14, 15] (by decide +kernel) (by decide +kernel)
set_option maxRecDepth 20000 in
theorem gX7_isWord_J0_length_8abf5 : GoodIn wsX7_isWord (wsV RX7 61 RJ0 yJ0_length_8abf5 wsJ0_length_8abf5) := goodIn_app (goodIn_of _ (by decide +kernel)) ggX7_isWord_J0_length_8abf5
set_option maxRecDepth 20000 in
theorem ggX7_isWord_X7_signAt : GoodIn wsX7_isWord wsX7_signAt := goodIn_r _ [20, 21, 22, 60, 61, 62, 63, 64, 65, 66, 67, 68, 69] (by decide +kernel) (by decide +kernel)
set_option maxRecDepth 20000 in
theorem gX7_isWord_X7_signAt : GoodIn wsX7_isWord (wsV RX7 43 RX7 yX7_signAt wsX7_signAt) := goodIn_app (goodIn_of _ (by decide +kernel)) ggX7_isWord_X7_signAt
set_option maxRecDepth 20000 in
theorem ggX7_isWord_J0_charAt_5068e : GoodIn wsX7_isWord wsJ0_charAt_5068e := goodIn_r _ [26, 9, 27, 28, 29, 7, 30, 14, 15, 31, 32, 33, 34, 35, 36, 37, 38, 39, 40, 41, 42, 43, 44, 45, 46, 47, 48, 49, 50, 51, 52, 53, 54, 55, 56, 57, 58, 59] (by decide +kernel) (by decide +kernel)
set_option maxRecDepth 20000 in
theorem gX7_isWord_J0_charAt_5068e : GoodIn wsX7_isWord (wsV RX7 66 RJ0 yJ0_charAt_5068e wsJ0_charAt_5068e) := goodIn_app (goodIn_of _ (by decide +kernel)) ggX7_isWord_J0_charAt_5068e
theorem dX7_isWord_0 : decode cX7_isWord 0 = .ok (.aload_n 0, 1) := by decide +kernel
theorem dX7_isWord_1 : decode cX7_isWord 1 = .ok (.getfield 37, 3) := by decide +kernel
theorem dX7_isWord_4 : decode cX7_isWord 4 = .ok (.iconst 2, 1) := by decide +kernel
theorem dX7_isWord_5 : decode cX7_isWord 5 = .ok (.if_icmp .ne 19, 3) := by decide +kernel
theorem dX7_isWord_8 : decode cX7_isWord 8 = .ok (.aload_n 0, 1) := by decide +kernel
theorem dX7_isWord_9 : decode cX7_isWord 9 = .ok (.getfield 25, 3) := by decide +kernel
theorem dX7_isWord_12 : decode cX7_isWord 12 = .ok (.aload_n 0, 1) := by decide +kernel
theorem dX7_isWord_13 : decode cX7_isWord 13 = .ok (.getfield 40, 3) := by decide +kernel
theorem dX7_isWord_16 : decode cX7_isWord 16 = .ok (.isub, 1) := by decide +kernel
theorem dX7_isWord_17 : decode cX7_isWord 17 = .ok (.aload_n 1, 1) := by decide +kernel
theorem dX7_isWord_18 : decode cX7_isWord 18 = .ok (.invokevirtual 61, 3) := by decide +kernel
theorem dX7_isWord_21 : decode cX7_isWord 21 = .ok (.if_icmp .eq 5, 3) := by decide +kernel
theorem dX7_isWord_24 : decode cX7_isWord 24 = .ok (.iconst 0, 1) := by decide +kernel
theorem dX7_isWord_25 : decode cX7_isWord 25 = .ok (.ireturn, 1) := by decide +kernel
theorem dX7_isWord_26 : decode cX7_isWord 26 = .ok (.iconst 0, 1) := by decide +kernel
theorem dX7_isWord_27 : decode cX7_isWord 27 = .ok (.istore_n 2, 1) := by decide +kernel
theorem dX7_isWord_28 : decode cX7_isWord 28 = .ok (.iload_n 2, 1) := by decide +kernel
theorem dX7_isWord_29 : decode cX7_isWord 29 = .ok (.aload_n 1, 1) := by decide +kernel
theorem dX7_isWord_30 : decode cX7_isWord 30 = .ok (.invokevirtual 61, 3) := by decide +kernel
theorem dX7_isWord_33 : decode cX7_isWord 33 = .ok (.if_icmp .ge 29, 3) := by decide +kernel
theorem dX7_isWord_36 : decode cX7_isWord 36 = .ok (.aload_n 0, 1) := by decide +kernel
theorem dX7_isWord_37 : decode cX7_isWord 37 = .ok (.aload_n 0, 1) := by decide +kernel
theorem dX7_isWord_38 : decode cX7_isWord 38 = .ok (.getfield 40, 3) := by decide +kernel
theorem dX7_isWord_41 : decode cX7_isWord 41 = .ok (.iload_n 2, 1) := by decide +kernel
theorem dX7_isWord_42 : decode cX7_isWord 42 = .ok (.iadd, 1) := by decide +kernel
theorem dX7_isWord_43 : decode cX7_isWord 43 = .ok (.invokevirtual 43, 3) := by decide +kernel
theorem dX7_isWord_46 : decode cX7_isWord 46 = .ok (.aload_n 1, 1) := by decide +kernel
theorem dX7_isWord_47 : decode cX7_isWord 47 = .ok (.iload_n 2, 1) := by decide +kernel
theorem dX7_isWord_48 : decode cX7_isWord 48 = .ok (.invokevirtual 66, 3) := by decide +kernel
theorem dX7_isWord_51 : decode cX7_isWord 51 = .ok (.if_icmp .eq 5, 3) := by decide +kernel
theorem dX7_isWord_54 : decode cX7_isWord 54 = .ok (.iconst 0, 1) := by decide +kernel
theorem dX7_isWord_55 : decode cX7_isWord 55 = .ok (.ireturn, 1) := by decide +kernel
theorem dX7_isWord_56 : decode cX7_isWord 56 = .ok (.iinc 2 1, 3) := by decide +kernel
theorem dX7_isWord_59 : decode cX7_isWord 59 = .ok (.goto (-31), 3) := by decide +kernel
theorem dX7_isWord_62 : decode cX7_isWord 62 = .ok (.iconst 1, 1) := by decide +kernel
theorem dX7_isWord_63 : decode cX7_isWord 63 = .ok (.ireturn, 1) := by decide +kernel
set_option maxRecDepth 20000 in
theorem ggX7_takeStop_X7_refuse : GoodIn wsX7_takeStop wsX7_refuse := goodIn_r _ [6, 7, 8, 9, 37, 38, 39, 40, 41, 42, 43, 44, 45, 46] (by decide +kernel) (by decide +kernel)
set_option maxRecDepth 20000 in
theorem gX7_takeStop_X7_refuse : GoodIn wsX7_takeStop (wsV RX7 70 RX7 yX7_refuse wsX7_refuse) := goodIn_app (goodIn_of _ (by decide +kernel)) ggX7_takeStop_X7_refuse
set_option maxRecDepth 20000 in
theorem ggX7_takeStop_X7_step : GoodIn wsX7_takeStop wsX7_step := goodIn_r _ [13, 14, 8, 15, 16, 17, 18, 19, 1, 20, 21, 22, 5, 23, 24, 25, 26, 27, 28, 29, 30, 31, 32, 33, 34, 35, 36, 37, 38, 39, 40, 41, 42, 43, 44, 45, 46] (by decide +kernel) (by decide +kernel)
set_option maxRecDepth 20000 in
theorem gX7_takeStop_X7_step : GoodIn wsX7_takeStop (wsV RX7 34 RX7 yX7_step wsX7_step) := goodIn_app (goodIn_of _ (by decide +kernel)) ggX7_takeStop_X7_step
theorem dX7_takeStop_0 : decode cX7_takeStop 0 = .ok (.aload_n 0, 1) := by decide +kernel
theorem dX7_takeStop_1 : decode cX7_takeStop 1 = .ok (.getfield 37, 3) := by decide +kernel
theorem dX7_takeStop_4 : decode cX7_takeStop 4 = .ok (.iconst 5, 1) := by decide +kernel
theorem dX7_takeStop_5 : decode cX7_takeStop 5 = .ok (.if_icmp .eq 9, 3) := by decide +kernel
theorem dX7_takeStop_8 : decode cX7_takeStop 8 = .ok (.aload_n 0, 1) := by decide +kernel
theorem dX7_takeStop_9 : decode cX7_takeStop 9 = .ok (.iconst 1, 1) := by decide +kernel
theorem dX7_takeStop_10 : decode cX7_takeStop 10 = .ok (.invokevirtual 70, 3) := by decide +kernel
theorem dX7_takeStop_13 : decode cX7_takeStop 13 = .ok (.ireturn, 1) := by decide +kernel
theorem dX7_takeStop_14 : decode cX7_takeStop 14 = .ok (.aload_n 0, 1) := by decide +kernel
theorem dX7_takeStop_15 : decode cX7_takeStop 15 = .ok (.invokevirtual 34, 3) := by decide +kernel
theorem dX7_takeStop_18 : decode cX7_takeStop 18 = .ok (.iconst 1, 1) := by decide +kernel
theorem dX7_takeStop_19 : decode cX7_takeStop 19 = .ok (.ireturn, 1) := by decide +kernel
set_option maxRecDepth 20000 in
theorem ggX7_takeNumber_X7_isShortNumber : GoodIn wsX7_takeNumber wsX7_isShortNumber := goodIn_r _ [6, 7, 8, 9, 1, 10, 11, 12, 5, 13, 14, 15, 16, 17, 18, 19, 20, 21, 42, 43, 44, 45, 46, 47, 48, 49, 50, 51] (by decide +kernel) (by decide +kernel)
set_option maxRecDepth 20000 in
theorem gX7_takeNumber_X7_isShortNumber : GoodIn wsX7_takeNumber (wsV RX7 73 RX7 yX7_isShortNumber wsX7_isShortNumber) := goodIn_app (goodIn_of _ (by decide +kernel)) ggX7_takeNumber_X7_isShortNumber
set_option maxRecDepth 20000 in
theorem ggX7_takeNumber_X7_refuse : GoodIn wsX7_takeNumber wsX7_refuse := goodIn_r _ [13, 14, 9, 15, 42, 43, 44, 45, 46, 47, 48, 49, 50, 51] (by decide +kernel) (by decide +kernel)
set_option maxRecDepth 20000 in
theorem gX7_takeNumber_X7_refuse : GoodIn wsX7_takeNumber (wsV RX7 70 RX7 yX7_refuse wsX7_refuse) := goodIn_app (goodIn_of _ (by decide +kernel)) ggX7_takeNumber_X7_refuse
set_option maxRecDepth 20000 in
theorem ggX7_takeNumber_X7_step : GoodIn wsX7_takeNumber wsX7_step := goodIn_r _ [25, 8, 9, 20, 26, 27, 28, 29, 7, 16, 17, 18, 5, 19, 21, 30, 31, 32, 33, 34, 35, 36, 37, 38, 39, 40, 41, 42, 43, 44, 45, 46, 47, 48, 49, 50, 51] (by decide +kernel) (by decide +kernel)
set_option maxRecDepth 20000 in
theorem gX7_takeNumber_X7_step : GoodIn wsX7_takeNumber (wsV RX7 34 RX7 yX7_step wsX7_step) := goodIn_app (goodIn_of _ (by decide +kernel)) ggX7_takeNumber_X7_step
theorem dX7_takeNumber_0 : decode cX7_takeNumber 0 = .ok (.aload_n 0, 1) := by decide +kernel
theorem dX7_takeNumber_1 : decode cX7_takeNumber 1 = .ok (.invokevirtual 73, 3) := by decide +kernel
theorem dX7_takeNumber_4 : decode cX7_takeNumber 4 = .ok (.ifCond .ne 5, 3) := by decide +kernel
theorem dX7_takeNumber_7 : decode cX7_takeNumber 7 = .ok (.iconst 0, 1) := by decide +kernel
theorem dX7_takeNumber_8 : decode cX7_takeNumber 8 = .ok (.ireturn, 1) := by decide +kernel
theorem dX7_takeNumber_9 : decode cX7_takeNumber 9 = .ok (.aload_n 0, 1) := by decide +kernel
theorem dX7_takeNumber_10 : decode cX7_takeNumber 10 = .ok (.getfield 77, 3) := by decide +kernel
theorem dX7_takeNumber_13 : decode cX7_takeNumber 13 = .ok (.iload_n 1, 1) := by decide +kernel
theorem dX7_takeNumber_14 : decode cX7_takeNumber 14 = .ok (.if_icmp .lt 11, 3) := by decide +kernel
theorem dX7_takeNumber_17 : decode cX7_takeNumber 17 = .ok (.aload_n 0, 1) := by decide +kernel
theorem dX7_takeNumber_18 : decode cX7_takeNumber 18 = .ok (.getfield 77, 3) := by decide +kernel
theorem dX7_takeNumber_21 : decode cX7_takeNumber 21 = .ok (.iload_n 2, 1) := by decide +kernel
theorem dX7_takeNumber_22 : decode cX7_takeNumber 22 = .ok (.if_icmp .le 9, 3) := by decide +kernel
theorem dX7_takeNumber_25 : decode cX7_takeNumber 25 = .ok (.aload_n 0, 1) := by decide +kernel
theorem dX7_takeNumber_26 : decode cX7_takeNumber 26 = .ok (.iconst 2, 1) := by decide +kernel
theorem dX7_takeNumber_27 : decode cX7_takeNumber 27 = .ok (.invokevirtual 70, 3) := by decide +kernel
theorem dX7_takeNumber_30 : decode cX7_takeNumber 30 = .ok (.ireturn, 1) := by decide +kernel
theorem dX7_takeNumber_31 : decode cX7_takeNumber 31 = .ok (.aload_n 0, 1) := by decide +kernel
theorem dX7_takeNumber_32 : decode cX7_takeNumber 32 = .ok (.invokevirtual 34, 3) := by decide +kernel
theorem dX7_takeNumber_35 : decode cX7_takeNumber 35 = .ok (.iconst 1, 1) := by decide +kernel
theorem dX7_takeNumber_36 : decode cX7_takeNumber 36 = .ok (.ireturn, 1) := by decide +kernel
set_option maxRecDepth 20000 in
theorem ggX7_takeOneOf_X7_isShortNumber : GoodIn wsX7_takeOneOf wsX7_isShortNumber := goodIn_r _ [6, 7, 8, 9, 1, 10, 11, 12, 5, 13, 14, 15, 16, 17, 18, 19, 20, 21, 42, 43, 44, 45, 46, 47, 48, 49, 50, 51] (by decide +kernel) (by decide +kernel)
set_option maxRecDepth 20000 in
theorem gX7_takeOneOf_X7_isShortNumber : GoodIn wsX7_takeOneOf (wsV RX7 73 RX7 yX7_isShortNumber wsX7_isShortNumber) := goodIn_app (goodIn_of _ (by decide +kernel)) ggX7_takeOneOf_X7_isShortNumber
set_option maxRecDepth 20000 in
theorem ggX7_takeOneOf_X7_refuse : GoodIn wsX7_takeOneOf wsX7_refuse := goodIn_r _ [13, 14, 9, 15, 42, 43, 44, 45, 46, 47, 48, 49, 50, 51] (by decide +kernel) (by decide +kernel)
set_option maxRecDepth 20000 in
theorem gX7_takeOneOf_X7_refuse : GoodIn wsX7_takeOneOf (wsV RX7 70 RX7 yX7_refuse wsX7_refuse) := goodIn_app (goodIn_of _ (by decide +kernel)) ggX7_takeOneOf_X7_refuse
set_option maxRecDepth 20000 in
theorem ggX7_takeOneOf_X7_step : GoodIn wsX7_takeOneOf wsX7_step := goodIn_r _ [25, 8, 9, 20, 26, 27, 28, 29, 7, 16, 17, 18, 5, 19, 21, 30, 31, 32, 33, 34, 35, 36, 37, 38, 39, 40, 41, 42, 43, 44, 45, 46, 47, 48, 49, 50, 51] (by decide +kernel) (by decide +kernel)
set_option maxRecDepth 20000 in
theorem gX7_takeOneOf_X7_step : GoodIn wsX7_takeOneOf (wsV RX7 34 RX7 yX7_step wsX7_step) := goodIn_app (goodIn_of _ (by decide +kernel)) ggX7_takeOneOf_X7_step
theorem dX7_takeOneOf_0 : decode cX7_takeOneOf 0 = .ok (.aload_n 0, 1) := by decide +kernel
theorem dX7_takeOneOf_1 : decode cX7_takeOneOf 1 = .ok (.invokevirtual 73, 3) := by decide +kernel
theorem dX7_takeOneOf_4 : decode cX7_takeOneOf 4 = .ok (.ifCond .ne 5, 3) := by decide +kernel
theorem dX7_takeOneOf_7 : decode cX7_takeOneOf 7 = .ok (.iconst 0, 1) := by decide +kernel
theorem dX7_takeOneOf_8 : decode cX7_takeOneOf 8 = .ok (.ireturn, 1) := by decide +kernel
theorem dX7_takeOneOf_9 : decode cX7_takeOneOf 9 = .ok (.aload_n 0, 1) := by decide +kernel
theorem dX7_takeOneOf_10 : decode cX7_takeOneOf 10 = .ok (.getfield 77, 3) := by decide +kernel
theorem dX7_takeOneOf_13 : decode cX7_takeOneOf 13 = .ok (.iload_n 1, 1) := by decide +kernel
theorem dX7_takeOneOf_14 : decode cX7_takeOneOf 14 = .ok (.if_icmp .lt 9, 3) := by decide +kernel
theorem dX7_takeOneOf_17 : decode cX7_takeOneOf 17 = .ok (.aload_n 0, 1) := by decide +kernel
theorem dX7_takeOneOf_18 : decode cX7_takeOneOf 18 = .ok (.iconst 3, 1) := by decide +kernel
theorem dX7_takeOneOf_19 : decode cX7_takeOneOf 19 = .ok (.invokevirtual 70, 3) := by decide +kernel
theorem dX7_takeOneOf_22 : decode cX7_takeOneOf 22 = .ok (.ireturn, 1) := by decide +kernel
theorem dX7_takeOneOf_23 : decode cX7_takeOneOf 23 = .ok (.aload_n 0, 1) := by decide +kernel
theorem dX7_takeOneOf_24 : decode cX7_takeOneOf 24 = .ok (.getfield 77, 3) := by decide +kernel
theorem dX7_takeOneOf_27 : decode cX7_takeOneOf 27 = .ok (.iload_n 2, 1) := by decide +kernel
theorem dX7_takeOneOf_28 : decode cX7_takeOneOf 28 = .ok (.if_icmp .ne 9, 3) := by decide +kernel
theorem dX7_takeOneOf_31 : decode cX7_takeOneOf 31 = .ok (.aload_n 0, 1) := by decide +kernel
theorem dX7_takeOneOf_32 : decode cX7_takeOneOf 32 = .ok (.iconst 4, 1) := by decide +kernel
theorem dX7_takeOneOf_33 : decode cX7_takeOneOf 33 = .ok (.invokevirtual 70, 3) := by decide +kernel
theorem dX7_takeOneOf_36 : decode cX7_takeOneOf 36 = .ok (.ireturn, 1) := by decide +kernel
theorem dX7_takeOneOf_37 : decode cX7_takeOneOf 37 = .ok (.aload_n 0, 1) := by decide +kernel
theorem dX7_takeOneOf_38 : decode cX7_takeOneOf 38 = .ok (.invokevirtual 34, 3) := by decide +kernel
theorem dX7_takeOneOf_41 : decode cX7_takeOneOf 41 = .ok (.iconst 1, 1) := by decide +kernel
theorem dX7_takeOneOf_42 : decode cX7_takeOneOf 42 = .ok (.ireturn, 1) := by decide +kernel
set_option maxRecDepth 20000 in
theorem ggX7_isShortNumber_X7_refuse : GoodIn wsX7_isShortNumber wsX7_refuse := goodIn_r _ [9, 10, 3, 11, 18, 19, 20, 21, 22, 23, 24, 25, 26, 27] (by decide +kernel) (by decide +kernel)
set_option maxRecDepth 20000 in
theorem gX7_isShortNumber_X7_refuse : GoodIn wsX7_isShortNumber (wsV RX7 70 RX7 yX7_refuse wsX7_refuse) := goodIn_app (goodIn_of _ (by decide +kernel)) ggX7_isShortNumber_X7_refuse
set_option maxRecDepth 20000 in
theorem ggX7_isShortNumber_X7_signAt : GoodIn wsX7_isShortNumber wsX7_signAt := goodIn_r _ [15, 16, 17, 18, 19, 20, 21, 22, 23, 24, 25, 26, 27] (by decide +kernel) (by decide +kernel)
set_option maxRecDepth 20000 in
theorem gX7_isShortNumber_X7_signAt : GoodIn wsX7_isShortNumber (wsV RX7 43 RX7 yX7_signAt wsX7_signAt) := goodIn_app (goodIn_of _ (by decide +kernel)) ggX7_isShortNumber_X7_signAt
theorem dX7_isShortNumber_0 : decode cX7_isShortNumber 0 = .ok (.aload_n 0, 1) := by decide +kernel
theorem dX7_isShortNumber_1 : decode cX7_isShortNumber 1 = .ok (.getfield 37, 3) := by decide +kernel
theorem dX7_isShortNumber_4 : decode cX7_isShortNumber 4 = .ok (.iconst 3, 1) := by decide +kernel
theorem dX7_isShortNumber_5 : decode cX7_isShortNumber 5 = .ok (.if_icmp .eq 9, 3) := by decide +kernel
theorem dX7_isShortNumber_8 : decode cX7_isShortNumber 8 = .ok (.aload_n 0, 1) := by decide +kernel
theorem dX7_isShortNumber_9 : decode cX7_isShortNumber 9 = .ok (.iconst 1, 1) := by decide +kernel
theorem dX7_isShortNumber_10 : decode cX7_isShortNumber 10 = .ok (.invokevirtual 70, 3) := by decide +kernel
theorem dX7_isShortNumber_13 : decode cX7_isShortNumber 13 = .ok (.ireturn, 1) := by decide +kernel
theorem dX7_isShortNumber_14 : decode cX7_isShortNumber 14 = .ok (.aload_n 0, 1) := by decide +kernel
theorem dX7_isShortNumber_15 : decode cX7_isShortNumber 15 = .ok (.getfield 25, 3) := by decide +kernel
theorem dX7_isShortNumber_18 : decode cX7_isShortNumber 18 = .ok (.aload_n 0, 1) := by decide +kernel
theorem dX7_isShortNumber_19 : decode cX7_isShortNumber 19 = .ok (.getfield 40, 3) := by decide +kernel
theorem dX7_isShortNumber_22 : decode cX7_isShortNumber 22 = .ok (.isub, 1) := by decide +kernel
theorem dX7_isShortNumber_23 : decode cX7_isShortNumber 23 = .ok (.iconst 3, 1) := by decide +kernel
theorem dX7_isShortNumber_24 : decode cX7_isShortNumber 24 = .ok (.if_icmp .le 9, 3) := by decide +kernel
theorem dX7_isShortNumber_27 : decode cX7_isShortNumber 27 = .ok (.aload_n 0, 1) := by decide +kernel
theorem dX7_isShortNumber_28 : decode cX7_isShortNumber 28 = .ok (.iconst 2, 1) := by decide +kernel
theorem dX7_isShortNumber_29 : decode cX7_isShortNumber 29 = .ok (.invokevirtual 70, 3) := by decide +kernel
theorem dX7_isShortNumber_32 : decode cX7_isShortNumber 32 = .ok (.ireturn, 1) := by decide +kernel
theorem dX7_isShortNumber_33 : decode cX7_isShortNumber 33 = .ok (.aload_n 0, 1) := by decide +kernel
theorem dX7_isShortNumber_34 : decode cX7_isShortNumber 34 = .ok (.iconst 0, 1) := by decide +kernel
theorem dX7_isShortNumber_35 : decode cX7_isShortNumber 35 = .ok (.putfield 77, 3) := by decide +kernel
theorem dX7_isShortNumber_38 : decode cX7_isShortNumber 38 = .ok (.aload_n 0, 1) := by decide +kernel
theorem dX7_isShortNumber_39 : decode cX7_isShortNumber 39 = .ok (.getfield 40, 3) := by decide +kernel
theorem dX7_isShortNumber_42 : decode cX7_isShortNumber 42 = .ok (.istore_n 1, 1) := by decide +kernel
theorem dX7_isShortNumber_43 : decode cX7_isShortNumber 43 = .ok (.iload_n 1, 1) := by decide +kernel
theorem dX7_isShortNumber_44 : decode cX7_isShortNumber 44 = .ok (.aload_n 0, 1) := by decide +kernel
theorem dX7_isShortNumber_45 : decode cX7_isShortNumber 45 = .ok (.getfield 25, 3) := by decide +kernel
theorem dX7_isShortNumber_48 : decode cX7_isShortNumber 48 = .ok (.if_icmp .ge 29, 3) := by decide +kernel
theorem dX7_isShortNumber_51 : decode cX7_isShortNumber 51 = .ok (.aload_n 0, 1) := by decide +kernel
theorem dX7_isShortNumber_52 : decode cX7_isShortNumber 52 = .ok (.aload_n 0, 1) := by decide +kernel
theorem dX7_isShortNumber_53 : decode cX7_isShortNumber 53 = .ok (.getfield 77, 3) := by decide +kernel
theorem dX7_isShortNumber_56 : decode cX7_isShortNumber 56 = .ok (.bipush 10, 2) := by decide +kernel
theorem dX7_isShortNumber_58 : decode cX7_isShortNumber 58 = .ok (.imul, 1) := by decide +kernel
theorem dX7_isShortNumber_59 : decode cX7_isShortNumber 59 = .ok (.aload_n 0, 1) := by decide +kernel
theorem dX7_isShortNumber_60 : decode cX7_isShortNumber 60 = .ok (.iload_n 1, 1) := by decide +kernel
theorem dX7_isShortNumber_61 : decode cX7_isShortNumber 61 = .ok (.invokevirtual 43, 3) := by decide +kernel
theorem dX7_isShortNumber_64 : decode cX7_isShortNumber 64 = .ok (.iadd, 1) := by decide +kernel
theorem dX7_isShortNumber_65 : decode cX7_isShortNumber 65 = .ok (.bipush 48, 2) := by decide +kernel
theorem dX7_isShortNumber_67 : decode cX7_isShortNumber 67 = .ok (.isub, 1) := by decide +kernel
theorem dX7_isShortNumber_68 : decode cX7_isShortNumber 68 = .ok (.putfield 77, 3) := by decide +kernel
theorem dX7_isShortNumber_71 : decode cX7_isShortNumber 71 = .ok (.iinc 1 1, 3) := by decide +kernel
theorem dX7_isShortNumber_74 : decode cX7_isShortNumber 74 = .ok (.goto (-31), 3) := by decide +kernel
theorem dX7_isShortNumber_77 : decode cX7_isShortNumber 77 = .ok (.iconst 1, 1) := by decide +kernel
theorem dX7_isShortNumber_78 : decode cX7_isShortNumber 78 = .ok (.ireturn, 1) := by decide +kernel
set_option maxRecDepth 20000 in
theorem ggX7_takeRow_X7_refuse : GoodIn wsX7_takeRow wsX7_refuse := goodIn_r _ [10, 11, 3, 12, 39, 40, 41, 42, 43, 44, 45, 46, 47, 48] (by decide +kernel) (by decide +kernel)
set_option maxRecDepth 20000 in
theorem gX7_takeRow_X7_refuse : GoodIn wsX7_takeRow (wsV RX7 70 RX7 yX7_refuse wsX7_refuse) := goodIn_app (goodIn_of _ (by decide +kernel)) ggX7_takeRow_X7_refuse
set_option maxRecDepth 20000 in
theorem ggX7_takeRow_X7_step : GoodIn wsX7_takeRow wsX7_step := goodIn_r _ [16, 2, 3, 17, 18, 19, 20, 21, 1, 22, 23, 24, 9, 25, 26, 27, 28, 29, 30, 31, 32, 33, 34, 35, 36, 37, 38, 39, 40, 41, 42, 43, 44, 45, 46, 47, 48] (by decide +kernel) (by decide +kernel)
set_option maxRecDepth 20000 in
theorem gX7_takeRow_X7_step : GoodIn wsX7_takeRow (wsV RX7 34 RX7 yX7_step wsX7_step) := goodIn_app (goodIn_of _ (by decide +kernel)) ggX7_takeRow_X7_step
theorem dX7_takeRow_0 : decode cX7_takeRow 0 = .ok (.aload_n 0, 1) := by decide +kernel
theorem dX7_takeRow_1 : decode cX7_takeRow 1 = .ok (.getfield 37, 3) := by decide +kernel
theorem dX7_takeRow_4 : decode cX7_takeRow 4 = .ok (.iconst 4, 1) := by decide +kernel
theorem dX7_takeRow_5 : decode cX7_takeRow 5 = .ok (.if_icmp .eq 9, 3) := by decide +kernel
theorem dX7_takeRow_8 : decode cX7_takeRow 8 = .ok (.aload_n 0, 1) := by decide +kernel
theorem dX7_takeRow_9 : decode cX7_takeRow 9 = .ok (.iconst 1, 1) := by decide +kernel
theorem dX7_takeRow_10 : decode cX7_takeRow 10 = .ok (.invokevirtual 70, 3) := by decide +kernel
theorem dX7_takeRow_13 : decode cX7_takeRow 13 = .ok (.ireturn, 1) := by decide +kernel
theorem dX7_takeRow_14 : decode cX7_takeRow 14 = .ok (.aload_n 0, 1) := by decide +kernel
theorem dX7_takeRow_15 : decode cX7_takeRow 15 = .ok (.getfield 25, 3) := by decide +kernel
theorem dX7_takeRow_18 : decode cX7_takeRow 18 = .ok (.aload_n 0, 1) := by decide +kernel
theorem dX7_takeRow_19 : decode cX7_takeRow 19 = .ok (.getfield 40, 3) := by decide +kernel
theorem dX7_takeRow_22 : decode cX7_takeRow 22 = .ok (.isub, 1) := by decide +kernel
theorem dX7_takeRow_23 : decode cX7_takeRow 23 = .ok (.iconst 1, 1) := by decide +kernel
theorem dX7_takeRow_24 : decode cX7_takeRow 24 = .ok (.isub, 1) := by decide +kernel
theorem dX7_takeRow_25 : decode cX7_takeRow 25 = .ok (.iconst 5, 1) := by decide +kernel
theorem dX7_takeRow_26 : decode cX7_takeRow 26 = .ok (.if_icmp .le 9, 3) := by decide +kernel
theorem dX7_takeRow_29 : decode cX7_takeRow 29 = .ok (.aload_n 0, 1) := by decide +kernel
theorem dX7_takeRow_30 : decode cX7_takeRow 30 = .ok (.iconst 2, 1) := by decide +kernel
theorem dX7_takeRow_31 : decode cX7_takeRow 31 = .ok (.invokevirtual 70, 3) := by decide +kernel
theorem dX7_takeRow_34 : decode cX7_takeRow 34 = .ok (.ireturn, 1) := by decide +kernel
theorem dX7_takeRow_35 : decode cX7_takeRow 35 = .ok (.aload_n 0, 1) := by decide +kernel
theorem dX7_takeRow_36 : decode cX7_takeRow 36 = .ok (.aload_n 0, 1) := by decide +kernel
theorem dX7_takeRow_37 : decode cX7_takeRow 37 = .ok (.getfield 40, 3) := by decide +kernel
theorem dX7_takeRow_40 : decode cX7_takeRow 40 = .ok (.iconst 1, 1) := by decide +kernel
theorem dX7_takeRow_41 : decode cX7_takeRow 41 = .ok (.iadd, 1) := by decide +kernel
theorem dX7_takeRow_42 : decode cX7_takeRow 42 = .ok (.putfield 80, 3) := by decide +kernel
theorem dX7_takeRow_45 : decode cX7_takeRow 45 = .ok (.aload_n 0, 1) := by decide +kernel
theorem dX7_takeRow_46 : decode cX7_takeRow 46 = .ok (.aload_n 0, 1) := by decide +kernel
theorem dX7_takeRow_47 : decode cX7_takeRow 47 = .ok (.getfield 25, 3) := by decide +kernel
theorem dX7_takeRow_50 : decode cX7_takeRow 50 = .ok (.aload_n 0, 1) := by decide +kernel
theorem dX7_takeRow_51 : decode cX7_takeRow 51 = .ok (.getfield 80, 3) := by decide +kernel
theorem dX7_takeRow_54 : decode cX7_takeRow 54 = .ok (.isub, 1) := by decide +kernel
theorem dX7_takeRow_55 : decode cX7_takeRow 55 = .ok (.putfield 83, 3) := by decide +kernel
theorem dX7_takeRow_58 : decode cX7_takeRow 58 = .ok (.aload_n 0, 1) := by decide +kernel
theorem dX7_takeRow_59 : decode cX7_takeRow 59 = .ok (.invokevirtual 34, 3) := by decide +kernel
theorem dX7_takeRow_62 : decode cX7_takeRow 62 = .ok (.iconst 1, 1) := by decide +kernel
theorem dX7_takeRow_63 : decode cX7_takeRow 63 = .ok (.ireturn, 1) := by decide +kernel
set_option maxRecDepth 20000 in
theorem ggX7_rowFigure_X7_signAt : GoodIn wsX7_rowFigure wsX7_signAt := goodIn_r _ [7, 8, 9, 13, 14, 15, 16, 17, 18, 19, 20, 21, 22] (by decide +kernel) (by decide +kernel)
set_option maxRecDepth 20000 in
theorem gX7_rowFigure_X7_signAt : GoodIn wsX7_rowFigure (wsV RX7 43 RX7 yX7_signAt wsX7_signAt) := goodIn_app (goodIn_of _ (by decide +kernel)) ggX7_rowFigure_X7_signAt
set_option maxRecDepth 20000 in
theorem ggX7_rowFigure_X7_isLetter : GoodIn wsX7_rowFigure wsX7_isLetter := goodIn_r _ [12] (by decide +kernel) (by decide +kernel)
set_option maxRecDepth 20000 in
theorem gX7_rowFigure_X7_isLetter : GoodIn wsX7_rowFigure (va_wsS RX7 51 yX7_isLetter wsX7_isLetter) := goodIn_app (goodIn_of _ (by decide +kernel)) ggX7_rowFigure_X7_isLetter
theorem dX7_rowFigure_0 : decode cX7_rowFigure 0 = .ok (.iload_n 1, 1) := by decide +kernel
theorem dX7_rowFigure_1 : decode cX7_rowFigure 1 = .ok (.ifCond .lt 11, 3) := by decide +kernel
theorem dX7_rowFigure_4 : decode cX7_rowFigure 4 = .ok (.iload_n 1, 1) := by decide +kernel
theorem dX7_rowFigure_5 : decode cX7_rowFigure 5 = .ok (.aload_n 0, 1) := by decide +kernel
theorem dX7_rowFigure_6 : decode cX7_rowFigure 6 = .ok (.getfield 83, 3) := by decide +kernel
theorem dX7_rowFigure_9 : decode cX7_rowFigure 9 = .ok (.if_icmp .lt 5, 3) := by decide +kernel
theorem dX7_rowFigure_12 : decode cX7_rowFigure 12 = .ok (.iconst 0, 1) := by decide +kernel
theorem dX7_rowFigure_13 : decode cX7_rowFigure 13 = .ok (.ireturn, 1) := by decide +kernel
theorem dX7_rowFigure_14 : decode cX7_rowFigure 14 = .ok (.aload_n 0, 1) := by decide +kernel
theorem dX7_rowFigure_15 : decode cX7_rowFigure 15 = .ok (.aload_n 0, 1) := by decide +kernel
theorem dX7_rowFigure_16 : decode cX7_rowFigure 16 = .ok (.getfield 80, 3) := by decide +kernel
theorem dX7_rowFigure_19 : decode cX7_rowFigure 19 = .ok (.iload_n 1, 1) := by decide +kernel
theorem dX7_rowFigure_20 : decode cX7_rowFigure 20 = .ok (.iadd, 1) := by decide +kernel
theorem dX7_rowFigure_21 : decode cX7_rowFigure 21 = .ok (.invokevirtual 43, 3) := by decide +kernel
theorem dX7_rowFigure_24 : decode cX7_rowFigure 24 = .ok (.istore_n 2, 1) := by decide +kernel
theorem dX7_rowFigure_25 : decode cX7_rowFigure 25 = .ok (.iload_n 2, 1) := by decide +kernel
theorem dX7_rowFigure_26 : decode cX7_rowFigure 26 = .ok (.invokestatic 51, 3) := by decide +kernel
theorem dX7_rowFigure_29 : decode cX7_rowFigure 29 = .ok (.ifCond .eq 13, 3) := by decide +kernel
theorem dX7_rowFigure_32 : decode cX7_rowFigure 32 = .ok (.iload_n 2, 1) := by decide +kernel
theorem dX7_rowFigure_33 : decode cX7_rowFigure 33 = .ok (.bipush 97, 2) := by decide +kernel
theorem dX7_rowFigure_35 : decode cX7_rowFigure 35 = .ok (.isub, 1) := by decide +kernel
theorem dX7_rowFigure_36 : decode cX7_rowFigure 36 = .ok (.bipush 10, 2) := by decide +kernel
theorem dX7_rowFigure_38 : decode cX7_rowFigure 38 = .ok (.iadd, 1) := by decide +kernel
theorem dX7_rowFigure_39 : decode cX7_rowFigure 39 = .ok (.goto 7, 3) := by decide +kernel
theorem dX7_rowFigure_42 : decode cX7_rowFigure 42 = .ok (.iload_n 2, 1) := by decide +kernel
theorem dX7_rowFigure_43 : decode cX7_rowFigure 43 = .ok (.bipush 48, 2) := by decide +kernel
theorem dX7_rowFigure_45 : decode cX7_rowFigure 45 = .ok (.isub, 1) := by decide +kernel
theorem dX7_rowFigure_46 : decode cX7_rowFigure 46 = .ok (.ireturn, 1) := by decide +kernel
