theorem dX13_line_345 : decode cX13_line 345 = .ok (.invokevirtual 201, 3) := by decide +kernel
theorem dX13_line_348 : decode cX13_line 348 = .ok (.ifCond .eq 7, 3) := by decide +kernel
theorem dX13_line_351 : decode cX13_line 351 = .ok (.iconst 2, 1) := by decide +kernel
theorem dX13_line_352 : decode cX13_line 352 = .ok (.goto 4, 3) := by decide +kernel
theorem dX13_line_355 : decode cX13_line 355 = .ok (.iconst (-1), 1) := by decide +kernel
theorem dX13_line_356 : decode cX13_line 356 = .ok (.putfield 228, 3) := by decide +kernel
theorem dX13_line_359 : decode cX13_line 359 = .ok (.aload_n 0, 1) := by decide +kernel
theorem dX13_line_360 : decode cX13_line 360 = .ok (.aload_n 0, 1) := by decide +kernel
theorem dX13_line_361 : decode cX13_line 361 = .ok (.getfield 228, 3) := by decide +kernel
theorem dX13_line_364 : decode cX13_line 364 = .ok (.iconst (-1), 1) := by decide +kernel
theorem dX13_line_365 : decode cX13_line 365 = .ok (.if_icmp .eq 7, 3) := by decide +kernel
theorem dX13_line_368 : decode cX13_line 368 = .ok (.iconst 1, 1) := by decide +kernel
theorem dX13_line_369 : decode cX13_line 369 = .ok (.goto 4, 3) := by decide +kernel
theorem dX13_line_372 : decode cX13_line 372 = .ok (.iconst 0, 1) := by decide +kernel
theorem dX13_line_373 : decode cX13_line 373 = .ok (.invokevirtual 231, 3) := by decide +kernel
theorem dX13_line_376 : decode cX13_line 376 = .ok (.goto 8, 3) := by decide +kernel
theorem dX13_line_379 : decode cX13_line 379 = .ok (.aload_n 0, 1) := by decide +kernel
theorem dX13_line_380 : decode cX13_line 380 = .ok (.iconst 1, 1) := by decide +kernel
theorem dX13_line_381 : decode cX13_line 381 = .ok (.invokevirtual 198, 3) := by decide +kernel
theorem dX13_line_384 : decode cX13_line 384 = .ok (.aload_n 0, 1) := by decide +kernel
theorem dX13_line_385 : decode cX13_line 385 = .ok (.aload_n 0, 1) := by decide +kernel
theorem dX13_line_386 : decode cX13_line 386 = .ok (.getfield 165, 3) := by decide +kernel
theorem dX13_line_389 : decode cX13_line 389 = .ok (.iconst 4, 1) := by decide +kernel
theorem dX13_line_390 : decode cX13_line 390 = .ok (.if_icmp .ne 7, 3) := by decide +kernel
theorem dX13_line_393 : decode cX13_line 393 = .ok (.iconst 1, 1) := by decide +kernel
theorem dX13_line_394 : decode cX13_line 394 = .ok (.goto 4, 3) := by decide +kernel
theorem dX13_line_397 : decode cX13_line 397 = .ok (.iconst 0, 1) := by decide +kernel
theorem dX13_line_398 : decode cX13_line 398 = .ok (.invokevirtual 231, 3) := by decide +kernel
theorem dX13_line_401 : decode cX13_line 401 = .ok (.return_, 1) := by decide +kernel
set_option maxRecDepth 20000 in
theorem ggX13_opens_X13_steps : GoodIn wsX13_opens wsX13_steps := goodIn_r _ [10, 5, 4, 11, 12, 13, 14, 15, 16, 17, 18, 19, 9, 20, 21, 22, 23, 24, 25, 26, 27, 28, 29, 30, 31, 32, 33, 34, 35, 36, 37, 38, 39, 40, 41, 42, 43, 44, 45, 46, 47, 48, 49, 50, 51, 52, 53, 54, 55, 56, 57, 58, 59, 60, 61, 62, 63, 64, 65, 66, 67, 68, 69, 70, 71, 72, 73, 74, 75, 76, 77, 78, 79, 80, 81, 82, 83, 84, 85, 86, 87, 88, 89, 90, 91] (by decide +kernel) (by decide +kernel)
set_option maxRecDepth 20000 in
theorem gX13_opens_X13_steps : GoodIn wsX13_opens (wsV RX13 195 RX13 yX13_steps wsX13_steps) := goodIn_app (goodIn_of _ (by decide +kernel)) ggX13_opens_X13_steps
theorem dX13_opens_0 : decode cX13_opens 0 = .ok (.aload_n 0, 1) := by decide +kernel
theorem dX13_opens_1 : decode cX13_opens 1 = .ok (.iconst 0, 1) := by decide +kernel
theorem dX13_opens_2 : decode cX13_opens 2 = .ok (.putfield 138, 3) := by decide +kernel
theorem dX13_opens_5 : decode cX13_opens 5 = .ok (.aload_n 0, 1) := by decide +kernel
theorem dX13_opens_6 : decode cX13_opens 6 = .ok (.iconst (-1), 1) := by decide +kernel
theorem dX13_opens_7 : decode cX13_opens 7 = .ok (.putfield 40, 3) := by decide +kernel
theorem dX13_opens_10 : decode cX13_opens 10 = .ok (.aload_n 0, 1) := by decide +kernel
theorem dX13_opens_11 : decode cX13_opens 11 = .ok (.iconst 0, 1) := by decide +kernel
theorem dX13_opens_12 : decode cX13_opens 12 = .ok (.putfield 188, 3) := by decide +kernel
theorem dX13_opens_15 : decode cX13_opens 15 = .ok (.aload_n 0, 1) := by decide +kernel
theorem dX13_opens_16 : decode cX13_opens 16 = .ok (.iload_n 1, 1) := by decide +kernel
theorem dX13_opens_17 : decode cX13_opens 17 = .ok (.putfield 145, 3) := by decide +kernel
theorem dX13_opens_20 : decode cX13_opens 20 = .ok (.aload_n 0, 1) := by decide +kernel
theorem dX13_opens_21 : decode cX13_opens 21 = .ok (.iconst 0, 1) := by decide +kernel
theorem dX13_opens_22 : decode cX13_opens 22 = .ok (.putfield 148, 3) := by decide +kernel
theorem dX13_opens_25 : decode cX13_opens 25 = .ok (.aload_n 0, 1) := by decide +kernel
theorem dX13_opens_26 : decode cX13_opens 26 = .ok (.invokevirtual 195, 3) := by decide +kernel
theorem dX13_opens_29 : decode cX13_opens 29 = .ok (.return_, 1) := by decide +kernel
set_option maxRecDepth 20000 in
theorem ggX13_village_X13_right : GoodIn wsX13_village wsX13_right := goodIn_r _ [33, 1, 110, 111, 112, 113, 114, 115, 116, 117, 118, 119, 120, 121, 122, 123, 124, 125, 126, 127, 128, 129, 130, 131, 132, 133, 134, 135, 136, 137, 138, 139, 140, 141, 142, 143, 144, 145, 146, 147, 148, 149, 150, 151, 152, 153, 154, 155, 156, 157, 158, 159, 160, 161, 162, 163, 164, 165, 166, 167, 168, 169, 170, 171, 172, 173] (by decide +kernel) (by decide +kernel)
set_option maxRecDepth 20000 in
theorem gX13_village_X13_right : GoodIn wsX13_village (wsV RX13 235 RX13 yX13_right wsX13_right) := goodIn_app (goodIn_of _ (by decide +kernel)) ggX13_village_X13_right
set_option maxRecDepth 20000 in
theorem ggX13_village_X13_opens : GoodIn wsX13_village wsX13_opens := goodIn_r _ [37, 2, 38, 10, 39, 40, 41, 42, 43, 32, 44, 45, 46, 47, 8, 48, 49, 50, 51, 52, 53, 54, 55, 56, 57, 58, 59, 60, 110, 111, 112, 113, 114, 115, 116, 117, 118, 119, 120, 121, 122, 123, 124, 125, 126, 127, 128, 129, 130, 131, 132, 133, 134, 135, 136, 137, 138, 139, 140, 141, 142, 143, 144, 145, 146, 147, 148, 149, 150, 151, 152, 153, 154, 155, 156, 157, 158, 159, 160, 161, 162, 163, 164, 165, 166, 167, 168, 169, 170, 171, 172, 173] (by decide +kernel) (by decide +kernel)
set_option maxRecDepth 20000 in
theorem gX13_village_X13_opens : GoodIn wsX13_village (wsV RX13 239 RX13 yX13_opens wsX13_opens) := goodIn_app (goodIn_of _ (by decide +kernel)) ggX13_village_X13_opens
set_option maxRecDepth 20000 in
theorem ggX13_village_X13_isGood : GoodIn wsX13_village wsX13_isGood := goodIn_r _ [64, 10, 110, 111, 112, 113, 114, 115, 116, 117, 118, 119, 120, 121, 122, 123, 124, 125, 126, 127, 128, 129, 130, 131, 132, 133, 134, 135, 136, 137, 138, 139, 140, 141, 142, 143, 144, 145, 146, 147, 148, 149, 150, 151, 152, 153, 154, 155, 156, 157, 158, 159, 160, 161, 162, 163, 164, 165, 166, 167, 168, 169, 170, 171, 172, 173] (by decide +kernel) (by decide +kernel)
set_option maxRecDepth 20000 in
theorem gX13_village_X13_isGood : GoodIn wsX13_village (wsV RX13 191 RX13 yX13_isGood wsX13_isGood) := goodIn_app (goodIn_of _ (by decide +kernel)) ggX13_village_X13_isGood
set_option maxRecDepth 20000 in
theorem ggX13_village_X13_line : GoodIn wsX13_village wsX13_line := goodIn_r _ [68, 3, 14, 6, 16, 4, 18, 20, 22, 24, 7, 5, 8, 69, 70, 71, 32, 72, 49, 46, 73, 74, 75, 76, 77, 78, 79, 80, 81, 82, 83, 10, 45, 38, 61, 62, 63, 64, 41, 42, 43, 44, 40, 39, 47, 48, 50, 51, 52, 53, 54, 55, 56, 57, 58, 59, 60, 84, 85, 86, 87, 88, 89, 90, 91, 92, 93, 94, 95, 96, 97, 98, 99, 110, 111, 112, 113, 114, 115, 116, 117, 118, 119, 120, 121, 122, 123, 124, 125, 126, 127, 128, 129, 130, 131, 132, 133, 134, 135, 136, 137, 138, 139, 140, 141, 142, 143, 144, 145, 146, 147, 148, 149, 150, 151, 152, 153, 154, 155, 156, 157, 158, 159, 160, 161, 162, 163, 164, 165, 166, 167, 168, 169, 170, 171, 172, 173] (by decide +kernel) (by decide +kernel)
set_option maxRecDepth 20000 in
theorem gX13_village_X13_line : GoodIn wsX13_village (wsV RX13 242 RX13 yX13_line wsX13_line) := goodIn_app (goodIn_of _ (by decide +kernel)) ggX13_village_X13_line
set_option maxRecDepth 20000 in
theorem ggX13_village_X13_copies : GoodIn wsX13_village wsX13_copies := goodIn_r _ [103] (by decide +kernel) (by decide +kernel)
set_option maxRecDepth 20000 in
theorem gX13_village_X13_copies : GoodIn wsX13_village (wsV RX13 254 RX13 yX13_copies wsX13_copies) := goodIn_app (goodIn_of _ (by decide +kernel)) ggX13_village_X13_copies
set_option maxRecDepth 20000 in
theorem ggX13_village_X13_clears : GoodIn wsX13_village wsX13_clears := goodIn_r _ [107, 108, 109, 110, 111, 112, 113, 114, 115, 116, 117, 118, 119, 120, 121, 122, 123, 124, 125, 126, 127, 128, 129, 130, 131, 132, 133, 134, 135, 136, 137, 138, 139, 140, 141, 142, 143, 144, 145, 146, 147, 148, 149, 150, 151, 152, 153, 154, 155, 156, 157, 158, 159, 160, 161, 162, 163, 164, 165, 166, 167, 168, 169, 170, 171, 172, 173] (by decide +kernel) (by decide +kernel)
set_option maxRecDepth 20000 in
theorem gX13_village_X13_clears : GoodIn wsX13_village (wsV RX13 258 RX13 yX13_clears wsX13_clears) := goodIn_app (goodIn_of _ (by decide +kernel)) ggX13_village_X13_clears
theorem dX13_village_0 : decode cX13_village 0 = .ok (.aload_n 0, 1) := by decide +kernel
theorem dX13_village_1 : decode cX13_village 1 = .ok (.iconst 0, 1) := by decide +kernel
theorem dX13_village_2 : decode cX13_village 2 = .ok (.putfield 135, 3) := by decide +kernel
theorem dX13_village_5 : decode cX13_village 5 = .ok (.aload_n 0, 1) := by decide +kernel
theorem dX13_village_6 : decode cX13_village 6 = .ok (.iload_n 1, 1) := by decide +kernel
theorem dX13_village_7 : decode cX13_village 7 = .ok (.ifCond .lt 15, 3) := by decide +kernel
theorem dX13_village_10 : decode cX13_village 10 = .ok (.iload_n 1, 1) := by decide +kernel
theorem dX13_village_11 : decode cX13_village 11 = .ok (.aload_n 0, 1) := by decide +kernel
theorem dX13_village_12 : decode cX13_village 12 = .ok (.getfield 138, 3) := by decide +kernel
theorem dX13_village_15 : decode cX13_village 15 = .ok (.if_icmp .gt 7, 3) := by decide +kernel
theorem dX13_village_18 : decode cX13_village 18 = .ok (.iconst 1, 1) := by decide +kernel
theorem dX13_village_19 : decode cX13_village 19 = .ok (.goto 4, 3) := by decide +kernel
theorem dX13_village_22 : decode cX13_village 22 = .ok (.iconst 0, 1) := by decide +kernel
theorem dX13_village_23 : decode cX13_village 23 = .ok (.iconst 1, 1) := by decide +kernel
theorem dX13_village_24 : decode cX13_village 24 = .ok (.invokevirtual 235, 3) := by decide +kernel
theorem dX13_village_27 : decode cX13_village 27 = .ok (.ifCond .ne 5, 3) := by decide +kernel
theorem dX13_village_30 : decode cX13_village 30 = .ok (.iconst 0, 1) := by decide +kernel
theorem dX13_village_31 : decode cX13_village 31 = .ok (.ireturn, 1) := by decide +kernel
theorem dX13_village_32 : decode cX13_village 32 = .ok (.aload_n 0, 1) := by decide +kernel
theorem dX13_village_33 : decode cX13_village 33 = .ok (.iconst 0, 1) := by decide +kernel
theorem dX13_village_34 : decode cX13_village 34 = .ok (.putfield 204, 3) := by decide +kernel
theorem dX13_village_37 : decode cX13_village 37 = .ok (.aload_n 0, 1) := by decide +kernel
theorem dX13_village_38 : decode cX13_village 38 = .ok (.iconst 0, 1) := by decide +kernel
theorem dX13_village_39 : decode cX13_village 39 = .ok (.putfield 214, 3) := by decide +kernel
theorem dX13_village_42 : decode cX13_village 42 = .ok (.aload_n 0, 1) := by decide +kernel
theorem dX13_village_43 : decode cX13_village 43 = .ok (.iconst 0, 1) := by decide +kernel
theorem dX13_village_44 : decode cX13_village 44 = .ok (.putfield 228, 3) := by decide +kernel
theorem dX13_village_47 : decode cX13_village 47 = .ok (.aload_n 0, 1) := by decide +kernel
theorem dX13_village_48 : decode cX13_village 48 = .ok (.iconst 0, 1) := by decide +kernel
theorem dX13_village_49 : decode cX13_village 49 = .ok (.putfield 207, 3) := by decide +kernel
theorem dX13_village_52 : decode cX13_village 52 = .ok (.aload_n 0, 1) := by decide +kernel
theorem dX13_village_53 : decode cX13_village 53 = .ok (.iconst 0, 1) := by decide +kernel
theorem dX13_village_54 : decode cX13_village 54 = .ok (.putfield 224, 3) := by decide +kernel
theorem dX13_village_57 : decode cX13_village 57 = .ok (.aload_n 0, 1) := by decide +kernel
theorem dX13_village_58 : decode cX13_village 58 = .ok (.iload_n 1, 1) := by decide +kernel
theorem dX13_village_59 : decode cX13_village 59 = .ok (.invokevirtual 239, 3) := by decide +kernel
theorem dX13_village_62 : decode cX13_village 62 = .ok (.aload_n 0, 1) := by decide +kernel
theorem dX13_village_63 : decode cX13_village 63 = .ok (.invokevirtual 191, 3) := by decide +kernel
theorem dX13_village_66 : decode cX13_village 66 = .ok (.ifCond .eq 17, 3) := by decide +kernel
theorem dX13_village_69 : decode cX13_village 69 = .ok (.aload_n 0, 1) := by decide +kernel
theorem dX13_village_70 : decode cX13_village 70 = .ok (.getfield 165, 3) := by decide +kernel
theorem dX13_village_73 : decode cX13_village 73 = .ok (.ifCond .eq 10, 3) := by decide +kernel
theorem dX13_village_76 : decode cX13_village 76 = .ok (.aload_n 0, 1) := by decide +kernel
theorem dX13_village_77 : decode cX13_village 77 = .ok (.invokevirtual 242, 3) := by decide +kernel
theorem dX13_village_80 : decode cX13_village 80 = .ok (.goto (-18), 3) := by decide +kernel
theorem dX13_village_83 : decode cX13_village 83 = .ok (.aload_n 0, 1) := by decide +kernel
theorem dX13_village_84 : decode cX13_village 84 = .ok (.invokevirtual 191, 3) := by decide +kernel
theorem dX13_village_87 : decode cX13_village 87 = .ok (.ifCond .ne 18, 3) := by decide +kernel
theorem dX13_village_90 : decode cX13_village 90 = .ok (.aload_n 0, 1) := by decide +kernel
theorem dX13_village_91 : decode cX13_village 91 = .ok (.getfield 44, 3) := by decide +kernel
theorem dX13_village_94 : decode cX13_village 94 = .ok (.iconst 0, 1) := by decide +kernel
theorem dX13_village_95 : decode cX13_village 95 = .ok (.dup2, 1) := by decide +kernel
theorem dX13_village_96 : decode cX13_village 96 = .ok (.iaload, 1) := by decide +kernel
theorem dX13_village_97 : decode cX13_village 97 = .ok (.iconst 1, 1) := by decide +kernel
theorem dX13_village_98 : decode cX13_village 98 = .ok (.iadd, 1) := by decide +kernel
theorem dX13_village_99 : decode cX13_village 99 = .ok (.iastore, 1) := by decide +kernel
theorem dX13_village_100 : decode cX13_village 100 = .ok (.aload_n 0, 1) := by decide +kernel
theorem dX13_village_101 : decode cX13_village 101 = .ok (.getfield 188, 3) := by decide +kernel
theorem dX13_village_104 : decode cX13_village 104 = .ok (.ireturn, 1) := by decide +kernel
theorem dX13_village_105 : decode cX13_village 105 = .ok (.aload_n 0, 1) := by decide +kernel
theorem dX13_village_106 : decode cX13_village 106 = .ok (.aload_n 0, 1) := by decide +kernel
theorem dX13_village_107 : decode cX13_village 107 = .ok (.getfield 204, 3) := by decide +kernel
theorem dX13_village_110 : decode cX13_village 110 = .ok (.putfield 245, 3) := by decide +kernel
theorem dX13_village_113 : decode cX13_village 113 = .ok (.aload_n 0, 1) := by decide +kernel
theorem dX13_village_114 : decode cX13_village 114 = .ok (.aload_n 0, 1) := by decide +kernel
theorem dX13_village_115 : decode cX13_village 115 = .ok (.getfield 228, 3) := by decide +kernel
theorem dX13_village_118 : decode cX13_village 118 = .ok (.putfield 248, 3) := by decide +kernel
theorem dX13_village_121 : decode cX13_village 121 = .ok (.aload_n 0, 1) := by decide +kernel
theorem dX13_village_122 : decode cX13_village 122 = .ok (.aload_n 0, 1) := by decide +kernel
theorem dX13_village_123 : decode cX13_village 123 = .ok (.getfield 207, 3) := by decide +kernel
theorem dX13_village_126 : decode cX13_village 126 = .ok (.putfield 251, 3) := by decide +kernel
theorem dX13_village_129 : decode cX13_village 129 = .ok (.aload_n 0, 1) := by decide +kernel
theorem dX13_village_130 : decode cX13_village 130 = .ok (.aload_n 0, 1) := by decide +kernel
theorem dX13_village_131 : decode cX13_village 131 = .ok (.getfield 50, 3) := by decide +kernel
theorem dX13_village_134 : decode cX13_village 134 = .ok (.aload_n 0, 1) := by decide +kernel
theorem dX13_village_135 : decode cX13_village 135 = .ok (.getfield 7, 3) := by decide +kernel
theorem dX13_village_138 : decode cX13_village 138 = .ok (.invokevirtual 254, 3) := by decide +kernel
theorem dX13_village_141 : decode cX13_village 141 = .ok (.aload_n 0, 1) := by decide +kernel
theorem dX13_village_142 : decode cX13_village 142 = .ok (.aload_n 0, 1) := by decide +kernel
theorem dX13_village_143 : decode cX13_village 143 = .ok (.getfield 53, 3) := by decide +kernel
theorem dX13_village_146 : decode cX13_village 146 = .ok (.aload_n 0, 1) := by decide +kernel
theorem dX13_village_147 : decode cX13_village 147 = .ok (.getfield 13, 3) := by decide +kernel
theorem dX13_village_150 : decode cX13_village 150 = .ok (.invokevirtual 254, 3) := by decide +kernel
theorem dX13_village_153 : decode cX13_village 153 = .ok (.aload_n 0, 1) := by decide +kernel
theorem dX13_village_154 : decode cX13_village 154 = .ok (.aload_n 0, 1) := by decide +kernel
theorem dX13_village_155 : decode cX13_village 155 = .ok (.getfield 56, 3) := by decide +kernel
theorem dX13_village_158 : decode cX13_village 158 = .ok (.aload_n 0, 1) := by decide +kernel
theorem dX13_village_159 : decode cX13_village 159 = .ok (.getfield 25, 3) := by decide +kernel
theorem dX13_village_162 : decode cX13_village 162 = .ok (.invokevirtual 254, 3) := by decide +kernel
theorem dX13_village_165 : decode cX13_village 165 = .ok (.aload_n 0, 1) := by decide +kernel
theorem dX13_village_166 : decode cX13_village 166 = .ok (.aload_n 0, 1) := by decide +kernel
theorem dX13_village_167 : decode cX13_village 167 = .ok (.getfield 59, 3) := by decide +kernel
theorem dX13_village_170 : decode cX13_village 170 = .ok (.aload_n 0, 1) := by decide +kernel
theorem dX13_village_171 : decode cX13_village 171 = .ok (.getfield 28, 3) := by decide +kernel
theorem dX13_village_174 : decode cX13_village 174 = .ok (.invokevirtual 254, 3) := by decide +kernel
theorem dX13_village_177 : decode cX13_village 177 = .ok (.aload_n 0, 1) := by decide +kernel
theorem dX13_village_178 : decode cX13_village 178 = .ok (.aload_n 0, 1) := by decide +kernel
theorem dX13_village_179 : decode cX13_village 179 = .ok (.getfield 62, 3) := by decide +kernel
theorem dX13_village_182 : decode cX13_village 182 = .ok (.aload_n 0, 1) := by decide +kernel
theorem dX13_village_183 : decode cX13_village 183 = .ok (.getfield 31, 3) := by decide +kernel
theorem dX13_village_186 : decode cX13_village 186 = .ok (.invokevirtual 254, 3) := by decide +kernel
theorem dX13_village_189 : decode cX13_village 189 = .ok (.aload_n 0, 1) := by decide +kernel
theorem dX13_village_190 : decode cX13_village 190 = .ok (.aload_n 0, 1) := by decide +kernel
theorem dX13_village_191 : decode cX13_village 191 = .ok (.getfield 65, 3) := by decide +kernel
theorem dX13_village_194 : decode cX13_village 194 = .ok (.aload_n 0, 1) := by decide +kernel
theorem dX13_village_195 : decode cX13_village 195 = .ok (.getfield 34, 3) := by decide +kernel
theorem dX13_village_198 : decode cX13_village 198 = .ok (.invokevirtual 254, 3) := by decide +kernel
theorem dX13_village_201 : decode cX13_village 201 = .ok (.iconst 0, 1) := by decide +kernel
theorem dX13_village_202 : decode cX13_village 202 = .ok (.istore_n 2, 1) := by decide +kernel
theorem dX13_village_203 : decode cX13_village 203 = .ok (.iload_n 2, 1) := by decide +kernel
theorem dX13_village_204 : decode cX13_village 204 = .ok (.bipush 10, 2) := by decide +kernel
theorem dX13_village_206 : decode cX13_village 206 = .ok (.if_icmp .ge 28, 3) := by decide +kernel
theorem dX13_village_209 : decode cX13_village 209 = .ok (.aload_n 0, 1) := by decide +kernel
theorem dX13_village_210 : decode cX13_village 210 = .ok (.getfield 22, 3) := by decide +kernel
theorem dX13_village_213 : decode cX13_village 213 = .ok (.iload_n 2, 1) := by decide +kernel
theorem dX13_village_214 : decode cX13_village 214 = .ok (.iload_n 2, 1) := by decide +kernel
theorem dX13_village_215 : decode cX13_village 215 = .ok (.aload_n 0, 1) := by decide +kernel
theorem dX13_village_216 : decode cX13_village 216 = .ok (.getfield 214, 3) := by decide +kernel
theorem dX13_village_219 : decode cX13_village 219 = .ok (.if_icmp .ge 7, 3) := by decide +kernel
theorem dX13_village_222 : decode cX13_village 222 = .ok (.iconst 1, 1) := by decide +kernel
theorem dX13_village_223 : decode cX13_village 223 = .ok (.goto 4, 3) := by decide +kernel
theorem dX13_village_226 : decode cX13_village 226 = .ok (.iconst 0, 1) := by decide +kernel
theorem dX13_village_227 : decode cX13_village 227 = .ok (.iastore, 1) := by decide +kernel
theorem dX13_village_228 : decode cX13_village 228 = .ok (.iinc 2 1, 3) := by decide +kernel
theorem dX13_village_231 : decode cX13_village 231 = .ok (.goto (-28), 3) := by decide +kernel
theorem dX13_village_234 : decode cX13_village 234 = .ok (.aload_n 0, 1) := by decide +kernel
theorem dX13_village_235 : decode cX13_village 235 = .ok (.invokevirtual 258, 3) := by decide +kernel
theorem dX13_village_238 : decode cX13_village 238 = .ok (.aload_n 0, 1) := by decide +kernel
theorem dX13_village_239 : decode cX13_village 239 = .ok (.iconst 0, 1) := by decide +kernel
theorem dX13_village_240 : decode cX13_village 240 = .ok (.putfield 261, 3) := by decide +kernel
theorem dX13_village_243 : decode cX13_village 243 = .ok (.aload_n 0, 1) := by decide +kernel
theorem dX13_village_244 : decode cX13_village 244 = .ok (.iconst 0, 1) := by decide +kernel
theorem dX13_village_245 : decode cX13_village 245 = .ok (.putfield 264, 3) := by decide +kernel
theorem dX13_village_248 : decode cX13_village 248 = .ok (.iconst 0, 1) := by decide +kernel
theorem dX13_village_249 : decode cX13_village 249 = .ok (.ireturn, 1) := by decide +kernel
theorem dX13_clears_0 : decode cX13_clears 0 = .ok (.iconst 0, 1) := by decide +kernel
theorem dX13_clears_1 : decode cX13_clears 1 = .ok (.istore_n 1, 1) := by decide +kernel
theorem dX13_clears_2 : decode cX13_clears 2 = .ok (.iload_n 1, 1) := by decide +kernel
theorem dX13_clears_3 : decode cX13_clears 3 = .ok (.iconst 5, 1) := by decide +kernel
theorem dX13_clears_4 : decode cX13_clears 4 = .ok (.if_icmp .ge 16, 3) := by decide +kernel
theorem dX13_clears_7 : decode cX13_clears 7 = .ok (.aload_n 0, 1) := by decide +kernel
theorem dX13_clears_8 : decode cX13_clears 8 = .ok (.getfield 16, 3) := by decide +kernel
theorem dX13_clears_11 : decode cX13_clears 11 = .ok (.iload_n 1, 1) := by decide +kernel
theorem dX13_clears_12 : decode cX13_clears 12 = .ok (.iconst 0, 1) := by decide +kernel
theorem dX13_clears_13 : decode cX13_clears 13 = .ok (.iastore, 1) := by decide +kernel
theorem dX13_clears_14 : decode cX13_clears 14 = .ok (.iinc 1 1, 3) := by decide +kernel
theorem dX13_clears_17 : decode cX13_clears 17 = .ok (.goto (-15), 3) := by decide +kernel
theorem dX13_clears_20 : decode cX13_clears 20 = .ok (.iconst 0, 1) := by decide +kernel
theorem dX13_clears_21 : decode cX13_clears 21 = .ok (.istore_n 1, 1) := by decide +kernel
theorem dX13_clears_22 : decode cX13_clears 22 = .ok (.iload_n 1, 1) := by decide +kernel
theorem dX13_clears_23 : decode cX13_clears 23 = .ok (.bipush 25, 2) := by decide +kernel
theorem dX13_clears_25 : decode cX13_clears 25 = .ok (.if_icmp .ge 16, 3) := by decide +kernel
theorem dX13_clears_28 : decode cX13_clears 28 = .ok (.aload_n 0, 1) := by decide +kernel
theorem dX13_clears_29 : decode cX13_clears 29 = .ok (.getfield 19, 3) := by decide +kernel
theorem dX13_clears_32 : decode cX13_clears 32 = .ok (.iload_n 1, 1) := by decide +kernel
theorem dX13_clears_33 : decode cX13_clears 33 = .ok (.iconst 0, 1) := by decide +kernel
theorem dX13_clears_34 : decode cX13_clears 34 = .ok (.iastore, 1) := by decide +kernel
theorem dX13_clears_35 : decode cX13_clears 35 = .ok (.iinc 1 1, 3) := by decide +kernel
theorem dX13_clears_38 : decode cX13_clears 38 = .ok (.goto (-16), 3) := by decide +kernel
theorem dX13_clears_41 : decode cX13_clears 41 = .ok (.return_, 1) := by decide +kernel
theorem dX13_fault_0 : decode cX13_fault 0 = .ok (.aload_n 0, 1) := by decide +kernel
theorem dX13_fault_1 : decode cX13_fault 1 = .ok (.iconst 0, 1) := by decide +kernel
theorem dX13_fault_2 : decode cX13_fault 2 = .ok (.putfield 135, 3) := by decide +kernel
theorem dX13_fault_5 : decode cX13_fault 5 = .ok (.aload_n 0, 1) := by decide +kernel
theorem dX13_fault_6 : decode cX13_fault 6 = .ok (.getfield 40, 3) := by decide +kernel
theorem dX13_fault_9 : decode cX13_fault 9 = .ok (.ireturn, 1) := by decide +kernel
set_option maxRecDepth 20000 in
theorem ggX13_readsDay_X13_is : GoodIn wsX13_readsDay wsX13_is := goodIn_r _ [10, 5, 11, 12, 13, 14, 9, 15, 16, 17, 18, 19, 66, 67, 68, 69, 70, 71, 72, 73, 74, 75, 76, 77, 78, 79, 80, 81, 82, 83, 84, 85, 86, 87, 88, 89, 90, 91, 92, 93, 94, 95, 96, 97, 98, 99, 100, 101, 102, 103, 104, 105, 106, 107, 108, 109, 110, 111, 112, 113, 114, 115, 116, 117, 118, 119, 120, 121, 122, 123, 124, 125, 126, 127, 128, 129] (by decide +kernel) (by decide +kernel)
set_option maxRecDepth 20000 in
theorem gX13_readsDay_X13_is : GoodIn wsX13_readsDay (wsV RX13 201 RX13 yX13_is wsX13_is) := goodIn_app (goodIn_of _ (by decide +kernel)) ggX13_readsDay_X13_is
set_option maxRecDepth 20000 in
theorem ggX13_readsDay_X13_need : GoodIn wsX13_readsDay wsX13_need := goodIn_r _ [23, 24, 25, 26, 9, 27, 28, 29, 30, 31, 32, 33, 34, 35, 12, 36, 5, 37, 11, 38, 39, 40, 41, 42, 43, 44, 45, 46, 47, 48, 49, 50, 51, 52, 53, 66, 67, 68, 69, 70, 71, 72, 73, 74, 75, 76, 77, 78, 79, 80, 81, 82, 83, 84, 85, 86, 87, 88, 89, 90, 91, 92, 93, 94, 95, 96, 97, 98, 99, 100, 101, 102, 103, 104, 105, 106, 107, 108, 109, 110, 111, 112, 113, 114, 115, 116, 117, 118, 119, 120, 121, 122, 123, 124, 125, 126, 127, 128, 129] (by decide +kernel) (by decide +kernel)
set_option maxRecDepth 20000 in
theorem gX13_readsDay_X13_need : GoodIn wsX13_readsDay (wsV RX13 231 RX13 yX13_need wsX13_need) := goodIn_app (goodIn_of _ (by decide +kernel)) ggX13_readsDay_X13_need
set_option maxRecDepth 20000 in
theorem ggX13_readsDay_X13_among : GoodIn wsX13_readsDay wsX13_among := goodIn_r _ [57, 5, 11, 36, 24, 25, 26, 9, 27, 28, 49, 50, 51, 52, 35, 53, 29, 30, 31, 32, 33, 34, 12, 37, 38, 39, 40, 41, 42, 43, 44, 45, 46, 47, 48, 66, 67, 68, 69, 70, 71, 72, 73, 74, 75, 76, 77, 78, 79, 80, 81, 82, 83, 84, 85, 86, 87, 88, 89, 90, 91, 92, 93, 94, 95, 96, 97, 98, 99, 100, 101, 102, 103, 104, 105, 106, 107, 108, 109, 110, 111, 112, 113, 114, 115, 116, 117, 118, 119, 120, 121, 122, 123, 124, 125, 126, 127, 128, 129] (by decide +kernel) (by decide +kernel)
set_option maxRecDepth 20000 in
theorem gX13_readsDay_X13_among : GoodIn wsX13_readsDay (wsV RX13 217 RX13 yX13_among wsX13_among) := goodIn_app (goodIn_of _ (by decide +kernel)) ggX13_readsDay_X13_among
set_option maxRecDepth 20000 in
theorem ggX13_readsDay_X13_figures : GoodIn wsX13_readsDay wsX13_figures := goodIn_r _ [61, 5, 11, 37, 24, 25, 26, 9, 27, 28, 49, 50, 51, 52, 35, 53, 29, 30, 31, 32, 33, 34, 12, 36, 38, 39, 40, 41, 42, 43, 44, 45, 46, 47, 48, 66, 67, 68, 69, 70, 71, 72, 73, 74, 75, 76, 77, 78, 79, 80, 81, 82, 83, 84, 85, 86, 87, 88, 89, 90, 91, 92, 93, 94, 95, 96, 97, 98, 99, 100, 101, 102, 103, 104, 105, 106, 107, 108, 109, 110, 111, 112, 113, 114, 115, 116, 117, 118, 119, 120, 121, 122, 123, 124, 125, 126, 127, 128, 129] (by decide +kernel) (by decide +kernel)
set_option maxRecDepth 20000 in
theorem gX13_readsDay_X13_figures : GoodIn wsX13_readsDay (wsV RX13 220 RX13 yX13_figures wsX13_figures) := goodIn_app (goodIn_of _ (by decide +kernel)) ggX13_readsDay_X13_figures
set_option maxRecDepth 20000 in
theorem ggX13_readsDay_X13_number : GoodIn wsX13_readsDay wsX13_number := goodIn_r _ [65, 5, 11, 36, 24, 25, 26, 9, 27, 28, 49, 50, 51, 52, 35, 53, 29, 30, 31, 32, 33, 34, 12, 37, 38, 39, 40, 41, 42, 43, 44, 45, 46, 47, 48, 66, 67, 68, 69, 70, 71, 72, 73, 74, 75, 76, 77, 78, 79, 80, 81, 82, 83, 84, 85, 86, 87, 88, 89, 90, 91, 92, 93, 94, 95, 96, 97, 98, 99, 100, 101, 102, 103, 104, 105, 106, 107, 108, 109, 110, 111, 112, 113, 114, 115, 116, 117, 118, 119, 120, 121, 122, 123, 124, 125, 126, 127, 128, 129] (by decide +kernel) (by decide +kernel)
set_option maxRecDepth 20000 in
theorem gX13_readsDay_X13_number : GoodIn wsX13_readsDay (wsV RX13 210 RX13 yX13_number wsX13_number) := goodIn_app (goodIn_of _ (by decide +kernel)) ggX13_readsDay_X13_number
set_option maxRecDepth 20000 in
theorem ggX13_readsDay_X13_isGood : GoodIn wsX13_readsDay wsX13_isGood := goodIn_r _ [27, 28, 66, 67, 68, 69, 70, 71, 72, 73, 74, 75, 76, 77, 78, 79, 80, 81, 82, 83, 84, 85, 86, 87, 88, 89, 90, 91, 92, 93, 94, 95, 96, 97, 98, 99, 100, 101, 102, 103, 104, 105, 106, 107, 108, 109, 110, 111, 112, 113, 114, 115, 116, 117, 118, 119, 120, 121, 122, 123, 124, 125, 126, 127, 128, 129] (by decide +kernel) (by decide +kernel)
set_option maxRecDepth 20000 in
theorem gX13_readsDay_X13_isGood : GoodIn wsX13_readsDay (wsV RX13 191 RX13 yX13_isGood wsX13_isGood) := goodIn_app (goodIn_of _ (by decide +kernel)) ggX13_readsDay_X13_isGood
theorem dX13_readsDay_0 : decode cX13_readsDay 0 = .ok (.iconst (-1), 1) := by decide +kernel
theorem dX13_readsDay_1 : decode cX13_readsDay 1 = .ok (.istore_n 1, 1) := by decide +kernel
theorem dX13_readsDay_2 : decode cX13_readsDay 2 = .ok (.iconst 0, 1) := by decide +kernel
theorem dX13_readsDay_3 : decode cX13_readsDay 3 = .ok (.istore_n 2, 1) := by decide +kernel
theorem dX13_readsDay_4 : decode cX13_readsDay 4 = .ok (.iload_n 2, 1) := by decide +kernel
theorem dX13_readsDay_5 : decode cX13_readsDay 5 = .ok (.bipush 7, 2) := by decide +kernel
theorem dX13_readsDay_7 : decode cX13_readsDay 7 = .ok (.if_icmp .gt 19, 3) := by decide +kernel
theorem dX13_readsDay_10 : decode cX13_readsDay 10 = .ok (.aload_n 0, 1) := by decide +kernel
theorem dX13_readsDay_11 : decode cX13_readsDay 11 = .ok (.iload_n 2, 1) := by decide +kernel
theorem dX13_readsDay_12 : decode cX13_readsDay 12 = .ok (.invokevirtual 201, 3) := by decide +kernel
theorem dX13_readsDay_15 : decode cX13_readsDay 15 = .ok (.ifCond .eq 5, 3) := by decide +kernel
theorem dX13_readsDay_18 : decode cX13_readsDay 18 = .ok (.iload_n 2, 1) := by decide +kernel
theorem dX13_readsDay_19 : decode cX13_readsDay 19 = .ok (.istore_n 1, 1) := by decide +kernel
theorem dX13_readsDay_20 : decode cX13_readsDay 20 = .ok (.iinc 2 1, 3) := by decide +kernel
theorem dX13_readsDay_23 : decode cX13_readsDay 23 = .ok (.goto (-19), 3) := by decide +kernel
theorem dX13_readsDay_26 : decode cX13_readsDay 26 = .ok (.aload_n 0, 1) := by decide +kernel
theorem dX13_readsDay_27 : decode cX13_readsDay 27 = .ok (.iload_n 1, 1) := by decide +kernel
theorem dX13_readsDay_28 : decode cX13_readsDay 28 = .ok (.iconst (-1), 1) := by decide +kernel
theorem dX13_readsDay_29 : decode cX13_readsDay 29 = .ok (.if_icmp .eq 7, 3) := by decide +kernel
theorem dX13_readsDay_32 : decode cX13_readsDay 32 = .ok (.iconst 1, 1) := by decide +kernel
theorem dX13_readsDay_33 : decode cX13_readsDay 33 = .ok (.goto 4, 3) := by decide +kernel
theorem dX13_readsDay_36 : decode cX13_readsDay 36 = .ok (.iconst 0, 1) := by decide +kernel
theorem dX13_readsDay_37 : decode cX13_readsDay 37 = .ok (.invokevirtual 231, 3) := by decide +kernel
theorem dX13_readsDay_40 : decode cX13_readsDay 40 = .ok (.iconst 5, 1) := by decide +kernel
theorem dX13_readsDay_41 : decode cX13_readsDay 41 = .ok (.aload_n 0, 1) := by decide +kernel
theorem dX13_readsDay_42 : decode cX13_readsDay 42 = .ok (.getfield 267, 3) := by decide +kernel
theorem dX13_readsDay_45 : decode cX13_readsDay 45 = .ok (.imul, 1) := by decide +kernel
theorem dX13_readsDay_46 : decode cX13_readsDay 46 = .ok (.istore_n 2, 1) := by decide +kernel
theorem dX13_readsDay_47 : decode cX13_readsDay 47 = .ok (.aload_n 0, 1) := by decide +kernel
theorem dX13_readsDay_48 : decode cX13_readsDay 48 = .ok (.getfield 68, 3) := by decide +kernel
theorem dX13_readsDay_51 : decode cX13_readsDay 51 = .ok (.iload_n 2, 1) := by decide +kernel
theorem dX13_readsDay_52 : decode cX13_readsDay 52 = .ok (.iload_n 1, 1) := by decide +kernel
theorem dX13_readsDay_53 : decode cX13_readsDay 53 = .ok (.iastore, 1) := by decide +kernel
theorem dX13_readsDay_54 : decode cX13_readsDay 54 = .ok (.aload_n 0, 1) := by decide +kernel
theorem dX13_readsDay_55 : decode cX13_readsDay 55 = .ok (.getfield 68, 3) := by decide +kernel
theorem dX13_readsDay_58 : decode cX13_readsDay 58 = .ok (.iload_n 2, 1) := by decide +kernel
theorem dX13_readsDay_59 : decode cX13_readsDay 59 = .ok (.iconst 1, 1) := by decide +kernel
theorem dX13_readsDay_60 : decode cX13_readsDay 60 = .ok (.iadd, 1) := by decide +kernel
theorem dX13_readsDay_61 : decode cX13_readsDay 61 = .ok (.iconst 0, 1) := by decide +kernel
theorem dX13_readsDay_62 : decode cX13_readsDay 62 = .ok (.iastore, 1) := by decide +kernel
theorem dX13_readsDay_63 : decode cX13_readsDay 63 = .ok (.aload_n 0, 1) := by decide +kernel
theorem dX13_readsDay_64 : decode cX13_readsDay 64 = .ok (.getfield 68, 3) := by decide +kernel
theorem dX13_readsDay_67 : decode cX13_readsDay 67 = .ok (.iload_n 2, 1) := by decide +kernel
theorem dX13_readsDay_68 : decode cX13_readsDay 68 = .ok (.iconst 2, 1) := by decide +kernel
theorem dX13_readsDay_69 : decode cX13_readsDay 69 = .ok (.iadd, 1) := by decide +kernel
theorem dX13_readsDay_70 : decode cX13_readsDay 70 = .ok (.iconst 0, 1) := by decide +kernel
theorem dX13_readsDay_71 : decode cX13_readsDay 71 = .ok (.iastore, 1) := by decide +kernel
theorem dX13_readsDay_72 : decode cX13_readsDay 72 = .ok (.aload_n 0, 1) := by decide +kernel
theorem dX13_readsDay_73 : decode cX13_readsDay 73 = .ok (.getfield 68, 3) := by decide +kernel
theorem dX13_readsDay_76 : decode cX13_readsDay 76 = .ok (.iload_n 2, 1) := by decide +kernel
theorem dX13_readsDay_77 : decode cX13_readsDay 77 = .ok (.iconst 3, 1) := by decide +kernel
theorem dX13_readsDay_78 : decode cX13_readsDay 78 = .ok (.iadd, 1) := by decide +kernel
theorem dX13_readsDay_79 : decode cX13_readsDay 79 = .ok (.iconst 0, 1) := by decide +kernel
theorem dX13_readsDay_80 : decode cX13_readsDay 80 = .ok (.iastore, 1) := by decide +kernel
theorem dX13_readsDay_81 : decode cX13_readsDay 81 = .ok (.aload_n 0, 1) := by decide +kernel
theorem dX13_readsDay_82 : decode cX13_readsDay 82 = .ok (.getfield 68, 3) := by decide +kernel
theorem dX13_readsDay_85 : decode cX13_readsDay 85 = .ok (.iload_n 2, 1) := by decide +kernel
theorem dX13_readsDay_86 : decode cX13_readsDay 86 = .ok (.iconst 4, 1) := by decide +kernel
theorem dX13_readsDay_87 : decode cX13_readsDay 87 = .ok (.iadd, 1) := by decide +kernel
theorem dX13_readsDay_88 : decode cX13_readsDay 88 = .ok (.iconst 0, 1) := by decide +kernel
theorem dX13_readsDay_89 : decode cX13_readsDay 89 = .ok (.iastore, 1) := by decide +kernel
theorem dX13_readsDay_90 : decode cX13_readsDay 90 = .ok (.iload_n 1, 1) := by decide +kernel
theorem dX13_readsDay_91 : decode cX13_readsDay 91 = .ok (.iconst 5, 1) := by decide +kernel
theorem dX13_readsDay_92 : decode cX13_readsDay 92 = .ok (.if_icmp .eq 9, 3) := by decide +kernel
theorem dX13_readsDay_95 : decode cX13_readsDay 95 = .ok (.iload_n 1, 1) := by decide +kernel
theorem dX13_readsDay_96 : decode cX13_readsDay 96 = .ok (.bipush 7, 2) := by decide +kernel
theorem dX13_readsDay_98 : decode cX13_readsDay 98 = .ok (.if_icmp .ne 49, 3) := by decide +kernel
theorem dX13_readsDay_101 : decode cX13_readsDay 101 = .ok (.aload_n 0, 1) := by decide +kernel
theorem dX13_readsDay_102 : decode cX13_readsDay 102 = .ok (.getfield 68, 3) := by decide +kernel
theorem dX13_readsDay_105 : decode cX13_readsDay 105 = .ok (.iload_n 2, 1) := by decide +kernel
theorem dX13_readsDay_106 : decode cX13_readsDay 106 = .ok (.iconst 1, 1) := by decide +kernel
theorem dX13_readsDay_107 : decode cX13_readsDay 107 = .ok (.iadd, 1) := by decide +kernel
theorem dX13_readsDay_108 : decode cX13_readsDay 108 = .ok (.aload_n 0, 1) := by decide +kernel
theorem dX13_readsDay_109 : decode cX13_readsDay 109 = .ok (.bipush 10, 2) := by decide +kernel
theorem dX13_readsDay_111 : decode cX13_readsDay 111 = .ok (.iconst (-1), 1) := by decide +kernel
theorem dX13_readsDay_112 : decode cX13_readsDay 112 = .ok (.invokevirtual 217, 3) := by decide +kernel
theorem dX13_readsDay_115 : decode cX13_readsDay 115 = .ok (.iastore, 1) := by decide +kernel
theorem dX13_readsDay_116 : decode cX13_readsDay 116 = .ok (.iload_n 1, 1) := by decide +kernel
theorem dX13_readsDay_117 : decode cX13_readsDay 117 = .ok (.bipush 7, 2) := by decide +kernel
theorem dX13_readsDay_119 : decode cX13_readsDay 119 = .ok (.if_icmp .ne 140, 3) := by decide +kernel
theorem dX13_readsDay_122 : decode cX13_readsDay 122 = .ok (.aload_n 0, 1) := by decide +kernel
theorem dX13_readsDay_123 : decode cX13_readsDay 123 = .ok (.getfield 68, 3) := by decide +kernel
theorem dX13_readsDay_126 : decode cX13_readsDay 126 = .ok (.iload_n 2, 1) := by decide +kernel
theorem dX13_readsDay_127 : decode cX13_readsDay 127 = .ok (.iconst 2, 1) := by decide +kernel
theorem dX13_readsDay_128 : decode cX13_readsDay 128 = .ok (.iadd, 1) := by decide +kernel
theorem dX13_readsDay_129 : decode cX13_readsDay 129 = .ok (.aload_n 0, 1) := by decide +kernel
theorem dX13_readsDay_130 : decode cX13_readsDay 130 = .ok (.bipush 10, 2) := by decide +kernel
theorem dX13_readsDay_132 : decode cX13_readsDay 132 = .ok (.aload_n 0, 1) := by decide +kernel
theorem dX13_readsDay_133 : decode cX13_readsDay 133 = .ok (.getfield 68, 3) := by decide +kernel
theorem dX13_readsDay_136 : decode cX13_readsDay 136 = .ok (.iload_n 2, 1) := by decide +kernel
theorem dX13_readsDay_137 : decode cX13_readsDay 137 = .ok (.iconst 1, 1) := by decide +kernel
theorem dX13_readsDay_138 : decode cX13_readsDay 138 = .ok (.iadd, 1) := by decide +kernel
theorem dX13_readsDay_139 : decode cX13_readsDay 139 = .ok (.iaload, 1) := by decide +kernel
theorem dX13_readsDay_140 : decode cX13_readsDay 140 = .ok (.invokevirtual 217, 3) := by decide +kernel
theorem dX13_readsDay_143 : decode cX13_readsDay 143 = .ok (.iastore, 1) := by decide +kernel
theorem dX13_readsDay_144 : decode cX13_readsDay 144 = .ok (.goto 115, 3) := by decide +kernel
theorem dX13_readsDay_147 : decode cX13_readsDay 147 = .ok (.iload_n 1, 1) := by decide +kernel
theorem dX13_readsDay_148 : decode cX13_readsDay 148 = .ok (.iconst 4, 1) := by decide +kernel
theorem dX13_readsDay_149 : decode cX13_readsDay 149 = .ok (.if_icmp .eq 110, 3) := by decide +kernel
theorem dX13_readsDay_152 : decode cX13_readsDay 152 = .ok (.aload_n 0, 1) := by decide +kernel
theorem dX13_readsDay_153 : decode cX13_readsDay 153 = .ok (.getfield 68, 3) := by decide +kernel
theorem dX13_readsDay_156 : decode cX13_readsDay 156 = .ok (.iload_n 2, 1) := by decide +kernel
theorem dX13_readsDay_157 : decode cX13_readsDay 157 = .ok (.iconst 1, 1) := by decide +kernel
theorem dX13_readsDay_158 : decode cX13_readsDay 158 = .ok (.iadd, 1) := by decide +kernel
theorem dX13_readsDay_159 : decode cX13_readsDay 159 = .ok (.aload_n 0, 1) := by decide +kernel
theorem dX13_readsDay_160 : decode cX13_readsDay 160 = .ok (.aload_n 0, 1) := by decide +kernel
theorem dX13_readsDay_161 : decode cX13_readsDay 161 = .ok (.getfield 245, 3) := by decide +kernel
theorem dX13_readsDay_164 : decode cX13_readsDay 164 = .ok (.iconst (-1), 1) := by decide +kernel
theorem dX13_readsDay_165 : decode cX13_readsDay 165 = .ok (.invokevirtual 217, 3) := by decide +kernel
theorem dX13_readsDay_168 : decode cX13_readsDay 168 = .ok (.iastore, 1) := by decide +kernel
theorem dX13_readsDay_169 : decode cX13_readsDay 169 = .ok (.iload_n 1, 1) := by decide +kernel
theorem dX13_readsDay_170 : decode cX13_readsDay 170 = .ok (.iconst 2, 1) := by decide +kernel
theorem dX13_readsDay_171 : decode cX13_readsDay 171 = .ok (.if_icmp .eq 9, 3) := by decide +kernel
theorem dX13_readsDay_174 : decode cX13_readsDay 174 = .ok (.iload_n 1, 1) := by decide +kernel
theorem dX13_readsDay_175 : decode cX13_readsDay 175 = .ok (.bipush 6, 2) := by decide +kernel
theorem dX13_readsDay_177 : decode cX13_readsDay 177 = .ok (.if_icmp .ne 27, 3) := by decide +kernel
theorem dX13_readsDay_180 : decode cX13_readsDay 180 = .ok (.aload_n 0, 1) := by decide +kernel
theorem dX13_readsDay_181 : decode cX13_readsDay 181 = .ok (.getfield 68, 3) := by decide +kernel
theorem dX13_readsDay_184 : decode cX13_readsDay 184 = .ok (.iload_n 2, 1) := by decide +kernel
theorem dX13_readsDay_185 : decode cX13_readsDay 185 = .ok (.iconst 2, 1) := by decide +kernel
theorem dX13_readsDay_186 : decode cX13_readsDay 186 = .ok (.iadd, 1) := by decide +kernel
theorem dX13_readsDay_187 : decode cX13_readsDay 187 = .ok (.aload_n 0, 1) := by decide +kernel
theorem dX13_readsDay_188 : decode cX13_readsDay 188 = .ok (.aload_n 0, 1) := by decide +kernel
theorem dX13_readsDay_189 : decode cX13_readsDay 189 = .ok (.getfield 245, 3) := by decide +kernel
theorem dX13_readsDay_192 : decode cX13_readsDay 192 = .ok (.aload_n 0, 1) := by decide +kernel
theorem dX13_readsDay_193 : decode cX13_readsDay 193 = .ok (.getfield 68, 3) := by decide +kernel
theorem dX13_readsDay_196 : decode cX13_readsDay 196 = .ok (.iload_n 2, 1) := by decide +kernel
theorem dX13_readsDay_197 : decode cX13_readsDay 197 = .ok (.iconst 1, 1) := by decide +kernel
theorem dX13_readsDay_198 : decode cX13_readsDay 198 = .ok (.iadd, 1) := by decide +kernel
theorem dX13_readsDay_199 : decode cX13_readsDay 199 = .ok (.iaload, 1) := by decide +kernel
theorem dX13_readsDay_200 : decode cX13_readsDay 200 = .ok (.invokevirtual 217, 3) := by decide +kernel
theorem dX13_readsDay_203 : decode cX13_readsDay 203 = .ok (.iastore, 1) := by decide +kernel
theorem dX13_readsDay_204 : decode cX13_readsDay 204 = .ok (.iload_n 1, 1) := by decide +kernel
theorem dX13_readsDay_205 : decode cX13_readsDay 205 = .ok (.bipush 6, 2) := by decide +kernel
theorem dX13_readsDay_207 : decode cX13_readsDay 207 = .ok (.if_icmp .ne 28, 3) := by decide +kernel
theorem dX13_readsDay_210 : decode cX13_readsDay 210 = .ok (.aload_n 0, 1) := by decide +kernel
theorem dX13_readsDay_211 : decode cX13_readsDay 211 = .ok (.getfield 68, 3) := by decide +kernel
theorem dX13_readsDay_214 : decode cX13_readsDay 214 = .ok (.iload_n 2, 1) := by decide +kernel
theorem dX13_readsDay_215 : decode cX13_readsDay 215 = .ok (.iconst 4, 1) := by decide +kernel
theorem dX13_readsDay_216 : decode cX13_readsDay 216 = .ok (.iadd, 1) := by decide +kernel
theorem dX13_readsDay_217 : decode cX13_readsDay 217 = .ok (.aload_n 0, 1) := by decide +kernel
theorem dX13_readsDay_218 : decode cX13_readsDay 218 = .ok (.aload_n 0, 1) := by decide +kernel
theorem dX13_readsDay_219 : decode cX13_readsDay 219 = .ok (.getfield 71, 3) := by decide +kernel
theorem dX13_readsDay_222 : decode cX13_readsDay 222 = .ok (.iconst 5, 1) := by decide +kernel
theorem dX13_readsDay_223 : decode cX13_readsDay 223 = .ok (.aload_n 0, 1) := by decide +kernel
theorem dX13_readsDay_224 : decode cX13_readsDay 224 = .ok (.getfield 267, 3) := by decide +kernel
theorem dX13_readsDay_227 : decode cX13_readsDay 227 = .ok (.imul, 1) := by decide +kernel
theorem dX13_readsDay_228 : decode cX13_readsDay 228 = .ok (.invokevirtual 220, 3) := by decide +kernel
theorem dX13_readsDay_231 : decode cX13_readsDay 231 = .ok (.iastore, 1) := by decide +kernel
theorem dX13_readsDay_232 : decode cX13_readsDay 232 = .ok (.goto 27, 3) := by decide +kernel
theorem dX13_readsDay_235 : decode cX13_readsDay 235 = .ok (.aload_n 0, 1) := by decide +kernel
theorem dX13_readsDay_236 : decode cX13_readsDay 236 = .ok (.getfield 68, 3) := by decide +kernel
theorem dX13_readsDay_239 : decode cX13_readsDay 239 = .ok (.iload_n 2, 1) := by decide +kernel
theorem dX13_readsDay_240 : decode cX13_readsDay 240 = .ok (.iconst 3, 1) := by decide +kernel
theorem dX13_readsDay_241 : decode cX13_readsDay 241 = .ok (.iadd, 1) := by decide +kernel
theorem dX13_readsDay_242 : decode cX13_readsDay 242 = .ok (.aload_n 0, 1) := by decide +kernel
theorem dX13_readsDay_243 : decode cX13_readsDay 243 = .ok (.iload_n 1, 1) := by decide +kernel
theorem dX13_readsDay_244 : decode cX13_readsDay 244 = .ok (.iconst 3, 1) := by decide +kernel
theorem dX13_readsDay_245 : decode cX13_readsDay 245 = .ok (.if_icmp .ne 7, 3) := by decide +kernel
theorem dX13_readsDay_248 : decode cX13_readsDay 248 = .ok (.iconst 0, 1) := by decide +kernel
theorem dX13_readsDay_249 : decode cX13_readsDay 249 = .ok (.goto 4, 3) := by decide +kernel
theorem dX13_readsDay_252 : decode cX13_readsDay 252 = .ok (.iconst 1, 1) := by decide +kernel
theorem dX13_readsDay_253 : decode cX13_readsDay 253 = .ok (.bipush 20, 2) := by decide +kernel
theorem dX13_readsDay_255 : decode cX13_readsDay 255 = .ok (.invokevirtual 210, 3) := by decide +kernel
theorem dX13_readsDay_258 : decode cX13_readsDay 258 = .ok (.iastore, 1) := by decide +kernel
theorem dX13_readsDay_259 : decode cX13_readsDay 259 = .ok (.aload_n 0, 1) := by decide +kernel
theorem dX13_readsDay_260 : decode cX13_readsDay 260 = .ok (.aload_n 0, 1) := by decide +kernel
theorem dX13_readsDay_261 : decode cX13_readsDay 261 = .ok (.getfield 165, 3) := by decide +kernel
theorem dX13_readsDay_264 : decode cX13_readsDay 264 = .ok (.iconst 4, 1) := by decide +kernel
theorem dX13_readsDay_265 : decode cX13_readsDay 265 = .ok (.if_icmp .ne 7, 3) := by decide +kernel
theorem dX13_readsDay_268 : decode cX13_readsDay 268 = .ok (.iconst 1, 1) := by decide +kernel
theorem dX13_readsDay_269 : decode cX13_readsDay 269 = .ok (.goto 4, 3) := by decide +kernel
theorem dX13_readsDay_272 : decode cX13_readsDay 272 = .ok (.iconst 0, 1) := by decide +kernel
theorem dX13_readsDay_273 : decode cX13_readsDay 273 = .ok (.invokevirtual 231, 3) := by decide +kernel
theorem dX13_readsDay_276 : decode cX13_readsDay 276 = .ok (.aload_n 0, 1) := by decide +kernel
theorem dX13_readsDay_277 : decode cX13_readsDay 277 = .ok (.invokevirtual 191, 3) := by decide +kernel
theorem dX13_readsDay_280 : decode cX13_readsDay 280 = .ok (.ifCond .eq 13, 3) := by decide +kernel
theorem dX13_readsDay_283 : decode cX13_readsDay 283 = .ok (.aload_n 0, 1) := by decide +kernel
theorem dX13_readsDay_284 : decode cX13_readsDay 284 = .ok (.dup, 1) := by decide +kernel
theorem dX13_readsDay_285 : decode cX13_readsDay 285 = .ok (.getfield 267, 3) := by decide +kernel
theorem dX13_readsDay_288 : decode cX13_readsDay 288 = .ok (.iconst 1, 1) := by decide +kernel
theorem dX13_readsDay_289 : decode cX13_readsDay 289 = .ok (.iadd, 1) := by decide +kernel
theorem dX13_readsDay_290 : decode cX13_readsDay 290 = .ok (.putfield 267, 3) := by decide +kernel
theorem dX13_readsDay_293 : decode cX13_readsDay 293 = .ok (.return_, 1) := by decide +kernel
theorem dX13_all_0 : decode cX13_all 0 = .ok (.iconst 0, 1) := by decide +kernel
theorem dX13_all_1 : decode cX13_all 1 = .ok (.istore_n 1, 1) := by decide +kernel
theorem dX13_all_2 : decode cX13_all 2 = .ok (.iconst 0, 1) := by decide +kernel
theorem dX13_all_3 : decode cX13_all 3 = .ok (.istore_n 2, 1) := by decide +kernel
theorem dX13_all_4 : decode cX13_all 4 = .ok (.iload_n 2, 1) := by decide +kernel
theorem dX13_all_5 : decode cX13_all 5 = .ok (.aload_n 0, 1) := by decide +kernel
theorem dX13_all_6 : decode cX13_all 6 = .ok (.getfield 245, 3) := by decide +kernel
theorem dX13_all_9 : decode cX13_all 9 = .ok (.if_icmp .ge 18, 3) := by decide +kernel
theorem dX13_all_12 : decode cX13_all 12 = .ok (.iload_n 1, 1) := by decide +kernel
theorem dX13_all_13 : decode cX13_all 13 = .ok (.aload_n 0, 1) := by decide +kernel
theorem dX13_all_14 : decode cX13_all 14 = .ok (.getfield 7, 3) := by decide +kernel
theorem dX13_all_17 : decode cX13_all 17 = .ok (.iload_n 2, 1) := by decide +kernel
theorem dX13_all_18 : decode cX13_all 18 = .ok (.iaload, 1) := by decide +kernel
theorem dX13_all_19 : decode cX13_all 19 = .ok (.iadd, 1) := by decide +kernel
theorem dX13_all_20 : decode cX13_all 20 = .ok (.istore_n 1, 1) := by decide +kernel
theorem dX13_all_21 : decode cX13_all 21 = .ok (.iinc 2 1, 3) := by decide +kernel
theorem dX13_all_24 : decode cX13_all 24 = .ok (.goto (-20), 3) := by decide +kernel
theorem dX13_all_27 : decode cX13_all 27 = .ok (.iload_n 1, 1) := by decide +kernel
theorem dX13_all_28 : decode cX13_all 28 = .ok (.ireturn, 1) := by decide +kernel
theorem dX13_lentBy_0 : decode cX13_lentBy 0 = .ok (.iconst 0, 1) := by decide +kernel
theorem dX13_lentBy_1 : decode cX13_lentBy 1 = .ok (.istore_n 2, 1) := by decide +kernel
theorem dX13_lentBy_2 : decode cX13_lentBy 2 = .ok (.iconst 0, 1) := by decide +kernel
theorem dX13_lentBy_3 : decode cX13_lentBy 3 = .ok (.istore_n 3, 1) := by decide +kernel
theorem dX13_lentBy_4 : decode cX13_lentBy 4 = .ok (.iload_n 3, 1) := by decide +kernel
theorem dX13_lentBy_5 : decode cX13_lentBy 5 = .ok (.iconst 5, 1) := by decide +kernel
theorem dX13_lentBy_6 : decode cX13_lentBy 6 = .ok (.if_icmp .ge 22, 3) := by decide +kernel
theorem dX13_lentBy_9 : decode cX13_lentBy 9 = .ok (.iload_n 2, 1) := by decide +kernel
theorem dX13_lentBy_10 : decode cX13_lentBy 10 = .ok (.aload_n 0, 1) := by decide +kernel
theorem dX13_lentBy_11 : decode cX13_lentBy 11 = .ok (.getfield 19, 3) := by decide +kernel
theorem dX13_lentBy_14 : decode cX13_lentBy 14 = .ok (.iconst 5, 1) := by decide +kernel
theorem dX13_lentBy_15 : decode cX13_lentBy 15 = .ok (.iload_n 1, 1) := by decide +kernel
theorem dX13_lentBy_16 : decode cX13_lentBy 16 = .ok (.imul, 1) := by decide +kernel
theorem dX13_lentBy_17 : decode cX13_lentBy 17 = .ok (.iload_n 3, 1) := by decide +kernel
theorem dX13_lentBy_18 : decode cX13_lentBy 18 = .ok (.iadd, 1) := by decide +kernel
theorem dX13_lentBy_19 : decode cX13_lentBy 19 = .ok (.iaload, 1) := by decide +kernel
theorem dX13_lentBy_20 : decode cX13_lentBy 20 = .ok (.iadd, 1) := by decide +kernel
theorem dX13_lentBy_21 : decode cX13_lentBy 21 = .ok (.istore_n 2, 1) := by decide +kernel
theorem dX13_lentBy_22 : decode cX13_lentBy 22 = .ok (.iinc 3 1, 3) := by decide +kernel
theorem dX13_lentBy_25 : decode cX13_lentBy 25 = .ok (.goto (-21), 3) := by decide +kernel
theorem dX13_lentBy_28 : decode cX13_lentBy 28 = .ok (.iload_n 2, 1) := by decide +kernel
theorem dX13_lentBy_29 : decode cX13_lentBy 29 = .ok (.ireturn, 1) := by decide +kernel
theorem dX13_isSwap_0 : decode cX13_isSwap 0 = .ok (.aload_n 0, 1) := by decide +kernel
theorem dX13_isSwap_1 : decode cX13_isSwap 1 = .ok (.getfield 22, 3) := by decide +kernel
theorem dX13_isSwap_4 : decode cX13_isSwap 4 = .ok (.iload_n 1, 1) := by decide +kernel
theorem dX13_isSwap_5 : decode cX13_isSwap 5 = .ok (.iaload, 1) := by decide +kernel
theorem dX13_isSwap_6 : decode cX13_isSwap 6 = .ok (.iconst 1, 1) := by decide +kernel
theorem dX13_isSwap_7 : decode cX13_isSwap 7 = .ok (.if_icmp .ne 47, 3) := by decide +kernel
theorem dX13_isSwap_10 : decode cX13_isSwap 10 = .ok (.aload_n 0, 1) := by decide +kernel
theorem dX13_isSwap_11 : decode cX13_isSwap 11 = .ok (.getfield 22, 3) := by decide +kernel
theorem dX13_isSwap_14 : decode cX13_isSwap 14 = .ok (.iload_n 2, 1) := by decide +kernel
theorem dX13_isSwap_15 : decode cX13_isSwap 15 = .ok (.iaload, 1) := by decide +kernel
theorem dX13_isSwap_16 : decode cX13_isSwap 16 = .ok (.iconst 1, 1) := by decide +kernel
theorem dX13_isSwap_17 : decode cX13_isSwap 17 = .ok (.if_icmp .ne 37, 3) := by decide +kernel
theorem dX13_isSwap_20 : decode cX13_isSwap 20 = .ok (.aload_n 0, 1) := by decide +kernel
theorem dX13_isSwap_21 : decode cX13_isSwap 21 = .ok (.getfield 25, 3) := by decide +kernel
theorem dX13_isSwap_24 : decode cX13_isSwap 24 = .ok (.iload_n 1, 1) := by decide +kernel
theorem dX13_isSwap_25 : decode cX13_isSwap 25 = .ok (.iaload, 1) := by decide +kernel
theorem dX13_isSwap_26 : decode cX13_isSwap 26 = .ok (.aload_n 0, 1) := by decide +kernel
theorem dX13_isSwap_27 : decode cX13_isSwap 27 = .ok (.getfield 28, 3) := by decide +kernel
theorem dX13_isSwap_30 : decode cX13_isSwap 30 = .ok (.iload_n 2, 1) := by decide +kernel
theorem dX13_isSwap_31 : decode cX13_isSwap 31 = .ok (.iaload, 1) := by decide +kernel
theorem dX13_isSwap_32 : decode cX13_isSwap 32 = .ok (.if_icmp .eq 22, 3) := by decide +kernel
theorem dX13_isSwap_35 : decode cX13_isSwap 35 = .ok (.aload_n 0, 1) := by decide +kernel
theorem dX13_isSwap_36 : decode cX13_isSwap 36 = .ok (.getfield 25, 3) := by decide +kernel
theorem dX13_isSwap_39 : decode cX13_isSwap 39 = .ok (.iload_n 2, 1) := by decide +kernel
theorem dX13_isSwap_40 : decode cX13_isSwap 40 = .ok (.iaload, 1) := by decide +kernel
theorem dX13_isSwap_41 : decode cX13_isSwap 41 = .ok (.aload_n 0, 1) := by decide +kernel
theorem dX13_isSwap_42 : decode cX13_isSwap 42 = .ok (.getfield 28, 3) := by decide +kernel
theorem dX13_isSwap_45 : decode cX13_isSwap 45 = .ok (.iload_n 1, 1) := by decide +kernel
theorem dX13_isSwap_46 : decode cX13_isSwap 46 = .ok (.iaload, 1) := by decide +kernel
theorem dX13_isSwap_47 : decode cX13_isSwap 47 = .ok (.if_icmp .eq 7, 3) := by decide +kernel
theorem dX13_isSwap_50 : decode cX13_isSwap 50 = .ok (.iconst 1, 1) := by decide +kernel
theorem dX13_isSwap_51 : decode cX13_isSwap 51 = .ok (.goto 4, 3) := by decide +kernel
theorem dX13_isSwap_54 : decode cX13_isSwap 54 = .ok (.iconst 0, 1) := by decide +kernel
theorem dX13_isSwap_55 : decode cX13_isSwap 55 = .ok (.ireturn, 1) := by decide +kernel
theorem dX13_freeDoor_0 : decode cX13_freeDoor 0 = .ok (.iconst 0, 1) := by decide +kernel
theorem dX13_freeDoor_1 : decode cX13_freeDoor 1 = .ok (.istore_n 1, 1) := by decide +kernel
theorem dX13_freeDoor_2 : decode cX13_freeDoor 2 = .ok (.iload_n 1, 1) := by decide +kernel
theorem dX13_freeDoor_3 : decode cX13_freeDoor 3 = .ok (.bipush 10, 2) := by decide +kernel
theorem dX13_freeDoor_5 : decode cX13_freeDoor 5 = .ok (.if_icmp .ge 20, 3) := by decide +kernel
theorem dX13_freeDoor_8 : decode cX13_freeDoor 8 = .ok (.aload_n 0, 1) := by decide +kernel
theorem dX13_freeDoor_9 : decode cX13_freeDoor 9 = .ok (.getfield 22, 3) := by decide +kernel
theorem dX13_freeDoor_12 : decode cX13_freeDoor 12 = .ok (.iload_n 1, 1) := by decide +kernel
theorem dX13_freeDoor_13 : decode cX13_freeDoor 13 = .ok (.iaload, 1) := by decide +kernel
theorem dX13_freeDoor_14 : decode cX13_freeDoor 14 = .ok (.ifCond .ne 5, 3) := by decide +kernel
theorem dX13_freeDoor_17 : decode cX13_freeDoor 17 = .ok (.iload_n 1, 1) := by decide +kernel
theorem dX13_freeDoor_18 : decode cX13_freeDoor 18 = .ok (.ireturn, 1) := by decide +kernel
theorem dX13_freeDoor_19 : decode cX13_freeDoor 19 = .ok (.iinc 1 1, 3) := by decide +kernel
theorem dX13_freeDoor_22 : decode cX13_freeDoor 22 = .ok (.goto (-20), 3) := by decide +kernel
theorem dX13_freeDoor_25 : decode cX13_freeDoor 25 = .ok (.iconst (-1), 1) := by decide +kernel
theorem dX13_freeDoor_26 : decode cX13_freeDoor 26 = .ok (.ireturn, 1) := by decide +kernel
set_option maxRecDepth 20000 in
theorem ggX13_does_X13_freeDoor : GoodIn wsX13_does wsX13_freeDoor := goodIn_r _ [18, 8, 35, 36, 37, 38, 39, 40, 41, 42, 43, 44, 45, 46, 47, 48, 49, 50, 51, 52, 53, 54, 55, 56, 57, 58, 59, 60, 61, 62, 63, 64, 65, 66, 67, 68, 69, 70, 71, 72, 73, 74, 75, 76, 77, 78, 79, 80, 81, 82, 83, 84, 85, 86, 87, 88, 89, 90, 91, 92, 93, 94, 95, 96, 97, 98] (by decide +kernel) (by decide +kernel)
set_option maxRecDepth 20000 in
theorem gX13_does_X13_freeDoor : GoodIn wsX13_does (wsV RX13 270 RX13 yX13_freeDoor wsX13_freeDoor) := goodIn_app (goodIn_of _ (by decide +kernel)) ggX13_does_X13_freeDoor
set_option maxRecDepth 20000 in
theorem ggX13_does_X13_all : GoodIn wsX13_does wsX13_all := goodIn_r _ [22, 7, 2, 35, 36, 37, 38, 39, 40, 41, 42, 43, 44, 45, 46, 47, 48, 49, 50, 51, 52, 53, 54, 55, 56, 57, 58, 59, 60, 61, 62, 63, 64, 65, 66, 67, 68, 69, 70, 71, 72, 73, 74, 75, 76, 77, 78, 79, 80, 81, 82, 83, 84, 85, 86, 87, 88, 89, 90, 91, 92, 93, 94, 95, 96, 97, 98] (by decide +kernel) (by decide +kernel)
set_option maxRecDepth 20000 in
theorem gX13_does_X13_all : GoodIn wsX13_does (wsV RX13 274 RX13 yX13_all wsX13_all) := goodIn_app (goodIn_of _ (by decide +kernel)) ggX13_does_X13_all
set_option maxRecDepth 20000 in
theorem ggX13_does_X13_lentBy : GoodIn wsX13_does wsX13_lentBy := goodIn_r _ [26, 4, 35, 36, 37, 38, 39, 40, 41, 42, 43, 44, 45, 46, 47, 48, 49, 50, 51, 52, 53, 54, 55, 56, 57, 58, 59, 60, 61, 62, 63, 64, 65, 66, 67, 68, 69, 70, 71, 72, 73, 74, 75, 76, 77, 78, 79, 80, 81, 82, 83, 84, 85, 86, 87, 88, 89, 90, 91, 92, 93, 94, 95, 96, 97, 98] (by decide +kernel) (by decide +kernel)
set_option maxRecDepth 20000 in
theorem gX13_does_X13_lentBy : GoodIn wsX13_does (wsV RX13 277 RX13 yX13_lentBy wsX13_lentBy) := goodIn_app (goodIn_of _ (by decide +kernel)) ggX13_does_X13_lentBy
set_option maxRecDepth 20000 in
theorem ggX13_does_X13_clears : GoodIn wsX13_does wsX13_clears := goodIn_r _ [30, 3, 4, 35, 36, 37, 38, 39, 40, 41, 42, 43, 44, 45, 46, 47, 48, 49, 50, 51, 52, 53, 54, 55, 56, 57, 58, 59, 60, 61, 62, 63, 64, 65, 66, 67, 68, 69, 70, 71, 72, 73, 74, 75, 76, 77, 78, 79, 80, 81, 82, 83, 84, 85, 86, 87, 88, 89, 90, 91, 92, 93, 94, 95, 96, 97, 98] (by decide +kernel) (by decide +kernel)
set_option maxRecDepth 20000 in
theorem gX13_does_X13_clears : GoodIn wsX13_does (wsV RX13 258 RX13 yX13_clears wsX13_clears) := goodIn_app (goodIn_of _ (by decide +kernel)) ggX13_does_X13_clears
set_option maxRecDepth 20000 in
theorem ggX13_does_X13_isSwap : GoodIn wsX13_does wsX13_isSwap := goodIn_r _ [34, 8, 9, 10, 35, 36, 37, 38, 39, 40, 41, 42, 43, 44, 45, 46, 47, 48, 49, 50, 51, 52, 53, 54, 55, 56, 57, 58, 59, 60, 61, 62, 63, 64, 65, 66, 67, 68, 69, 70, 71, 72, 73, 74, 75, 76, 77, 78, 79, 80, 81, 82, 83, 84, 85, 86, 87, 88, 89, 90, 91, 92, 93, 94, 95, 96, 97, 98] (by decide +kernel) (by decide +kernel)
set_option maxRecDepth 20000 in
theorem gX13_does_X13_isSwap : GoodIn wsX13_does (wsV RX13 280 RX13 yX13_isSwap wsX13_isSwap) := goodIn_app (goodIn_of _ (by decide +kernel)) ggX13_does_X13_isSwap
theorem dX13_does_0 : decode cX13_does 0 = .ok (.iconst 5, 1) := by decide +kernel
theorem dX13_does_1 : decode cX13_does 1 = .ok (.iload_n 1, 1) := by decide +kernel
theorem dX13_does_2 : decode cX13_does 2 = .ok (.imul, 1) := by decide +kernel
theorem dX13_does_3 : decode cX13_does 3 = .ok (.istore_n 2, 1) := by decide +kernel
theorem dX13_does_4 : decode cX13_does 4 = .ok (.aload_n 0, 1) := by decide +kernel
theorem dX13_does_5 : decode cX13_does 5 = .ok (.getfield 68, 3) := by decide +kernel
theorem dX13_does_8 : decode cX13_does 8 = .ok (.iload_n 2, 1) := by decide +kernel
theorem dX13_does_9 : decode cX13_does 9 = .ok (.iconst 1, 1) := by decide +kernel
theorem dX13_does_10 : decode cX13_does 10 = .ok (.iadd, 1) := by decide +kernel
theorem dX13_does_11 : decode cX13_does 11 = .ok (.iaload, 1) := by decide +kernel
theorem dX13_does_12 : decode cX13_does 12 = .ok (.istore_n 3, 1) := by decide +kernel
theorem dX13_does_13 : decode cX13_does 13 = .ok (.aload_n 0, 1) := by decide +kernel
theorem dX13_does_14 : decode cX13_does 14 = .ok (.getfield 68, 3) := by decide +kernel
theorem dX13_does_17 : decode cX13_does 17 = .ok (.iload_n 2, 1) := by decide +kernel
theorem dX13_does_18 : decode cX13_does 18 = .ok (.iconst 2, 1) := by decide +kernel
theorem dX13_does_19 : decode cX13_does 19 = .ok (.iadd, 1) := by decide +kernel
theorem dX13_does_20 : decode cX13_does 20 = .ok (.iaload, 1) := by decide +kernel
theorem dX13_does_21 : decode cX13_does 21 = .ok (.istore 4, 2) := by decide +kernel
theorem dX13_does_23 : decode cX13_does 23 = .ok (.aload_n 0, 1) := by decide +kernel
theorem dX13_does_24 : decode cX13_does 24 = .ok (.getfield 68, 3) := by decide +kernel
theorem dX13_does_27 : decode cX13_does 27 = .ok (.iload_n 2, 1) := by decide +kernel
theorem dX13_does_28 : decode cX13_does 28 = .ok (.iconst 3, 1) := by decide +kernel
theorem dX13_does_29 : decode cX13_does 29 = .ok (.iadd, 1) := by decide +kernel
theorem dX13_does_30 : decode cX13_does 30 = .ok (.iaload, 1) := by decide +kernel
theorem dX13_does_31 : decode cX13_does 31 = .ok (.istore 5, 2) := by decide +kernel
theorem dX13_does_33 : decode cX13_does 33 = .ok (.aload_n 0, 1) := by decide +kernel
theorem dX13_does_34 : decode cX13_does 34 = .ok (.invokevirtual 270, 3) := by decide +kernel
theorem dX13_does_37 : decode cX13_does 37 = .ok (.istore 6, 2) := by decide +kernel
theorem dX13_does_39 : decode cX13_does 39 = .ok (.aload_n 0, 1) := by decide +kernel
theorem dX13_does_40 : decode cX13_does 40 = .ok (.getfield 68, 3) := by decide +kernel
theorem dX13_does_43 : decode cX13_does 43 = .ok (.iload_n 2, 1) := by decide +kernel
theorem dX13_does_44 : decode cX13_does 44 = .ok (.iaload, 1) := by decide +kernel
theorem dX13_does_45 : decode cX13_does 45 = .ok (.tableswitch 355 0 6 #[43, 70, 109, 153, 193, 241, 261], 43) := by decide +kernel
theorem dX13_does_88 : decode cX13_does 88 = .ok (.aload_n 0, 1) := by decide +kernel
theorem dX13_does_89 : decode cX13_does 89 = .ok (.invokevirtual 274, 3) := by decide +kernel
theorem dX13_does_92 : decode cX13_does 92 = .ok (.iload 5, 2) := by decide +kernel
theorem dX13_does_94 : decode cX13_does 94 = .ok (.iadd, 1) := by decide +kernel
theorem dX13_does_95 : decode cX13_does 95 = .ok (.bipush 40, 2) := by decide +kernel
theorem dX13_does_97 : decode cX13_does 97 = .ok (.if_icmp .le 5, 3) := by decide +kernel
theorem dX13_does_100 : decode cX13_does 100 = .ok (.iconst 0, 1) := by decide +kernel
theorem dX13_does_101 : decode cX13_does 101 = .ok (.ireturn, 1) := by decide +kernel
theorem dX13_does_102 : decode cX13_does 102 = .ok (.aload_n 0, 1) := by decide +kernel
theorem dX13_does_103 : decode cX13_does 103 = .ok (.getfield 7, 3) := by decide +kernel
theorem dX13_does_106 : decode cX13_does 106 = .ok (.iload_n 3, 1) := by decide +kernel
theorem dX13_does_107 : decode cX13_does 107 = .ok (.dup2, 1) := by decide +kernel
theorem dX13_does_108 : decode cX13_does 108 = .ok (.iaload, 1) := by decide +kernel
theorem dX13_does_109 : decode cX13_does 109 = .ok (.iload 5, 2) := by decide +kernel
theorem dX13_does_111 : decode cX13_does 111 = .ok (.iadd, 1) := by decide +kernel
theorem dX13_does_112 : decode cX13_does 112 = .ok (.iastore, 1) := by decide +kernel
theorem dX13_does_113 : decode cX13_does 113 = .ok (.iconst 1, 1) := by decide +kernel
theorem dX13_does_114 : decode cX13_does 114 = .ok (.ireturn, 1) := by decide +kernel
theorem dX13_does_115 : decode cX13_does 115 = .ok (.aload_n 0, 1) := by decide +kernel
theorem dX13_does_116 : decode cX13_does 116 = .ok (.getfield 7, 3) := by decide +kernel
theorem dX13_does_119 : decode cX13_does 119 = .ok (.iload_n 3, 1) := by decide +kernel
theorem dX13_does_120 : decode cX13_does 120 = .ok (.iaload, 1) := by decide +kernel
theorem dX13_does_121 : decode cX13_does 121 = .ok (.aload_n 0, 1) := by decide +kernel
theorem dX13_does_122 : decode cX13_does 122 = .ok (.iload_n 3, 1) := by decide +kernel
theorem dX13_does_123 : decode cX13_does 123 = .ok (.invokevirtual 277, 3) := by decide +kernel
theorem dX13_does_126 : decode cX13_does 126 = .ok (.isub, 1) := by decide +kernel
theorem dX13_does_127 : decode cX13_does 127 = .ok (.aload_n 0, 1) := by decide +kernel
theorem dX13_does_128 : decode cX13_does 128 = .ok (.getfield 16, 3) := by decide +kernel
theorem dX13_does_131 : decode cX13_does 131 = .ok (.iload_n 3, 1) := by decide +kernel
theorem dX13_does_132 : decode cX13_does 132 = .ok (.iaload, 1) := by decide +kernel
theorem dX13_does_133 : decode cX13_does 133 = .ok (.isub, 1) := by decide +kernel
theorem dX13_does_134 : decode cX13_does 134 = .ok (.iload 5, 2) := by decide +kernel
theorem dX13_does_136 : decode cX13_does 136 = .ok (.if_icmp .ge 5, 3) := by decide +kernel
theorem dX13_does_139 : decode cX13_does 139 = .ok (.iconst 0, 1) := by decide +kernel
theorem dX13_does_140 : decode cX13_does 140 = .ok (.ireturn, 1) := by decide +kernel
theorem dX13_does_141 : decode cX13_does 141 = .ok (.aload_n 0, 1) := by decide +kernel
theorem dX13_does_142 : decode cX13_does 142 = .ok (.getfield 7, 3) := by decide +kernel
theorem dX13_does_145 : decode cX13_does 145 = .ok (.iload_n 3, 1) := by decide +kernel
theorem dX13_does_146 : decode cX13_does 146 = .ok (.dup2, 1) := by decide +kernel
theorem dX13_does_147 : decode cX13_does 147 = .ok (.iaload, 1) := by decide +kernel
theorem dX13_does_148 : decode cX13_does 148 = .ok (.iload 5, 2) := by decide +kernel
theorem dX13_does_150 : decode cX13_does 150 = .ok (.isub, 1) := by decide +kernel
theorem dX13_does_151 : decode cX13_does 151 = .ok (.iastore, 1) := by decide +kernel
theorem dX13_does_152 : decode cX13_does 152 = .ok (.iconst 1, 1) := by decide +kernel
theorem dX13_does_153 : decode cX13_does 153 = .ok (.ireturn, 1) := by decide +kernel
theorem dX13_does_154 : decode cX13_does 154 = .ok (.aload_n 0, 1) := by decide +kernel
theorem dX13_does_155 : decode cX13_does 155 = .ok (.getfield 7, 3) := by decide +kernel
theorem dX13_does_158 : decode cX13_does 158 = .ok (.iload_n 3, 1) := by decide +kernel
theorem dX13_does_159 : decode cX13_does 159 = .ok (.iaload, 1) := by decide +kernel
theorem dX13_does_160 : decode cX13_does 160 = .ok (.aload_n 0, 1) := by decide +kernel
theorem dX13_does_161 : decode cX13_does 161 = .ok (.iload_n 3, 1) := by decide +kernel
theorem dX13_does_162 : decode cX13_does 162 = .ok (.invokevirtual 277, 3) := by decide +kernel
theorem dX13_does_165 : decode cX13_does 165 = .ok (.isub, 1) := by decide +kernel
theorem dX13_does_166 : decode cX13_does 166 = .ok (.aload_n 0, 1) := by decide +kernel
theorem dX13_does_167 : decode cX13_does 167 = .ok (.getfield 16, 3) := by decide +kernel
theorem dX13_does_170 : decode cX13_does 170 = .ok (.iload_n 3, 1) := by decide +kernel
theorem dX13_does_171 : decode cX13_does 171 = .ok (.iaload, 1) := by decide +kernel
theorem dX13_does_172 : decode cX13_does 172 = .ok (.isub, 1) := by decide +kernel
theorem dX13_does_173 : decode cX13_does 173 = .ok (.iload 5, 2) := by decide +kernel
theorem dX13_does_175 : decode cX13_does 175 = .ok (.if_icmp .ge 5, 3) := by decide +kernel
theorem dX13_does_178 : decode cX13_does 178 = .ok (.iconst 0, 1) := by decide +kernel
theorem dX13_does_179 : decode cX13_does 179 = .ok (.ireturn, 1) := by decide +kernel
theorem dX13_does_180 : decode cX13_does 180 = .ok (.aload_n 0, 1) := by decide +kernel
theorem dX13_does_181 : decode cX13_does 181 = .ok (.getfield 19, 3) := by decide +kernel
theorem dX13_does_184 : decode cX13_does 184 = .ok (.iconst 5, 1) := by decide +kernel
theorem dX13_does_185 : decode cX13_does 185 = .ok (.iload_n 3, 1) := by decide +kernel
theorem dX13_does_186 : decode cX13_does 186 = .ok (.imul, 1) := by decide +kernel
theorem dX13_does_187 : decode cX13_does 187 = .ok (.iload 4, 2) := by decide +kernel
theorem dX13_does_189 : decode cX13_does 189 = .ok (.iadd, 1) := by decide +kernel
theorem dX13_does_190 : decode cX13_does 190 = .ok (.dup2, 1) := by decide +kernel
theorem dX13_does_191 : decode cX13_does 191 = .ok (.iaload, 1) := by decide +kernel
theorem dX13_does_192 : decode cX13_does 192 = .ok (.iload 5, 2) := by decide +kernel
theorem dX13_does_194 : decode cX13_does 194 = .ok (.iadd, 1) := by decide +kernel
theorem dX13_does_195 : decode cX13_does 195 = .ok (.iastore, 1) := by decide +kernel
theorem dX13_does_196 : decode cX13_does 196 = .ok (.iconst 1, 1) := by decide +kernel
theorem dX13_does_197 : decode cX13_does 197 = .ok (.ireturn, 1) := by decide +kernel
theorem dX13_does_198 : decode cX13_does 198 = .ok (.iload 5, 2) := by decide +kernel
theorem dX13_does_200 : decode cX13_does 200 = .ok (.aload_n 0, 1) := by decide +kernel
theorem dX13_does_201 : decode cX13_does 201 = .ok (.getfield 13, 3) := by decide +kernel
theorem dX13_does_204 : decode cX13_does 204 = .ok (.iload_n 3, 1) := by decide +kernel
theorem dX13_does_205 : decode cX13_does 205 = .ok (.iaload, 1) := by decide +kernel
theorem dX13_does_206 : decode cX13_does 206 = .ok (.if_icmp .gt 20, 3) := by decide +kernel
theorem dX13_does_209 : decode cX13_does 209 = .ok (.iload 5, 2) := by decide +kernel
theorem dX13_does_211 : decode cX13_does 211 = .ok (.aload_n 0, 1) := by decide +kernel
theorem dX13_does_212 : decode cX13_does 212 = .ok (.getfield 7, 3) := by decide +kernel
theorem dX13_does_215 : decode cX13_does 215 = .ok (.iload_n 3, 1) := by decide +kernel
theorem dX13_does_216 : decode cX13_does 216 = .ok (.iaload, 1) := by decide +kernel
theorem dX13_does_217 : decode cX13_does 217 = .ok (.aload_n 0, 1) := by decide +kernel
theorem dX13_does_218 : decode cX13_does 218 = .ok (.iload_n 3, 1) := by decide +kernel
theorem dX13_does_219 : decode cX13_does 219 = .ok (.invokevirtual 277, 3) := by decide +kernel
theorem dX13_does_222 : decode cX13_does 222 = .ok (.isub, 1) := by decide +kernel
theorem dX13_does_223 : decode cX13_does 223 = .ok (.if_icmp .le 5, 3) := by decide +kernel
theorem dX13_does_226 : decode cX13_does 226 = .ok (.iconst 0, 1) := by decide +kernel
theorem dX13_does_227 : decode cX13_does 227 = .ok (.ireturn, 1) := by decide +kernel
theorem dX13_does_228 : decode cX13_does 228 = .ok (.aload_n 0, 1) := by decide +kernel
theorem dX13_does_229 : decode cX13_does 229 = .ok (.getfield 16, 3) := by decide +kernel
theorem dX13_does_232 : decode cX13_does 232 = .ok (.iload_n 3, 1) := by decide +kernel
theorem dX13_does_233 : decode cX13_does 233 = .ok (.iload 5, 2) := by decide +kernel
theorem dX13_does_235 : decode cX13_does 235 = .ok (.iastore, 1) := by decide +kernel
theorem dX13_does_236 : decode cX13_does 236 = .ok (.iconst 1, 1) := by decide +kernel
theorem dX13_does_237 : decode cX13_does 237 = .ok (.ireturn, 1) := by decide +kernel
theorem dX13_does_238 : decode cX13_does 238 = .ok (.aload_n 0, 1) := by decide +kernel
theorem dX13_does_239 : decode cX13_does 239 = .ok (.aload_n 0, 1) := by decide +kernel
theorem dX13_does_240 : decode cX13_does 240 = .ok (.invokevirtual 274, 3) := by decide +kernel
theorem dX13_does_243 : decode cX13_does 243 = .ok (.putfield 251, 3) := by decide +kernel
theorem dX13_does_246 : decode cX13_does 246 = .ok (.iconst 0, 1) := by decide +kernel
theorem dX13_does_247 : decode cX13_does 247 = .ok (.istore 7, 2) := by decide +kernel
theorem dX13_does_249 : decode cX13_does 249 = .ok (.iload 7, 2) := by decide +kernel
theorem dX13_does_251 : decode cX13_does 251 = .ok (.aload_n 0, 1) := by decide +kernel
theorem dX13_does_252 : decode cX13_does 252 = .ok (.getfield 245, 3) := by decide +kernel
theorem dX13_does_255 : decode cX13_does 255 = .ok (.if_icmp .ge 25, 3) := by decide +kernel
theorem dX13_does_258 : decode cX13_does 258 = .ok (.aload_n 0, 1) := by decide +kernel
theorem dX13_does_259 : decode cX13_does 259 = .ok (.dup, 1) := by decide +kernel
theorem dX13_does_260 : decode cX13_does 260 = .ok (.getfield 251, 3) := by decide +kernel
theorem dX13_does_263 : decode cX13_does 263 = .ok (.aload_n 0, 1) := by decide +kernel
theorem dX13_does_264 : decode cX13_does 264 = .ok (.getfield 16, 3) := by decide +kernel
theorem dX13_does_267 : decode cX13_does 267 = .ok (.iload 7, 2) := by decide +kernel
theorem dX13_does_269 : decode cX13_does 269 = .ok (.iaload, 1) := by decide +kernel
theorem dX13_does_270 : decode cX13_does 270 = .ok (.isub, 1) := by decide +kernel
theorem dX13_does_271 : decode cX13_does 271 = .ok (.putfield 251, 3) := by decide +kernel
theorem dX13_does_274 : decode cX13_does 274 = .ok (.iinc 7 1, 3) := by decide +kernel
theorem dX13_does_277 : decode cX13_does 277 = .ok (.goto (-28), 3) := by decide +kernel
theorem dX13_does_280 : decode cX13_does 280 = .ok (.aload_n 0, 1) := by decide +kernel
theorem dX13_does_281 : decode cX13_does 281 = .ok (.invokevirtual 258, 3) := by decide +kernel
theorem dX13_does_284 : decode cX13_does 284 = .ok (.iconst 1, 1) := by decide +kernel
theorem dX13_does_285 : decode cX13_does 285 = .ok (.ireturn, 1) := by decide +kernel
theorem dX13_does_286 : decode cX13_does 286 = .ok (.aload_n 0, 1) := by decide +kernel
theorem dX13_does_287 : decode cX13_does 287 = .ok (.getfield 22, 3) := by decide +kernel
theorem dX13_does_290 : decode cX13_does 290 = .ok (.iload_n 3, 1) := by decide +kernel
theorem dX13_does_291 : decode cX13_does 291 = .ok (.iaload, 1) := by decide +kernel
theorem dX13_does_292 : decode cX13_does 292 = .ok (.ifCond .ne 5, 3) := by decide +kernel
theorem dX13_does_295 : decode cX13_does 295 = .ok (.iconst 0, 1) := by decide +kernel
theorem dX13_does_296 : decode cX13_does 296 = .ok (.ireturn, 1) := by decide +kernel
theorem dX13_does_297 : decode cX13_does 297 = .ok (.aload_n 0, 1) := by decide +kernel
theorem dX13_does_298 : decode cX13_does 298 = .ok (.getfield 22, 3) := by decide +kernel
theorem dX13_does_301 : decode cX13_does 301 = .ok (.iload_n 3, 1) := by decide +kernel
theorem dX13_does_302 : decode cX13_does 302 = .ok (.iconst 0, 1) := by decide +kernel
theorem dX13_does_303 : decode cX13_does 303 = .ok (.iastore, 1) := by decide +kernel
theorem dX13_does_304 : decode cX13_does 304 = .ok (.iconst 1, 1) := by decide +kernel
theorem dX13_does_305 : decode cX13_does 305 = .ok (.ireturn, 1) := by decide +kernel
theorem dX13_does_306 : decode cX13_does 306 = .ok (.iload 6, 2) := by decide +kernel
theorem dX13_does_308 : decode cX13_does 308 = .ok (.iconst (-1), 1) := by decide +kernel
theorem dX13_does_309 : decode cX13_does 309 = .ok (.if_icmp .ne 5, 3) := by decide +kernel
theorem dX13_does_312 : decode cX13_does 312 = .ok (.iconst 0, 1) := by decide +kernel
theorem dX13_does_313 : decode cX13_does 313 = .ok (.ireturn, 1) := by decide +kernel
theorem dX13_does_314 : decode cX13_does 314 = .ok (.aload_n 0, 1) := by decide +kernel
theorem dX13_does_315 : decode cX13_does 315 = .ok (.getfield 22, 3) := by decide +kernel
theorem dX13_does_318 : decode cX13_does 318 = .ok (.iload 6, 2) := by decide +kernel
theorem dX13_does_320 : decode cX13_does 320 = .ok (.iconst 1, 1) := by decide +kernel
theorem dX13_does_321 : decode cX13_does 321 = .ok (.iastore, 1) := by decide +kernel
theorem dX13_does_322 : decode cX13_does 322 = .ok (.aload_n 0, 1) := by decide +kernel
theorem dX13_does_323 : decode cX13_does 323 = .ok (.getfield 25, 3) := by decide +kernel
theorem dX13_does_326 : decode cX13_does 326 = .ok (.iload 6, 2) := by decide +kernel
theorem dX13_does_328 : decode cX13_does 328 = .ok (.iload_n 3, 1) := by decide +kernel
theorem dX13_does_329 : decode cX13_does 329 = .ok (.iastore, 1) := by decide +kernel
theorem dX13_does_330 : decode cX13_does 330 = .ok (.aload_n 0, 1) := by decide +kernel
theorem dX13_does_331 : decode cX13_does 331 = .ok (.getfield 28, 3) := by decide +kernel
theorem dX13_does_334 : decode cX13_does 334 = .ok (.iload 6, 2) := by decide +kernel
theorem dX13_does_336 : decode cX13_does 336 = .ok (.iload 4, 2) := by decide +kernel
theorem dX13_does_338 : decode cX13_does 338 = .ok (.iastore, 1) := by decide +kernel
theorem dX13_does_339 : decode cX13_does 339 = .ok (.aload_n 0, 1) := by decide +kernel
theorem dX13_does_340 : decode cX13_does 340 = .ok (.getfield 31, 3) := by decide +kernel
theorem dX13_does_343 : decode cX13_does 343 = .ok (.iload 6, 2) := by decide +kernel
theorem dX13_does_345 : decode cX13_does 345 = .ok (.aload_n 0, 1) := by decide +kernel
theorem dX13_does_346 : decode cX13_does 346 = .ok (.getfield 68, 3) := by decide +kernel
theorem dX13_does_349 : decode cX13_does 349 = .ok (.iload_n 2, 1) := by decide +kernel
theorem dX13_does_350 : decode cX13_does 350 = .ok (.iconst 4, 1) := by decide +kernel
theorem dX13_does_351 : decode cX13_does 351 = .ok (.iadd, 1) := by decide +kernel
theorem dX13_does_352 : decode cX13_does 352 = .ok (.iaload, 1) := by decide +kernel
theorem dX13_does_353 : decode cX13_does 353 = .ok (.iastore, 1) := by decide +kernel
theorem dX13_does_354 : decode cX13_does 354 = .ok (.iconst 0, 1) := by decide +kernel
theorem dX13_does_355 : decode cX13_does 355 = .ok (.istore 7, 2) := by decide +kernel
theorem dX13_does_357 : decode cX13_does 357 = .ok (.iload 7, 2) := by decide +kernel
theorem dX13_does_359 : decode cX13_does 359 = .ok (.aload_n 0, 1) := by decide +kernel
theorem dX13_does_360 : decode cX13_does 360 = .ok (.getfield 31, 3) := by decide +kernel
theorem dX13_does_363 : decode cX13_does 363 = .ok (.iload 6, 2) := by decide +kernel
theorem dX13_does_365 : decode cX13_does 365 = .ok (.iaload, 1) := by decide +kernel
theorem dX13_does_366 : decode cX13_does 366 = .ok (.if_icmp .ge 32, 3) := by decide +kernel
theorem dX13_does_369 : decode cX13_does 369 = .ok (.aload_n 0, 1) := by decide +kernel
theorem dX13_does_370 : decode cX13_does 370 = .ok (.getfield 34, 3) := by decide +kernel
theorem dX13_does_373 : decode cX13_does 373 = .ok (.iconst 5, 1) := by decide +kernel
theorem dX13_does_374 : decode cX13_does 374 = .ok (.iload 6, 2) := by decide +kernel
theorem dX13_does_376 : decode cX13_does 376 = .ok (.imul, 1) := by decide +kernel
theorem dX13_does_377 : decode cX13_does 377 = .ok (.iload 7, 2) := by decide +kernel
theorem dX13_does_379 : decode cX13_does 379 = .ok (.iadd, 1) := by decide +kernel
theorem dX13_does_380 : decode cX13_does 380 = .ok (.aload_n 0, 1) := by decide +kernel
theorem dX13_does_381 : decode cX13_does 381 = .ok (.getfield 71, 3) := by decide +kernel
theorem dX13_does_384 : decode cX13_does 384 = .ok (.iconst 5, 1) := by decide +kernel
theorem dX13_does_385 : decode cX13_does 385 = .ok (.iload_n 1, 1) := by decide +kernel
theorem dX13_does_386 : decode cX13_does 386 = .ok (.imul, 1) := by decide +kernel
theorem dX13_does_387 : decode cX13_does 387 = .ok (.iload 7, 2) := by decide +kernel
theorem dX13_does_389 : decode cX13_does 389 = .ok (.iadd, 1) := by decide +kernel
theorem dX13_does_390 : decode cX13_does 390 = .ok (.iaload, 1) := by decide +kernel
theorem dX13_does_391 : decode cX13_does 391 = .ok (.iastore, 1) := by decide +kernel
theorem dX13_does_392 : decode cX13_does 392 = .ok (.iinc 7 1, 3) := by decide +kernel
theorem dX13_does_395 : decode cX13_does 395 = .ok (.goto (-38), 3) := by decide +kernel
theorem dX13_does_398 : decode cX13_does 398 = .ok (.iconst 1, 1) := by decide +kernel
theorem dX13_does_399 : decode cX13_does 399 = .ok (.ireturn, 1) := by decide +kernel
theorem dX13_does_400 : decode cX13_does 400 = .ok (.aload_n 0, 1) := by decide +kernel
theorem dX13_does_401 : decode cX13_does 401 = .ok (.iload_n 3, 1) := by decide +kernel
theorem dX13_does_402 : decode cX13_does 402 = .ok (.iload 4, 2) := by decide +kernel
theorem dX13_does_404 : decode cX13_does 404 = .ok (.invokevirtual 280, 3) := by decide +kernel
theorem dX13_does_407 : decode cX13_does 407 = .ok (.ifCond .ne 5, 3) := by decide +kernel
theorem dX13_does_410 : decode cX13_does 410 = .ok (.iconst 0, 1) := by decide +kernel
theorem dX13_does_411 : decode cX13_does 411 = .ok (.ireturn, 1) := by decide +kernel
theorem dX13_does_412 : decode cX13_does 412 = .ok (.aload_n 0, 1) := by decide +kernel
theorem dX13_does_413 : decode cX13_does 413 = .ok (.getfield 28, 3) := by decide +kernel
theorem dX13_does_416 : decode cX13_does 416 = .ok (.iload_n 3, 1) := by decide +kernel
theorem dX13_does_417 : decode cX13_does 417 = .ok (.iaload, 1) := by decide +kernel
theorem dX13_does_418 : decode cX13_does 418 = .ok (.istore 7, 2) := by decide +kernel
theorem dX13_does_420 : decode cX13_does 420 = .ok (.aload_n 0, 1) := by decide +kernel
theorem dX13_does_421 : decode cX13_does 421 = .ok (.getfield 28, 3) := by decide +kernel
theorem dX13_does_424 : decode cX13_does 424 = .ok (.iload_n 3, 1) := by decide +kernel
theorem dX13_does_425 : decode cX13_does 425 = .ok (.aload_n 0, 1) := by decide +kernel
theorem dX13_does_426 : decode cX13_does 426 = .ok (.getfield 28, 3) := by decide +kernel
theorem dX13_does_429 : decode cX13_does 429 = .ok (.iload 4, 2) := by decide +kernel
theorem dX13_does_431 : decode cX13_does 431 = .ok (.iaload, 1) := by decide +kernel
theorem dX13_does_432 : decode cX13_does 432 = .ok (.iastore, 1) := by decide +kernel
theorem dX13_does_433 : decode cX13_does 433 = .ok (.aload_n 0, 1) := by decide +kernel
theorem dX13_does_434 : decode cX13_does 434 = .ok (.getfield 28, 3) := by decide +kernel
theorem dX13_does_437 : decode cX13_does 437 = .ok (.iload 4, 2) := by decide +kernel
theorem dX13_does_439 : decode cX13_does 439 = .ok (.iload 7, 2) := by decide +kernel
theorem dX13_does_441 : decode cX13_does 441 = .ok (.iastore, 1) := by decide +kernel
theorem dX13_does_442 : decode cX13_does 442 = .ok (.iconst 1, 1) := by decide +kernel
theorem dX13_does_443 : decode cX13_does 443 = .ok (.ireturn, 1) := by decide +kernel
set_option maxRecDepth 20000 in
theorem ggX13_days_X13_right : GoodIn wsX13_days wsX13_right := goodIn_r _ [11, 1, 115, 116, 117, 118, 119, 120, 121, 122, 123, 124, 125, 126, 127, 128, 129, 130, 131, 132, 133, 134, 135, 136, 137, 138, 139, 140, 141, 142, 143, 144, 145, 146, 147, 148, 149, 150, 151, 152, 153, 154, 155, 156, 157, 158, 159, 160, 161, 162, 163, 164, 165, 166, 167, 168, 169, 170, 171, 172, 173, 174, 175, 176, 177, 178] (by decide +kernel) (by decide +kernel)
set_option maxRecDepth 20000 in
theorem gX13_days_X13_right : GoodIn wsX13_days (wsV RX13 235 RX13 yX13_right wsX13_right) := goodIn_app (goodIn_of _ (by decide +kernel)) ggX13_days_X13_right
set_option maxRecDepth 20000 in
theorem ggX13_days_X13_opens : GoodIn wsX13_days wsX13_opens := goodIn_r _ [15, 2, 16, 6, 17, 18, 19, 20, 21, 10, 22, 23, 24, 25, 4, 26, 27, 28, 29, 30, 31, 32, 33, 34, 35, 36, 37, 38, 115, 116, 117, 118, 119, 120, 121, 122, 123, 124, 125, 126, 127, 128, 129, 130, 131, 132, 133, 134, 135, 136, 137, 138, 139, 140, 141, 142, 143, 144, 145, 146, 147, 148, 149, 150, 151, 152, 153, 154, 155, 156, 157, 158, 159, 160, 161, 162, 163, 164, 165, 166, 167, 168, 169, 170, 171, 172, 173, 174, 175, 176, 177, 178] (by decide +kernel) (by decide +kernel)
set_option maxRecDepth 20000 in
theorem gX13_days_X13_opens : GoodIn wsX13_days (wsV RX13 239 RX13 yX13_opens wsX13_opens) := goodIn_app (goodIn_of _ (by decide +kernel)) ggX13_days_X13_opens
set_option maxRecDepth 20000 in
theorem ggX13_days_X13_isGood : GoodIn wsX13_days wsX13_isGood := goodIn_r _ [42, 6, 115, 116, 117, 118, 119, 120, 121, 122, 123, 124, 125, 126, 127, 128, 129, 130, 131, 132, 133, 134, 135, 136, 137, 138, 139, 140, 141, 142, 143, 144, 145, 146, 147, 148, 149, 150, 151, 152, 153, 154, 155, 156, 157, 158, 159, 160, 161, 162, 163, 164, 165, 166, 167, 168, 169, 170, 171, 172, 173, 174, 175, 176, 177, 178] (by decide +kernel) (by decide +kernel)
set_option maxRecDepth 20000 in
theorem gX13_days_X13_isGood : GoodIn wsX13_days (wsV RX13 191 RX13 yX13_isGood wsX13_isGood) := goodIn_app (goodIn_of _ (by decide +kernel)) ggX13_days_X13_isGood
set_option maxRecDepth 20000 in
theorem ggX13_days_X13_readsDay : GoodIn wsX13_days wsX13_readsDay := goodIn_r _ [46, 3, 47, 48, 49, 4, 50, 51, 52, 10, 53, 27, 24, 54, 55, 56, 57, 58, 59, 60, 61, 62, 63, 64, 39, 40, 41, 42, 6, 19, 20, 21, 22, 18, 17, 23, 25, 26, 28, 29, 30, 31, 32, 33, 34, 35, 36, 37, 38, 65, 66, 67, 68, 16, 69, 70, 71, 72, 73, 74, 75, 76, 77, 78, 79, 80, 115, 116, 117, 118, 119, 120, 121, 122, 123, 124, 125, 126, 127, 128, 129, 130, 131, 132, 133, 134, 135, 136, 137, 138, 139, 140, 141, 142, 143, 144, 145, 146, 147, 148, 149, 150, 151, 152, 153, 154, 155, 156, 157, 158, 159, 160, 161, 162, 163, 164, 165, 166, 167, 168, 169, 170, 171, 172, 173, 174, 175, 176, 177, 178] (by decide +kernel) (by decide +kernel)
set_option maxRecDepth 20000 in
theorem gX13_days_X13_readsDay : GoodIn wsX13_days (wsV RX13 284 RX13 yX13_readsDay wsX13_readsDay) := goodIn_app (goodIn_of _ (by decide +kernel)) ggX13_days_X13_readsDay
set_option maxRecDepth 20000 in
theorem ggX13_days_X13_does : GoodIn wsX13_days wsX13_does := goodIn_r _ [84, 47, 85, 86, 87, 88, 89, 48, 90, 91, 92, 93, 94, 49, 95, 96, 97, 10, 98, 99, 100, 101, 102, 103, 104, 105, 106, 107, 108, 109, 110, 111, 112, 113, 114, 115, 116, 117, 118, 119, 120, 121, 122, 123, 124, 125, 126, 127, 128, 129, 130, 131, 132, 133, 134, 135, 136, 137, 138, 139, 140, 141, 142, 143, 144, 145, 146, 147, 148, 149, 150, 151, 152, 153, 154, 155, 156, 157, 158, 159, 160, 161, 162, 163, 164, 165, 166, 167, 168, 169, 170, 171, 172, 173, 174, 175, 176, 177, 178] (by decide +kernel) (by decide +kernel)
set_option maxRecDepth 20000 in
theorem gX13_days_X13_does : GoodIn wsX13_days (wsV RX13 287 RX13 yX13_does wsX13_does) := goodIn_app (goodIn_of _ (by decide +kernel)) ggX13_days_X13_does
theorem dX13_days_0 : decode cX13_days 0 = .ok (.aload_n 0, 1) := by decide +kernel
theorem dX13_days_1 : decode cX13_days 1 = .ok (.iconst 0, 1) := by decide +kernel
theorem dX13_days_2 : decode cX13_days 2 = .ok (.putfield 135, 3) := by decide +kernel
theorem dX13_days_5 : decode cX13_days 5 = .ok (.aload_n 0, 1) := by decide +kernel
theorem dX13_days_6 : decode cX13_days 6 = .ok (.iload_n 1, 1) := by decide +kernel
theorem dX13_days_7 : decode cX13_days 7 = .ok (.ifCond .lt 15, 3) := by decide +kernel
theorem dX13_days_10 : decode cX13_days 10 = .ok (.iload_n 1, 1) := by decide +kernel
theorem dX13_days_11 : decode cX13_days 11 = .ok (.aload_n 0, 1) := by decide +kernel
theorem dX13_days_12 : decode cX13_days 12 = .ok (.getfield 138, 3) := by decide +kernel
theorem dX13_days_15 : decode cX13_days 15 = .ok (.if_icmp .gt 7, 3) := by decide +kernel
theorem dX13_days_18 : decode cX13_days 18 = .ok (.iconst 1, 1) := by decide +kernel
theorem dX13_days_19 : decode cX13_days 19 = .ok (.goto 4, 3) := by decide +kernel
theorem dX13_days_22 : decode cX13_days 22 = .ok (.iconst 0, 1) := by decide +kernel
theorem dX13_days_23 : decode cX13_days 23 = .ok (.iconst 1, 1) := by decide +kernel
theorem dX13_days_24 : decode cX13_days 24 = .ok (.invokevirtual 235, 3) := by decide +kernel
theorem dX13_days_27 : decode cX13_days 27 = .ok (.ifCond .ne 5, 3) := by decide +kernel
theorem dX13_days_30 : decode cX13_days 30 = .ok (.iconst 0, 1) := by decide +kernel
theorem dX13_days_31 : decode cX13_days 31 = .ok (.ireturn, 1) := by decide +kernel
theorem dX13_days_32 : decode cX13_days 32 = .ok (.aload_n 0, 1) := by decide +kernel
theorem dX13_days_33 : decode cX13_days 33 = .ok (.iconst 0, 1) := by decide +kernel
theorem dX13_days_34 : decode cX13_days 34 = .ok (.putfield 267, 3) := by decide +kernel
theorem dX13_days_37 : decode cX13_days 37 = .ok (.aload_n 0, 1) := by decide +kernel
theorem dX13_days_38 : decode cX13_days 38 = .ok (.iload_n 1, 1) := by decide +kernel
theorem dX13_days_39 : decode cX13_days 39 = .ok (.invokevirtual 239, 3) := by decide +kernel
theorem dX13_days_42 : decode cX13_days 42 = .ok (.aload_n 0, 1) := by decide +kernel
theorem dX13_days_43 : decode cX13_days 43 = .ok (.invokevirtual 191, 3) := by decide +kernel
theorem dX13_days_46 : decode cX13_days 46 = .ok (.ifCond .eq 17, 3) := by decide +kernel
theorem dX13_days_49 : decode cX13_days 49 = .ok (.aload_n 0, 1) := by decide +kernel
theorem dX13_days_50 : decode cX13_days 50 = .ok (.getfield 165, 3) := by decide +kernel
theorem dX13_days_53 : decode cX13_days 53 = .ok (.ifCond .eq 10, 3) := by decide +kernel
theorem dX13_days_56 : decode cX13_days 56 = .ok (.aload_n 0, 1) := by decide +kernel
theorem dX13_days_57 : decode cX13_days 57 = .ok (.invokevirtual 284, 3) := by decide +kernel
theorem dX13_days_60 : decode cX13_days 60 = .ok (.goto (-18), 3) := by decide +kernel
theorem dX13_days_63 : decode cX13_days 63 = .ok (.aload_n 0, 1) := by decide +kernel
theorem dX13_days_64 : decode cX13_days 64 = .ok (.invokevirtual 191, 3) := by decide +kernel
theorem dX13_days_67 : decode cX13_days 67 = .ok (.ifCond .ne 20, 3) := by decide +kernel
theorem dX13_days_70 : decode cX13_days 70 = .ok (.aload_n 0, 1) := by decide +kernel
theorem dX13_days_71 : decode cX13_days 71 = .ok (.getfield 44, 3) := by decide +kernel
theorem dX13_days_74 : decode cX13_days 74 = .ok (.iconst 0, 1) := by decide +kernel
theorem dX13_days_75 : decode cX13_days 75 = .ok (.dup2, 1) := by decide +kernel
theorem dX13_days_76 : decode cX13_days 76 = .ok (.iaload, 1) := by decide +kernel
theorem dX13_days_77 : decode cX13_days 77 = .ok (.iconst 1, 1) := by decide +kernel
theorem dX13_days_78 : decode cX13_days 78 = .ok (.iadd, 1) := by decide +kernel
theorem dX13_days_79 : decode cX13_days 79 = .ok (.iastore, 1) := by decide +kernel
theorem dX13_days_80 : decode cX13_days 80 = .ok (.iconst (-1), 1) := by decide +kernel
theorem dX13_days_81 : decode cX13_days 81 = .ok (.aload_n 0, 1) := by decide +kernel
theorem dX13_days_82 : decode cX13_days 82 = .ok (.getfield 188, 3) := by decide +kernel
theorem dX13_days_85 : decode cX13_days 85 = .ok (.isub, 1) := by decide +kernel
theorem dX13_days_86 : decode cX13_days 86 = .ok (.ireturn, 1) := by decide +kernel
theorem dX13_days_87 : decode cX13_days 87 = .ok (.iconst 0, 1) := by decide +kernel
theorem dX13_days_88 : decode cX13_days 88 = .ok (.istore_n 2, 1) := by decide +kernel
theorem dX13_days_89 : decode cX13_days 89 = .ok (.iload_n 2, 1) := by decide +kernel
theorem dX13_days_90 : decode cX13_days 90 = .ok (.aload_n 0, 1) := by decide +kernel
theorem dX13_days_91 : decode cX13_days 91 = .ok (.getfield 267, 3) := by decide +kernel
theorem dX13_days_94 : decode cX13_days 94 = .ok (.if_icmp .ge 32, 3) := by decide +kernel
theorem dX13_days_97 : decode cX13_days 97 = .ok (.aload_n 0, 1) := by decide +kernel
theorem dX13_days_98 : decode cX13_days 98 = .ok (.iload_n 2, 1) := by decide +kernel
theorem dX13_days_99 : decode cX13_days 99 = .ok (.invokevirtual 287, 3) := by decide +kernel
theorem dX13_days_102 : decode cX13_days 102 = .ok (.ifCond .eq 6, 3) := by decide +kernel
theorem dX13_days_105 : decode cX13_days 105 = .ok (.goto 15, 3) := by decide +kernel
theorem dX13_days_108 : decode cX13_days 108 = .ok (.aload_n 0, 1) := by decide +kernel
theorem dX13_days_109 : decode cX13_days 109 = .ok (.getfield 44, 3) := by decide +kernel
theorem dX13_days_112 : decode cX13_days 112 = .ok (.iconst 1, 1) := by decide +kernel
theorem dX13_days_113 : decode cX13_days 113 = .ok (.dup2, 1) := by decide +kernel
theorem dX13_days_114 : decode cX13_days 114 = .ok (.iaload, 1) := by decide +kernel
theorem dX13_days_115 : decode cX13_days 115 = .ok (.iconst 1, 1) := by decide +kernel
theorem dX13_days_116 : decode cX13_days 116 = .ok (.iadd, 1) := by decide +kernel
theorem dX13_days_117 : decode cX13_days 117 = .ok (.iastore, 1) := by decide +kernel
theorem dX13_days_118 : decode cX13_days 118 = .ok (.iload_n 2, 1) := by decide +kernel
theorem dX13_days_119 : decode cX13_days 119 = .ok (.ireturn, 1) := by decide +kernel
theorem dX13_days_120 : decode cX13_days 120 = .ok (.iinc 2 1, 3) := by decide +kernel
theorem dX13_days_123 : decode cX13_days 123 = .ok (.goto (-34), 3) := by decide +kernel
theorem dX13_days_126 : decode cX13_days 126 = .ok (.aload_n 0, 1) := by decide +kernel
theorem dX13_days_127 : decode cX13_days 127 = .ok (.getfield 267, 3) := by decide +kernel
theorem dX13_days_130 : decode cX13_days 130 = .ok (.ireturn, 1) := by decide +kernel
set_option maxRecDepth 20000 in
theorem ggX13_isOwner_X13_right : GoodIn wsX13_isOwner wsX13_right := goodIn_r _ [6, 7, 8, 9, 10, 11, 12, 13, 14, 15, 16, 17, 18, 19, 20, 21, 22, 23, 24, 25, 26, 27, 28, 29, 30, 31, 32, 33, 34, 35, 36, 37, 38, 39, 40, 41, 42, 43, 44, 45, 46, 47, 48, 49, 50, 51, 52, 53, 54, 55, 56, 57, 58, 59, 60, 61, 62, 63, 64, 65, 66, 67, 68, 69, 70, 71] (by decide +kernel) (by decide +kernel)
set_option maxRecDepth 20000 in
theorem gX13_isOwner_X13_right : GoodIn wsX13_isOwner (wsV RX13 235 RX13 yX13_right wsX13_right) := goodIn_app (goodIn_of _ (by decide +kernel)) ggX13_isOwner_X13_right
theorem dX13_isOwner_0 : decode cX13_isOwner 0 = .ok (.aload_n 0, 1) := by decide +kernel
theorem dX13_isOwner_1 : decode cX13_isOwner 1 = .ok (.iload_n 1, 1) := by decide +kernel
theorem dX13_isOwner_2 : decode cX13_isOwner 2 = .ok (.ifCond .lt 15, 3) := by decide +kernel
theorem dX13_isOwner_5 : decode cX13_isOwner 5 = .ok (.iload_n 1, 1) := by decide +kernel
theorem dX13_isOwner_6 : decode cX13_isOwner 6 = .ok (.aload_n 0, 1) := by decide +kernel
theorem dX13_isOwner_7 : decode cX13_isOwner 7 = .ok (.getfield 245, 3) := by decide +kernel
theorem dX13_isOwner_10 : decode cX13_isOwner 10 = .ok (.if_icmp .ge 7, 3) := by decide +kernel
theorem dX13_isOwner_13 : decode cX13_isOwner 13 = .ok (.iconst 1, 1) := by decide +kernel
theorem dX13_isOwner_14 : decode cX13_isOwner 14 = .ok (.goto 4, 3) := by decide +kernel
theorem dX13_isOwner_17 : decode cX13_isOwner 17 = .ok (.iconst 0, 1) := by decide +kernel
theorem dX13_isOwner_18 : decode cX13_isOwner 18 = .ok (.iconst 1, 1) := by decide +kernel
theorem dX13_isOwner_19 : decode cX13_isOwner 19 = .ok (.invokevirtual 235, 3) := by decide +kernel
theorem dX13_isOwner_22 : decode cX13_isOwner 22 = .ok (.ireturn, 1) := by decide +kernel
set_option maxRecDepth 20000 in
theorem ggX13_isDoor_X13_right : GoodIn wsX13_isDoor wsX13_right := goodIn_r _ [6, 7, 8, 9, 10, 11, 12, 13, 14, 15, 16, 17, 18, 19, 20, 21, 22, 23, 24, 25, 26, 27, 28, 29, 30, 31, 32, 33, 34, 35, 36, 37, 38, 39, 40, 41, 42, 43, 44, 45, 46, 47, 48, 49, 50, 51, 52, 53, 54, 55, 56, 57, 58, 59, 60, 61, 62, 63, 64, 65, 66, 67, 68, 69, 70, 71] (by decide +kernel) (by decide +kernel)
set_option maxRecDepth 20000 in
theorem gX13_isDoor_X13_right : GoodIn wsX13_isDoor (wsV RX13 235 RX13 yX13_right wsX13_right) := goodIn_app (goodIn_of _ (by decide +kernel)) ggX13_isDoor_X13_right
theorem dX13_isDoor_0 : decode cX13_isDoor 0 = .ok (.aload_n 0, 1) := by decide +kernel
theorem dX13_isDoor_1 : decode cX13_isDoor 1 = .ok (.iload_n 1, 1) := by decide +kernel
theorem dX13_isDoor_2 : decode cX13_isDoor 2 = .ok (.ifCond .lt 23, 3) := by decide +kernel
theorem dX13_isDoor_5 : decode cX13_isDoor 5 = .ok (.iload_n 1, 1) := by decide +kernel
theorem dX13_isDoor_6 : decode cX13_isDoor 6 = .ok (.bipush 10, 2) := by decide +kernel
theorem dX13_isDoor_8 : decode cX13_isDoor 8 = .ok (.if_icmp .ge 17, 3) := by decide +kernel
theorem dX13_isDoor_11 : decode cX13_isDoor 11 = .ok (.aload_n 0, 1) := by decide +kernel
theorem dX13_isDoor_12 : decode cX13_isDoor 12 = .ok (.getfield 22, 3) := by decide +kernel
theorem dX13_isDoor_15 : decode cX13_isDoor 15 = .ok (.iload_n 1, 1) := by decide +kernel
theorem dX13_isDoor_16 : decode cX13_isDoor 16 = .ok (.iaload, 1) := by decide +kernel
theorem dX13_isDoor_17 : decode cX13_isDoor 17 = .ok (.iconst 1, 1) := by decide +kernel
theorem dX13_isDoor_18 : decode cX13_isDoor 18 = .ok (.if_icmp .ne 7, 3) := by decide +kernel
theorem dX13_isDoor_21 : decode cX13_isDoor 21 = .ok (.iconst 1, 1) := by decide +kernel
theorem dX13_isDoor_22 : decode cX13_isDoor 22 = .ok (.goto 4, 3) := by decide +kernel
theorem dX13_isDoor_25 : decode cX13_isDoor 25 = .ok (.iconst 0, 1) := by decide +kernel
theorem dX13_isDoor_26 : decode cX13_isDoor 26 = .ok (.iconst 1, 1) := by decide +kernel
theorem dX13_isDoor_27 : decode cX13_isDoor 27 = .ok (.invokevirtual 235, 3) := by decide +kernel
theorem dX13_isDoor_30 : decode cX13_isDoor 30 = .ok (.ireturn, 1) := by decide +kernel
set_option maxRecDepth 20000 in
theorem ggX13_isBase_X13_within : GoodIn wsX13_isBase wsX13_within := goodIn_r _ [4] (by decide +kernel) (by decide +kernel)
set_option maxRecDepth 20000 in
theorem gX13_isBase_X13_within : GoodIn wsX13_isBase (va_wsS RX13 290 yX13_within wsX13_within) := goodIn_app (goodIn_of _ (by decide +kernel)) ggX13_isBase_X13_within
set_option maxRecDepth 20000 in
theorem ggX13_isBase_X13_right : GoodIn wsX13_isBase wsX13_right := goodIn_r _ [8, 9, 10, 11, 12, 13, 14, 15, 16, 17, 18, 19, 20, 21, 22, 23, 24, 25, 26, 27, 28, 29, 30, 31, 32, 33, 34, 35, 36, 37, 38, 39, 40, 41, 42, 43, 44, 45, 46, 47, 48, 49, 50, 51, 52, 53, 54, 55, 56, 57, 58, 59, 60, 61, 62, 63, 64, 65, 66, 67, 68, 69, 70, 71, 72, 73] (by decide +kernel) (by decide +kernel)
set_option maxRecDepth 20000 in
theorem gX13_isBase_X13_right : GoodIn wsX13_isBase (wsV RX13 235 RX13 yX13_right wsX13_right) := goodIn_app (goodIn_of _ (by decide +kernel)) ggX13_isBase_X13_right
theorem dX13_isBase_0 : decode cX13_isBase 0 = .ok (.aload_n 0, 1) := by decide +kernel
theorem dX13_isBase_1 : decode cX13_isBase 1 = .ok (.iload_n 1, 1) := by decide +kernel
theorem dX13_isBase_2 : decode cX13_isBase 2 = .ok (.iconst 0, 1) := by decide +kernel
theorem dX13_isBase_3 : decode cX13_isBase 3 = .ok (.bipush 40, 2) := by decide +kernel
theorem dX13_isBase_5 : decode cX13_isBase 5 = .ok (.invokestatic 290, 3) := by decide +kernel
theorem dX13_isBase_8 : decode cX13_isBase 8 = .ok (.iload_n 2, 1) := by decide +kernel
theorem dX13_isBase_9 : decode cX13_isBase 9 = .ok (.invokevirtual 235, 3) := by decide +kernel
theorem dX13_isBase_12 : decode cX13_isBase 12 = .ok (.ireturn, 1) := by decide +kernel
set_option maxRecDepth 20000 in
theorem ggX13_isSpan_X13_right : GoodIn wsX13_isSpan wsX13_right := goodIn_r _ [5, 6, 7, 8, 9, 10, 11, 12, 13, 14, 15, 16, 17, 18, 19, 20, 21, 22, 23, 24, 25, 26, 27, 28, 29, 30, 31, 32, 33, 34, 35, 36, 37, 38, 39, 40, 41, 42, 43, 44, 45, 46, 47, 48, 49, 50, 51, 52, 53, 54, 55, 56, 57, 58, 59, 60, 61, 62, 63, 64, 65, 66, 67, 68, 69, 70] (by decide +kernel) (by decide +kernel)
set_option maxRecDepth 20000 in
theorem gX13_isSpan_X13_right : GoodIn wsX13_isSpan (wsV RX13 235 RX13 yX13_right wsX13_right) := goodIn_app (goodIn_of _ (by decide +kernel)) ggX13_isSpan_X13_right
theorem dX13_isSpan_0 : decode cX13_isSpan 0 = .ok (.aload_n 0, 1) := by decide +kernel
theorem dX13_isSpan_1 : decode cX13_isSpan 1 = .ok (.iload_n 1, 1) := by decide +kernel
theorem dX13_isSpan_2 : decode cX13_isSpan 2 = .ok (.ifCond .lt 18, 3) := by decide +kernel
theorem dX13_isSpan_5 : decode cX13_isSpan 5 = .ok (.iload_n 2, 1) := by decide +kernel
theorem dX13_isSpan_6 : decode cX13_isSpan 6 = .ok (.bipush 40, 2) := by decide +kernel
theorem dX13_isSpan_8 : decode cX13_isSpan 8 = .ok (.if_icmp .gt 12, 3) := by decide +kernel
theorem dX13_isSpan_11 : decode cX13_isSpan 11 = .ok (.iload_n 1, 1) := by decide +kernel
theorem dX13_isSpan_12 : decode cX13_isSpan 12 = .ok (.iload_n 2, 1) := by decide +kernel
theorem dX13_isSpan_13 : decode cX13_isSpan 13 = .ok (.if_icmp .gt 7, 3) := by decide +kernel
theorem dX13_isSpan_16 : decode cX13_isSpan 16 = .ok (.iconst 1, 1) := by decide +kernel
theorem dX13_isSpan_17 : decode cX13_isSpan 17 = .ok (.goto 4, 3) := by decide +kernel
theorem dX13_isSpan_20 : decode cX13_isSpan 20 = .ok (.iconst 0, 1) := by decide +kernel
theorem dX13_isSpan_21 : decode cX13_isSpan 21 = .ok (.iload_n 3, 1) := by decide +kernel
theorem dX13_isSpan_22 : decode cX13_isSpan 22 = .ok (.invokevirtual 235, 3) := by decide +kernel
theorem dX13_isSpan_25 : decode cX13_isSpan 25 = .ok (.ireturn, 1) := by decide +kernel
set_option maxRecDepth 20000 in
theorem ggX13_count_X13_within : GoodIn wsX13_count wsX13_within := goodIn_r _ [12] (by decide +kernel) (by decide +kernel)
set_option maxRecDepth 20000 in
theorem gX13_count_X13_within : GoodIn wsX13_count (va_wsS RX13 290 yX13_within wsX13_within) := goodIn_app (goodIn_of _ (by decide +kernel)) ggX13_count_X13_within
set_option maxRecDepth 20000 in
theorem ggX13_count_X13_right : GoodIn wsX13_count wsX13_right := goodIn_r _ [16, 1, 22, 23, 24, 25, 26, 27, 28, 29, 30, 31, 32, 33, 34, 35, 36, 37, 38, 39, 40, 41, 42, 43, 44, 45, 46, 47, 48, 49, 50, 51, 52, 53, 54, 55, 56, 57, 58, 59, 60, 61, 62, 63, 64, 65, 66, 67, 68, 69, 70, 71, 72, 73, 74, 75, 76, 77, 78, 79, 80, 81, 82, 83, 84, 85] (by decide +kernel) (by decide +kernel)
set_option maxRecDepth 20000 in
theorem gX13_count_X13_right : GoodIn wsX13_count (wsV RX13 235 RX13 yX13_right wsX13_right) := goodIn_app (goodIn_of _ (by decide +kernel)) ggX13_count_X13_right
set_option maxRecDepth 20000 in
theorem ggX13_count_X13_all : GoodIn wsX13_count wsX13_all := goodIn_r _ [20, 3, 21, 22, 23, 24, 25, 26, 27, 28, 29, 30, 31, 32, 33, 34, 35, 36, 37, 38, 39, 40, 41, 42, 43, 44, 45, 46, 47, 48, 49, 50, 51, 52, 53, 54, 55, 56, 57, 58, 59, 60, 61, 62, 63, 64, 65, 66, 67, 68, 69, 70, 71, 72, 73, 74, 75, 76, 77, 78, 79, 80, 81, 82, 83, 84, 85] (by decide +kernel) (by decide +kernel)
set_option maxRecDepth 20000 in
theorem gX13_count_X13_all : GoodIn wsX13_count (wsV RX13 274 RX13 yX13_all wsX13_all) := goodIn_app (goodIn_of _ (by decide +kernel)) ggX13_count_X13_all
theorem dX13_count_0 : decode cX13_count 0 = .ok (.aload_n 0, 1) := by decide +kernel
theorem dX13_count_1 : decode cX13_count 1 = .ok (.iconst 0, 1) := by decide +kernel
theorem dX13_count_2 : decode cX13_count 2 = .ok (.putfield 135, 3) := by decide +kernel
theorem dX13_count_5 : decode cX13_count 5 = .ok (.aload_n 0, 1) := by decide +kernel
theorem dX13_count_6 : decode cX13_count 6 = .ok (.iload_n 1, 1) := by decide +kernel
theorem dX13_count_7 : decode cX13_count 7 = .ok (.iconst 0, 1) := by decide +kernel
theorem dX13_count_8 : decode cX13_count 8 = .ok (.bipush 9, 2) := by decide +kernel
theorem dX13_count_10 : decode cX13_count 10 = .ok (.invokestatic 290, 3) := by decide +kernel
theorem dX13_count_13 : decode cX13_count 13 = .ok (.iconst 1, 1) := by decide +kernel
theorem dX13_count_14 : decode cX13_count 14 = .ok (.invokevirtual 235, 3) := by decide +kernel
theorem dX13_count_17 : decode cX13_count 17 = .ok (.ifCond .ne 5, 3) := by decide +kernel
theorem dX13_count_20 : decode cX13_count 20 = .ok (.iconst 0, 1) := by decide +kernel
theorem dX13_count_21 : decode cX13_count 21 = .ok (.ireturn, 1) := by decide +kernel
theorem dX13_count_22 : decode cX13_count 22 = .ok (.iconst 0, 1) := by decide +kernel
theorem dX13_count_23 : decode cX13_count 23 = .ok (.istore_n 2, 1) := by decide +kernel
theorem dX13_count_24 : decode cX13_count 24 = .ok (.iconst 0, 1) := by decide +kernel
theorem dX13_count_25 : decode cX13_count 25 = .ok (.istore_n 3, 1) := by decide +kernel
theorem dX13_count_26 : decode cX13_count 26 = .ok (.iload_n 3, 1) := by decide +kernel
theorem dX13_count_27 : decode cX13_count 27 = .ok (.bipush 10, 2) := by decide +kernel
theorem dX13_count_29 : decode cX13_count 29 = .ok (.if_icmp .ge 20, 3) := by decide +kernel
theorem dX13_count_32 : decode cX13_count 32 = .ok (.iload_n 2, 1) := by decide +kernel
theorem dX13_count_33 : decode cX13_count 33 = .ok (.aload_n 0, 1) := by decide +kernel
theorem dX13_count_34 : decode cX13_count 34 = .ok (.getfield 22, 3) := by decide +kernel
theorem dX13_count_37 : decode cX13_count 37 = .ok (.iload_n 3, 1) := by decide +kernel
theorem dX13_count_38 : decode cX13_count 38 = .ok (.iaload, 1) := by decide +kernel
theorem dX13_count_39 : decode cX13_count 39 = .ok (.iload_n 3, 1) := by decide +kernel
theorem dX13_count_40 : decode cX13_count 40 = .ok (.ishl, 1) := by decide +kernel
theorem dX13_count_41 : decode cX13_count 41 = .ok (.ior, 1) := by decide +kernel
theorem dX13_count_42 : decode cX13_count 42 = .ok (.istore_n 2, 1) := by decide +kernel
theorem dX13_count_43 : decode cX13_count 43 = .ok (.iinc 3 1, 3) := by decide +kernel
theorem dX13_count_46 : decode cX13_count 46 = .ok (.goto (-20), 3) := by decide +kernel
theorem dX13_count_49 : decode cX13_count 49 = .ok (.iload_n 1, 1) := by decide +kernel
theorem dX13_count_50 : decode cX13_count 50 = .ok (.tableswitch 74 0 6 #[42, 47, 49, 54, 59, 64, 69], 42) := by decide +kernel
theorem dX13_count_92 : decode cX13_count 92 = .ok (.aload_n 0, 1) := by decide +kernel
theorem dX13_count_93 : decode cX13_count 93 = .ok (.getfield 245, 3) := by decide +kernel
theorem dX13_count_96 : decode cX13_count 96 = .ok (.ireturn, 1) := by decide +kernel
theorem dX13_count_97 : decode cX13_count 97 = .ok (.iload_n 2, 1) := by decide +kernel
theorem dX13_count_98 : decode cX13_count 98 = .ok (.ireturn, 1) := by decide +kernel
theorem dX13_count_99 : decode cX13_count 99 = .ok (.aload_n 0, 1) := by decide +kernel
theorem dX13_count_100 : decode cX13_count 100 = .ok (.getfield 248, 3) := by decide +kernel
theorem dX13_count_103 : decode cX13_count 103 = .ok (.ireturn, 1) := by decide +kernel
theorem dX13_count_104 : decode cX13_count 104 = .ok (.aload_n 0, 1) := by decide +kernel
theorem dX13_count_105 : decode cX13_count 105 = .ok (.getfield 251, 3) := by decide +kernel
theorem dX13_count_108 : decode cX13_count 108 = .ok (.ireturn, 1) := by decide +kernel
theorem dX13_count_109 : decode cX13_count 109 = .ok (.aload_n 0, 1) := by decide +kernel
theorem dX13_count_110 : decode cX13_count 110 = .ok (.invokevirtual 274, 3) := by decide +kernel
theorem dX13_count_113 : decode cX13_count 113 = .ok (.ireturn, 1) := by decide +kernel
theorem dX13_count_114 : decode cX13_count 114 = .ok (.aload_n 0, 1) := by decide +kernel
theorem dX13_count_115 : decode cX13_count 115 = .ok (.getfield 261, 3) := by decide +kernel
theorem dX13_count_118 : decode cX13_count 118 = .ok (.ireturn, 1) := by decide +kernel
theorem dX13_count_119 : decode cX13_count 119 = .ok (.aload_n 0, 1) := by decide +kernel
theorem dX13_count_120 : decode cX13_count 120 = .ok (.getfield 138, 3) := by decide +kernel
theorem dX13_count_123 : decode cX13_count 123 = .ok (.ireturn, 1) := by decide +kernel
theorem dX13_count_124 : decode cX13_count 124 = .ok (.aload_n 0, 1) := by decide +kernel
theorem dX13_count_125 : decode cX13_count 125 = .ok (.getfield 44, 3) := by decide +kernel
theorem dX13_count_128 : decode cX13_count 128 = .ok (.iload_n 1, 1) := by decide +kernel
theorem dX13_count_129 : decode cX13_count 129 = .ok (.bipush 7, 2) := by decide +kernel
theorem dX13_count_131 : decode cX13_count 131 = .ok (.isub, 1) := by decide +kernel
theorem dX13_count_132 : decode cX13_count 132 = .ok (.iaload, 1) := by decide +kernel
theorem dX13_count_133 : decode cX13_count 133 = .ok (.ireturn, 1) := by decide +kernel
theorem dX13_worthOf_0 : decode cX13_worthOf 0 = .ok (.iload_n 2, 1) := by decide +kernel
theorem dX13_worthOf_1 : decode cX13_worthOf 1 = .ok (.iconst 2, 1) := by decide +kernel
theorem dX13_worthOf_2 : decode cX13_worthOf 2 = .ok (.if_icmp .ge 18, 3) := by decide +kernel
theorem dX13_worthOf_5 : decode cX13_worthOf 5 = .ok (.iload_n 2, 1) := by decide +kernel
theorem dX13_worthOf_6 : decode cX13_worthOf 6 = .ok (.ifCond .ne 7, 3) := by decide +kernel
theorem dX13_worthOf_9 : decode cX13_worthOf 9 = .ok (.iconst 0, 1) := by decide +kernel
theorem dX13_worthOf_10 : decode cX13_worthOf 10 = .ok (.goto 9, 3) := by decide +kernel
theorem dX13_worthOf_13 : decode cX13_worthOf 13 = .ok (.aload_n 0, 1) := by decide +kernel
theorem dX13_worthOf_14 : decode cX13_worthOf 14 = .ok (.getfield 31, 3) := by decide +kernel
theorem dX13_worthOf_17 : decode cX13_worthOf 17 = .ok (.iload_n 1, 1) := by decide +kernel
theorem dX13_worthOf_18 : decode cX13_worthOf 18 = .ok (.iaload, 1) := by decide +kernel
theorem dX13_worthOf_19 : decode cX13_worthOf 19 = .ok (.ireturn, 1) := by decide +kernel
theorem dX13_worthOf_20 : decode cX13_worthOf 20 = .ok (.iconst 0, 1) := by decide +kernel
theorem dX13_worthOf_21 : decode cX13_worthOf 21 = .ok (.istore_n 3, 1) := by decide +kernel
theorem dX13_worthOf_22 : decode cX13_worthOf 22 = .ok (.iconst 1, 1) := by decide +kernel
theorem dX13_worthOf_23 : decode cX13_worthOf 23 = .ok (.istore 4, 2) := by decide +kernel
theorem dX13_worthOf_25 : decode cX13_worthOf 25 = .ok (.iconst 0, 1) := by decide +kernel
theorem dX13_worthOf_26 : decode cX13_worthOf 26 = .ok (.istore 5, 2) := by decide +kernel
theorem dX13_worthOf_28 : decode cX13_worthOf 28 = .ok (.iconst 0, 1) := by decide +kernel
theorem dX13_worthOf_29 : decode cX13_worthOf 29 = .ok (.istore 6, 2) := by decide +kernel
theorem dX13_worthOf_31 : decode cX13_worthOf 31 = .ok (.iload 6, 2) := by decide +kernel
theorem dX13_worthOf_33 : decode cX13_worthOf 33 = .ok (.aload_n 0, 1) := by decide +kernel
theorem dX13_worthOf_34 : decode cX13_worthOf 34 = .ok (.getfield 31, 3) := by decide +kernel
theorem dX13_worthOf_37 : decode cX13_worthOf 37 = .ok (.iload_n 1, 1) := by decide +kernel
theorem dX13_worthOf_38 : decode cX13_worthOf 38 = .ok (.iaload, 1) := by decide +kernel
theorem dX13_worthOf_39 : decode cX13_worthOf 39 = .ok (.if_icmp .ge 65, 3) := by decide +kernel
theorem dX13_worthOf_42 : decode cX13_worthOf 42 = .ok (.aload_n 0, 1) := by decide +kernel
theorem dX13_worthOf_43 : decode cX13_worthOf 43 = .ok (.getfield 34, 3) := by decide +kernel
theorem dX13_worthOf_46 : decode cX13_worthOf 46 = .ok (.iconst 5, 1) := by decide +kernel
theorem dX13_worthOf_47 : decode cX13_worthOf 47 = .ok (.iload_n 1, 1) := by decide +kernel
theorem dX13_worthOf_48 : decode cX13_worthOf 48 = .ok (.imul, 1) := by decide +kernel
theorem dX13_worthOf_49 : decode cX13_worthOf 49 = .ok (.iload 6, 2) := by decide +kernel
theorem dX13_worthOf_51 : decode cX13_worthOf 51 = .ok (.iadd, 1) := by decide +kernel
theorem dX13_worthOf_52 : decode cX13_worthOf 52 = .ok (.iaload, 1) := by decide +kernel
theorem dX13_worthOf_53 : decode cX13_worthOf 53 = .ok (.istore 7, 2) := by decide +kernel
theorem dX13_worthOf_55 : decode cX13_worthOf 55 = .ok (.iload 5, 2) := by decide +kernel
theorem dX13_worthOf_57 : decode cX13_worthOf 57 = .ok (.ifCond .ne 9, 3) := by decide +kernel
theorem dX13_worthOf_60 : decode cX13_worthOf 60 = .ok (.iload 7, 2) := by decide +kernel
theorem dX13_worthOf_62 : decode cX13_worthOf 62 = .ok (.iload_n 2, 1) := by decide +kernel
theorem dX13_worthOf_63 : decode cX13_worthOf 63 = .ok (.if_icmp .lt 7, 3) := by decide +kernel
theorem dX13_worthOf_66 : decode cX13_worthOf 66 = .ok (.iconst 1, 1) := by decide +kernel
theorem dX13_worthOf_67 : decode cX13_worthOf 67 = .ok (.goto 4, 3) := by decide +kernel
theorem dX13_worthOf_70 : decode cX13_worthOf 70 = .ok (.iconst 0, 1) := by decide +kernel
theorem dX13_worthOf_71 : decode cX13_worthOf 71 = .ok (.istore 5, 2) := by decide +kernel
theorem dX13_worthOf_73 : decode cX13_worthOf 73 = .ok (.iload_n 3, 1) := by decide +kernel
theorem dX13_worthOf_74 : decode cX13_worthOf 74 = .ok (.iload_n 2, 1) := by decide +kernel
theorem dX13_worthOf_75 : decode cX13_worthOf 75 = .ok (.imul, 1) := by decide +kernel
theorem dX13_worthOf_76 : decode cX13_worthOf 76 = .ok (.iload 7, 2) := by decide +kernel
theorem dX13_worthOf_78 : decode cX13_worthOf 78 = .ok (.iload_n 2, 1) := by decide +kernel
theorem dX13_worthOf_79 : decode cX13_worthOf 79 = .ok (.if_icmp .ge 8, 3) := by decide +kernel
theorem dX13_worthOf_82 : decode cX13_worthOf 82 = .ok (.iload 7, 2) := by decide +kernel
theorem dX13_worthOf_84 : decode cX13_worthOf 84 = .ok (.goto 6, 3) := by decide +kernel
theorem dX13_worthOf_87 : decode cX13_worthOf 87 = .ok (.iload_n 2, 1) := by decide +kernel
theorem dX13_worthOf_88 : decode cX13_worthOf 88 = .ok (.iconst 1, 1) := by decide +kernel
theorem dX13_worthOf_89 : decode cX13_worthOf 89 = .ok (.isub, 1) := by decide +kernel
theorem dX13_worthOf_90 : decode cX13_worthOf 90 = .ok (.iadd, 1) := by decide +kernel
theorem dX13_worthOf_91 : decode cX13_worthOf 91 = .ok (.istore_n 3, 1) := by decide +kernel
theorem dX13_worthOf_92 : decode cX13_worthOf 92 = .ok (.iload 4, 2) := by decide +kernel
theorem dX13_worthOf_94 : decode cX13_worthOf 94 = .ok (.iload_n 2, 1) := by decide +kernel
theorem dX13_worthOf_95 : decode cX13_worthOf 95 = .ok (.imul, 1) := by decide +kernel
theorem dX13_worthOf_96 : decode cX13_worthOf 96 = .ok (.istore 4, 2) := by decide +kernel
theorem dX13_worthOf_98 : decode cX13_worthOf 98 = .ok (.iinc 6 1, 3) := by decide +kernel
theorem dX13_worthOf_101 : decode cX13_worthOf 101 = .ok (.goto (-70), 3) := by decide +kernel
theorem dX13_worthOf_104 : decode cX13_worthOf 104 = .ok (.iload 5, 2) := by decide +kernel
theorem dX13_worthOf_106 : decode cX13_worthOf 106 = .ok (.ifCond .eq 11, 3) := by decide +kernel
theorem dX13_worthOf_109 : decode cX13_worthOf 109 = .ok (.aload_n 0, 1) := by decide +kernel
theorem dX13_worthOf_110 : decode cX13_worthOf 110 = .ok (.getfield 248, 3) := by decide +kernel
theorem dX13_worthOf_113 : decode cX13_worthOf 113 = .ok (.iconst 2, 1) := by decide +kernel
theorem dX13_worthOf_114 : decode cX13_worthOf 114 = .ok (.if_icmp .ne 7, 3) := by decide +kernel
theorem dX13_worthOf_117 : decode cX13_worthOf 117 = .ok (.iload_n 3, 1) := by decide +kernel
theorem dX13_worthOf_118 : decode cX13_worthOf 118 = .ok (.goto 16, 3) := by decide +kernel
theorem dX13_worthOf_121 : decode cX13_worthOf 121 = .ok (.aload_n 0, 1) := by decide +kernel
theorem dX13_worthOf_122 : decode cX13_worthOf 122 = .ok (.getfield 248, 3) := by decide +kernel
theorem dX13_worthOf_125 : decode cX13_worthOf 125 = .ok (.ifCond .ne 7, 3) := by decide +kernel
theorem dX13_worthOf_128 : decode cX13_worthOf 128 = .ok (.iconst 0, 1) := by decide +kernel
theorem dX13_worthOf_129 : decode cX13_worthOf 129 = .ok (.goto 5, 3) := by decide +kernel
theorem dX13_worthOf_132 : decode cX13_worthOf 132 = .ok (.iload 4, 2) := by decide +kernel
theorem dX13_worthOf_134 : decode cX13_worthOf 134 = .ok (.ireturn, 1) := by decide +kernel
set_option maxRecDepth 20000 in
theorem ggX13_lay_X13_worthOf : GoodIn wsX13_lay wsX13_worthOf := goodIn_r _ [7, 8, 9, 10, 11, 12, 13, 14, 15, 16, 17, 18, 19, 20, 21, 22, 23, 24, 25, 26, 27, 28, 29, 30, 31, 32, 33, 34, 35, 36, 37, 38, 39, 40, 41, 42, 43, 44, 45, 46, 47, 48, 49, 50, 51, 52, 53, 54, 55, 56, 57, 58, 59, 60, 61, 62, 63, 64, 65, 66, 67, 68, 69, 70, 71, 72, 73, 74] (by decide +kernel) (by decide +kernel)
set_option maxRecDepth 20000 in
theorem gX13_lay_X13_worthOf : GoodIn wsX13_lay (wsV RX13 294 RX13 yX13_worthOf wsX13_worthOf) := goodIn_app (goodIn_of _ (by decide +kernel)) ggX13_lay_X13_worthOf
theorem dX13_lay_0 : decode cX13_lay 0 = .ok (.iconst 0, 1) := by decide +kernel
theorem dX13_lay_1 : decode cX13_lay 1 = .ok (.istore_n 1, 1) := by decide +kernel
theorem dX13_lay_2 : decode cX13_lay 2 = .ok (.iload_n 1, 1) := by decide +kernel
theorem dX13_lay_3 : decode cX13_lay 3 = .ok (.bipush 10, 2) := by decide +kernel
theorem dX13_lay_5 : decode cX13_lay 5 = .ok (.if_icmp .ge 54, 3) := by decide +kernel
theorem dX13_lay_8 : decode cX13_lay 8 = .ok (.iconst 0, 1) := by decide +kernel
theorem dX13_lay_9 : decode cX13_lay 9 = .ok (.istore_n 2, 1) := by decide +kernel
theorem dX13_lay_10 : decode cX13_lay 10 = .ok (.iload_n 2, 1) := by decide +kernel
theorem dX13_lay_11 : decode cX13_lay 11 = .ok (.bipush 62, 2) := by decide +kernel
theorem dX13_lay_13 : decode cX13_lay 13 = .ok (.if_icmp .ge 40, 3) := by decide +kernel
theorem dX13_lay_16 : decode cX13_lay 16 = .ok (.aload_n 0, 1) := by decide +kernel
theorem dX13_lay_17 : decode cX13_lay 17 = .ok (.getfield 74, 3) := by decide +kernel
theorem dX13_lay_20 : decode cX13_lay 20 = .ok (.bipush 62, 2) := by decide +kernel
theorem dX13_lay_22 : decode cX13_lay 22 = .ok (.iload_n 1, 1) := by decide +kernel
theorem dX13_lay_23 : decode cX13_lay 23 = .ok (.imul, 1) := by decide +kernel
theorem dX13_lay_24 : decode cX13_lay 24 = .ok (.iload_n 2, 1) := by decide +kernel
theorem dX13_lay_25 : decode cX13_lay 25 = .ok (.iadd, 1) := by decide +kernel
theorem dX13_lay_26 : decode cX13_lay 26 = .ok (.aload_n 0, 1) := by decide +kernel
theorem dX13_lay_27 : decode cX13_lay 27 = .ok (.getfield 22, 3) := by decide +kernel
theorem dX13_lay_30 : decode cX13_lay 30 = .ok (.iload_n 1, 1) := by decide +kernel
theorem dX13_lay_31 : decode cX13_lay 31 = .ok (.iaload, 1) := by decide +kernel
theorem dX13_lay_32 : decode cX13_lay 32 = .ok (.iconst 1, 1) := by decide +kernel
theorem dX13_lay_33 : decode cX13_lay 33 = .ok (.if_icmp .ne 12, 3) := by decide +kernel
theorem dX13_lay_36 : decode cX13_lay 36 = .ok (.aload_n 0, 1) := by decide +kernel
theorem dX13_lay_37 : decode cX13_lay 37 = .ok (.iload_n 1, 1) := by decide +kernel
theorem dX13_lay_38 : decode cX13_lay 38 = .ok (.iload_n 2, 1) := by decide +kernel
theorem dX13_lay_39 : decode cX13_lay 39 = .ok (.invokevirtual 294, 3) := by decide +kernel
theorem dX13_lay_42 : decode cX13_lay 42 = .ok (.goto 4, 3) := by decide +kernel
theorem dX13_lay_45 : decode cX13_lay 45 = .ok (.iconst 0, 1) := by decide +kernel
theorem dX13_lay_46 : decode cX13_lay 46 = .ok (.iastore, 1) := by decide +kernel
theorem dX13_lay_47 : decode cX13_lay 47 = .ok (.iinc 2 1, 3) := by decide +kernel
theorem dX13_lay_50 : decode cX13_lay 50 = .ok (.goto (-40), 3) := by decide +kernel
theorem dX13_lay_53 : decode cX13_lay 53 = .ok (.iinc 1 1, 3) := by decide +kernel
theorem dX13_lay_56 : decode cX13_lay 56 = .ok (.goto (-54), 3) := by decide +kernel
theorem dX13_lay_59 : decode cX13_lay 59 = .ok (.return_, 1) := by decide +kernel
theorem dX13_oweBy_0 : decode cX13_oweBy 0 = .ok (.iconst 0, 1) := by decide +kernel
theorem dX13_oweBy_1 : decode cX13_oweBy 1 = .ok (.istore_n 3, 1) := by decide +kernel
theorem dX13_oweBy_2 : decode cX13_oweBy 2 = .ok (.iconst 0, 1) := by decide +kernel
theorem dX13_oweBy_3 : decode cX13_oweBy 3 = .ok (.istore 4, 2) := by decide +kernel
theorem dX13_oweBy_5 : decode cX13_oweBy 5 = .ok (.iload 4, 2) := by decide +kernel
theorem dX13_oweBy_7 : decode cX13_oweBy 7 = .ok (.bipush 10, 2) := by decide +kernel
theorem dX13_oweBy_9 : decode cX13_oweBy 9 = .ok (.if_icmp .ge 50, 3) := by decide +kernel
theorem dX13_oweBy_12 : decode cX13_oweBy 12 = .ok (.iload_n 3, 1) := by decide +kernel
theorem dX13_oweBy_13 : decode cX13_oweBy 13 = .ok (.aload_n 0, 1) := by decide +kernel
theorem dX13_oweBy_14 : decode cX13_oweBy 14 = .ok (.getfield 22, 3) := by decide +kernel
theorem dX13_oweBy_17 : decode cX13_oweBy 17 = .ok (.iload 4, 2) := by decide +kernel
theorem dX13_oweBy_19 : decode cX13_oweBy 19 = .ok (.iaload, 1) := by decide +kernel
theorem dX13_oweBy_20 : decode cX13_oweBy 20 = .ok (.iconst 1, 1) := by decide +kernel
theorem dX13_oweBy_21 : decode cX13_oweBy 21 = .ok (.if_icmp .ne 29, 3) := by decide +kernel
theorem dX13_oweBy_24 : decode cX13_oweBy 24 = .ok (.aload_n 0, 1) := by decide +kernel
theorem dX13_oweBy_25 : decode cX13_oweBy 25 = .ok (.getfield 25, 3) := by decide +kernel
theorem dX13_oweBy_28 : decode cX13_oweBy 28 = .ok (.iload 4, 2) := by decide +kernel
theorem dX13_oweBy_30 : decode cX13_oweBy 30 = .ok (.iaload, 1) := by decide +kernel
theorem dX13_oweBy_31 : decode cX13_oweBy 31 = .ok (.iload_n 1, 1) := by decide +kernel
theorem dX13_oweBy_32 : decode cX13_oweBy 32 = .ok (.if_icmp .ne 18, 3) := by decide +kernel
theorem dX13_oweBy_35 : decode cX13_oweBy 35 = .ok (.aload_n 0, 1) := by decide +kernel
theorem dX13_oweBy_36 : decode cX13_oweBy 36 = .ok (.getfield 74, 3) := by decide +kernel
theorem dX13_oweBy_39 : decode cX13_oweBy 39 = .ok (.bipush 62, 2) := by decide +kernel
theorem dX13_oweBy_41 : decode cX13_oweBy 41 = .ok (.iload 4, 2) := by decide +kernel
theorem dX13_oweBy_43 : decode cX13_oweBy 43 = .ok (.imul, 1) := by decide +kernel
theorem dX13_oweBy_44 : decode cX13_oweBy 44 = .ok (.iload_n 2, 1) := by decide +kernel
theorem dX13_oweBy_45 : decode cX13_oweBy 45 = .ok (.iadd, 1) := by decide +kernel
theorem dX13_oweBy_46 : decode cX13_oweBy 46 = .ok (.iaload, 1) := by decide +kernel
theorem dX13_oweBy_47 : decode cX13_oweBy 47 = .ok (.goto 4, 3) := by decide +kernel
theorem dX13_oweBy_50 : decode cX13_oweBy 50 = .ok (.iconst 0, 1) := by decide +kernel
theorem dX13_oweBy_51 : decode cX13_oweBy 51 = .ok (.iadd, 1) := by decide +kernel
theorem dX13_oweBy_52 : decode cX13_oweBy 52 = .ok (.istore_n 3, 1) := by decide +kernel
theorem dX13_oweBy_53 : decode cX13_oweBy 53 = .ok (.iinc 4 1, 3) := by decide +kernel
theorem dX13_oweBy_56 : decode cX13_oweBy 56 = .ok (.goto (-51), 3) := by decide +kernel
theorem dX13_oweBy_59 : decode cX13_oweBy 59 = .ok (.iload_n 3, 1) := by decide +kernel
theorem dX13_oweBy_60 : decode cX13_oweBy 60 = .ok (.ireturn, 1) := by decide +kernel
theorem dX13_owedTo_0 : decode cX13_owedTo 0 = .ok (.iconst 0, 1) := by decide +kernel
theorem dX13_owedTo_1 : decode cX13_owedTo 1 = .ok (.istore_n 3, 1) := by decide +kernel
theorem dX13_owedTo_2 : decode cX13_owedTo 2 = .ok (.iconst 0, 1) := by decide +kernel
theorem dX13_owedTo_3 : decode cX13_owedTo 3 = .ok (.istore 4, 2) := by decide +kernel
theorem dX13_owedTo_5 : decode cX13_owedTo 5 = .ok (.iload 4, 2) := by decide +kernel
theorem dX13_owedTo_7 : decode cX13_owedTo 7 = .ok (.bipush 10, 2) := by decide +kernel
theorem dX13_owedTo_9 : decode cX13_owedTo 9 = .ok (.if_icmp .ge 50, 3) := by decide +kernel
theorem dX13_owedTo_12 : decode cX13_owedTo 12 = .ok (.iload_n 3, 1) := by decide +kernel
theorem dX13_owedTo_13 : decode cX13_owedTo 13 = .ok (.aload_n 0, 1) := by decide +kernel
theorem dX13_owedTo_14 : decode cX13_owedTo 14 = .ok (.getfield 22, 3) := by decide +kernel
theorem dX13_owedTo_17 : decode cX13_owedTo 17 = .ok (.iload 4, 2) := by decide +kernel
theorem dX13_owedTo_19 : decode cX13_owedTo 19 = .ok (.iaload, 1) := by decide +kernel
theorem dX13_owedTo_20 : decode cX13_owedTo 20 = .ok (.iconst 1, 1) := by decide +kernel
theorem dX13_owedTo_21 : decode cX13_owedTo 21 = .ok (.if_icmp .ne 29, 3) := by decide +kernel
theorem dX13_owedTo_24 : decode cX13_owedTo 24 = .ok (.aload_n 0, 1) := by decide +kernel
theorem dX13_owedTo_25 : decode cX13_owedTo 25 = .ok (.getfield 28, 3) := by decide +kernel
theorem dX13_owedTo_28 : decode cX13_owedTo 28 = .ok (.iload 4, 2) := by decide +kernel
theorem dX13_owedTo_30 : decode cX13_owedTo 30 = .ok (.iaload, 1) := by decide +kernel
theorem dX13_owedTo_31 : decode cX13_owedTo 31 = .ok (.iload_n 1, 1) := by decide +kernel
theorem dX13_owedTo_32 : decode cX13_owedTo 32 = .ok (.if_icmp .ne 18, 3) := by decide +kernel
theorem dX13_owedTo_35 : decode cX13_owedTo 35 = .ok (.aload_n 0, 1) := by decide +kernel
theorem dX13_owedTo_36 : decode cX13_owedTo 36 = .ok (.getfield 74, 3) := by decide +kernel
theorem dX13_owedTo_39 : decode cX13_owedTo 39 = .ok (.bipush 62, 2) := by decide +kernel
theorem dX13_owedTo_41 : decode cX13_owedTo 41 = .ok (.iload 4, 2) := by decide +kernel
theorem dX13_owedTo_43 : decode cX13_owedTo 43 = .ok (.imul, 1) := by decide +kernel
