theorem dX13_hedge_169 : decode cX13_hedge 169 = .ok (.iconst 1, 1) := by decide +kernel
theorem dX13_hedge_170 : decode cX13_hedge 170 = .ok (.iand, 1) := by decide +kernel
theorem dX13_hedge_171 : decode cX13_hedge 171 = .ok (.iconst 1, 1) := by decide +kernel
theorem dX13_hedge_172 : decode cX13_hedge 172 = .ok (.if_icmp .ne 54, 3) := by decide +kernel
theorem dX13_hedge_175 : decode cX13_hedge 175 = .ok (.aload_n 0, 1) := by decide +kernel
theorem dX13_hedge_176 : decode cX13_hedge 176 = .ok (.getfield 77, 3) := by decide +kernel
theorem dX13_hedge_179 : decode cX13_hedge 179 = .ok (.iload 9, 2) := by decide +kernel
theorem dX13_hedge_181 : decode cX13_hedge 181 = .ok (.dup2, 1) := by decide +kernel
theorem dX13_hedge_182 : decode cX13_hedge 182 = .ok (.iaload, 1) := by decide +kernel
theorem dX13_hedge_183 : decode cX13_hedge 183 = .ok (.iload 4, 2) := by decide +kernel
theorem dX13_hedge_185 : decode cX13_hedge 185 = .ok (.ifCond .eq 20, 3) := by decide +kernel
theorem dX13_hedge_188 : decode cX13_hedge 188 = .ok (.aload_n 0, 1) := by decide +kernel
theorem dX13_hedge_189 : decode cX13_hedge 189 = .ok (.getfield 74, 3) := by decide +kernel
theorem dX13_hedge_192 : decode cX13_hedge 192 = .ok (.bipush 62, 2) := by decide +kernel
theorem dX13_hedge_194 : decode cX13_hedge 194 = .ok (.iload 8, 2) := by decide +kernel
theorem dX13_hedge_196 : decode cX13_hedge 196 = .ok (.imul, 1) := by decide +kernel
theorem dX13_hedge_197 : decode cX13_hedge 197 = .ok (.iload 9, 2) := by decide +kernel
theorem dX13_hedge_199 : decode cX13_hedge 199 = .ok (.iadd, 1) := by decide +kernel
theorem dX13_hedge_200 : decode cX13_hedge 200 = .ok (.iaload, 1) := by decide +kernel
theorem dX13_hedge_201 : decode cX13_hedge 201 = .ok (.ineg, 1) := by decide +kernel
theorem dX13_hedge_202 : decode cX13_hedge 202 = .ok (.goto 16, 3) := by decide +kernel
theorem dX13_hedge_205 : decode cX13_hedge 205 = .ok (.aload_n 0, 1) := by decide +kernel
theorem dX13_hedge_206 : decode cX13_hedge 206 = .ok (.getfield 74, 3) := by decide +kernel
theorem dX13_hedge_209 : decode cX13_hedge 209 = .ok (.bipush 62, 2) := by decide +kernel
theorem dX13_hedge_211 : decode cX13_hedge 211 = .ok (.iload 8, 2) := by decide +kernel
theorem dX13_hedge_213 : decode cX13_hedge 213 = .ok (.imul, 1) := by decide +kernel
theorem dX13_hedge_214 : decode cX13_hedge 214 = .ok (.iload 9, 2) := by decide +kernel
theorem dX13_hedge_216 : decode cX13_hedge 216 = .ok (.iadd, 1) := by decide +kernel
theorem dX13_hedge_217 : decode cX13_hedge 217 = .ok (.iaload, 1) := by decide +kernel
theorem dX13_hedge_218 : decode cX13_hedge 218 = .ok (.iadd, 1) := by decide +kernel
theorem dX13_hedge_219 : decode cX13_hedge 219 = .ok (.iastore, 1) := by decide +kernel
theorem dX13_hedge_220 : decode cX13_hedge 220 = .ok (.iinc 9 1, 3) := by decide +kernel
theorem dX13_hedge_223 : decode cX13_hedge 223 = .ok (.goto (-65), 3) := by decide +kernel
theorem dX13_hedge_226 : decode cX13_hedge 226 = .ok (.iinc 8 1, 3) := by decide +kernel
theorem dX13_hedge_229 : decode cX13_hedge 229 = .ok (.goto (-81), 3) := by decide +kernel
theorem dX13_hedge_232 : decode cX13_hedge 232 = .ok (.aload_n 0, 1) := by decide +kernel
theorem dX13_hedge_233 : decode cX13_hedge 233 = .ok (.iload_n 2, 1) := by decide +kernel
theorem dX13_hedge_234 : decode cX13_hedge 234 = .ok (.iload_n 3, 1) := by decide +kernel
theorem dX13_hedge_235 : decode cX13_hedge 235 = .ok (.invokevirtual 321, 3) := by decide +kernel
theorem dX13_hedge_238 : decode cX13_hedge 238 = .ok (.ifCond .ne 7, 3) := by decide +kernel
theorem dX13_hedge_241 : decode cX13_hedge 241 = .ok (.iload 7, 2) := by decide +kernel
theorem dX13_hedge_243 : decode cX13_hedge 243 = .ok (.istore 6, 2) := by decide +kernel
theorem dX13_hedge_245 : decode cX13_hedge 245 = .ok (.iinc 7 1, 3) := by decide +kernel
theorem dX13_hedge_248 : decode cX13_hedge 248 = .ok (.goto (-148), 3) := by decide +kernel
theorem dX13_hedge_251 : decode cX13_hedge 251 = .ok (.iload 6, 2) := by decide +kernel
theorem dX13_hedge_253 : decode cX13_hedge 253 = .ok (.ireturn, 1) := by decide +kernel
theorem dX13_ahead_0 : decode cX13_ahead 0 = .ok (.aload_n 0, 1) := by decide +kernel
theorem dX13_ahead_1 : decode cX13_ahead 1 = .ok (.getfield 89, 3) := by decide +kernel
theorem dX13_ahead_4 : decode cX13_ahead 4 = .ok (.iload_n 1, 1) := by decide +kernel
theorem dX13_ahead_5 : decode cX13_ahead 5 = .ok (.iaload, 1) := by decide +kernel
theorem dX13_ahead_6 : decode cX13_ahead 6 = .ok (.ireturn, 1) := by decide +kernel
theorem dX13_isLess_0 : decode cX13_isLess 0 = .ok (.aload_n 0, 1) := by decide +kernel
theorem dX13_isLess_1 : decode cX13_isLess 1 = .ok (.iload_n 1, 1) := by decide +kernel
theorem dX13_isLess_2 : decode cX13_isLess 2 = .ok (.iload_n 2, 1) := by decide +kernel
theorem dX13_isLess_3 : decode cX13_isLess 3 = .ok (.iload_n 3, 1) := by decide +kernel
theorem dX13_isLess_4 : decode cX13_isLess 4 = .ok (.invokevirtual 327, 3) := by decide +kernel
theorem dX13_isLess_7 : decode cX13_isLess 7 = .ok (.aload_n 0, 1) := by decide +kernel
theorem dX13_isLess_8 : decode cX13_isLess 8 = .ok (.iload_n 1, 1) := by decide +kernel
theorem dX13_isLess_9 : decode cX13_isLess 9 = .ok (.invokevirtual 344, 3) := by decide +kernel
theorem dX13_isLess_12 : decode cX13_isLess 12 = .ok (.if_icmp .ge 7, 3) := by decide +kernel
theorem dX13_isLess_15 : decode cX13_isLess 15 = .ok (.iconst 1, 1) := by decide +kernel
theorem dX13_isLess_16 : decode cX13_isLess 16 = .ok (.goto 4, 3) := by decide +kernel
theorem dX13_isLess_19 : decode cX13_isLess 19 = .ok (.iconst 0, 1) := by decide +kernel
theorem dX13_isLess_20 : decode cX13_isLess 20 = .ok (.ireturn, 1) := by decide +kernel
theorem dX13_saferTwo_0 : decode cX13_saferTwo 0 = .ok (.aload_n 0, 1) := by decide +kernel
theorem dX13_saferTwo_1 : decode cX13_saferTwo 1 = .ok (.iload_n 1, 1) := by decide +kernel
theorem dX13_saferTwo_2 : decode cX13_saferTwo 2 = .ok (.iload_n 2, 1) := by decide +kernel
theorem dX13_saferTwo_3 : decode cX13_saferTwo 3 = .ok (.invokevirtual 280, 3) := by decide +kernel
theorem dX13_saferTwo_6 : decode cX13_saferTwo 6 = .ok (.ifCond .ne 5, 3) := by decide +kernel
theorem dX13_saferTwo_9 : decode cX13_saferTwo 9 = .ok (.iconst 0, 1) := by decide +kernel
theorem dX13_saferTwo_10 : decode cX13_saferTwo 10 = .ok (.ireturn, 1) := by decide +kernel
theorem dX13_saferTwo_11 : decode cX13_saferTwo 11 = .ok (.aload_n 0, 1) := by decide +kernel
theorem dX13_saferTwo_12 : decode cX13_saferTwo 12 = .ok (.getfield 28, 3) := by decide +kernel
theorem dX13_saferTwo_15 : decode cX13_saferTwo 15 = .ok (.iload_n 1, 1) := by decide +kernel
theorem dX13_saferTwo_16 : decode cX13_saferTwo 16 = .ok (.aload_n 0, 1) := by decide +kernel
theorem dX13_saferTwo_17 : decode cX13_saferTwo 17 = .ok (.getfield 92, 3) := by decide +kernel
theorem dX13_saferTwo_20 : decode cX13_saferTwo 20 = .ok (.iload_n 2, 1) := by decide +kernel
theorem dX13_saferTwo_21 : decode cX13_saferTwo 21 = .ok (.iaload, 1) := by decide +kernel
theorem dX13_saferTwo_22 : decode cX13_saferTwo 22 = .ok (.iastore, 1) := by decide +kernel
theorem dX13_saferTwo_23 : decode cX13_saferTwo 23 = .ok (.aload_n 0, 1) := by decide +kernel
theorem dX13_saferTwo_24 : decode cX13_saferTwo 24 = .ok (.getfield 28, 3) := by decide +kernel
theorem dX13_saferTwo_27 : decode cX13_saferTwo 27 = .ok (.iload_n 2, 1) := by decide +kernel
theorem dX13_saferTwo_28 : decode cX13_saferTwo 28 = .ok (.aload_n 0, 1) := by decide +kernel
theorem dX13_saferTwo_29 : decode cX13_saferTwo 29 = .ok (.getfield 92, 3) := by decide +kernel
theorem dX13_saferTwo_32 : decode cX13_saferTwo 32 = .ok (.iload_n 1, 1) := by decide +kernel
theorem dX13_saferTwo_33 : decode cX13_saferTwo 33 = .ok (.iaload, 1) := by decide +kernel
theorem dX13_saferTwo_34 : decode cX13_saferTwo 34 = .ok (.iastore, 1) := by decide +kernel
theorem dX13_saferTwo_35 : decode cX13_saferTwo 35 = .ok (.aload_n 0, 1) := by decide +kernel
theorem dX13_saferTwo_36 : decode cX13_saferTwo 36 = .ok (.aload_n 0, 1) := by decide +kernel
theorem dX13_saferTwo_37 : decode cX13_saferTwo 37 = .ok (.getfield 92, 3) := by decide +kernel
theorem dX13_saferTwo_40 : decode cX13_saferTwo 40 = .ok (.iload_n 1, 1) := by decide +kernel
theorem dX13_saferTwo_41 : decode cX13_saferTwo 41 = .ok (.iaload, 1) := by decide +kernel
theorem dX13_saferTwo_42 : decode cX13_saferTwo 42 = .ok (.iload_n 3, 1) := by decide +kernel
theorem dX13_saferTwo_43 : decode cX13_saferTwo 43 = .ok (.iload 4, 2) := by decide +kernel
theorem dX13_saferTwo_45 : decode cX13_saferTwo 45 = .ok (.invokevirtual 347, 3) := by decide +kernel
theorem dX13_saferTwo_48 : decode cX13_saferTwo 48 = .ok (.ifCond .eq 23, 3) := by decide +kernel
theorem dX13_saferTwo_51 : decode cX13_saferTwo 51 = .ok (.aload_n 0, 1) := by decide +kernel
theorem dX13_saferTwo_52 : decode cX13_saferTwo 52 = .ok (.aload_n 0, 1) := by decide +kernel
theorem dX13_saferTwo_53 : decode cX13_saferTwo 53 = .ok (.getfield 92, 3) := by decide +kernel
theorem dX13_saferTwo_56 : decode cX13_saferTwo 56 = .ok (.iload_n 2, 1) := by decide +kernel
theorem dX13_saferTwo_57 : decode cX13_saferTwo 57 = .ok (.iaload, 1) := by decide +kernel
theorem dX13_saferTwo_58 : decode cX13_saferTwo 58 = .ok (.iload_n 3, 1) := by decide +kernel
theorem dX13_saferTwo_59 : decode cX13_saferTwo 59 = .ok (.iload 4, 2) := by decide +kernel
theorem dX13_saferTwo_61 : decode cX13_saferTwo 61 = .ok (.invokevirtual 347, 3) := by decide +kernel
theorem dX13_saferTwo_64 : decode cX13_saferTwo 64 = .ok (.ifCond .eq 7, 3) := by decide +kernel
theorem dX13_saferTwo_67 : decode cX13_saferTwo 67 = .ok (.iconst 1, 1) := by decide +kernel
theorem dX13_saferTwo_68 : decode cX13_saferTwo 68 = .ok (.goto 4, 3) := by decide +kernel
theorem dX13_saferTwo_71 : decode cX13_saferTwo 71 = .ok (.iconst 0, 1) := by decide +kernel
theorem dX13_saferTwo_72 : decode cX13_saferTwo 72 = .ok (.istore 5, 2) := by decide +kernel
theorem dX13_saferTwo_74 : decode cX13_saferTwo 74 = .ok (.aload_n 0, 1) := by decide +kernel
theorem dX13_saferTwo_75 : decode cX13_saferTwo 75 = .ok (.getfield 28, 3) := by decide +kernel
theorem dX13_saferTwo_78 : decode cX13_saferTwo 78 = .ok (.iload_n 1, 1) := by decide +kernel
theorem dX13_saferTwo_79 : decode cX13_saferTwo 79 = .ok (.aload_n 0, 1) := by decide +kernel
theorem dX13_saferTwo_80 : decode cX13_saferTwo 80 = .ok (.getfield 92, 3) := by decide +kernel
theorem dX13_saferTwo_83 : decode cX13_saferTwo 83 = .ok (.iload_n 1, 1) := by decide +kernel
theorem dX13_saferTwo_84 : decode cX13_saferTwo 84 = .ok (.iaload, 1) := by decide +kernel
theorem dX13_saferTwo_85 : decode cX13_saferTwo 85 = .ok (.iastore, 1) := by decide +kernel
theorem dX13_saferTwo_86 : decode cX13_saferTwo 86 = .ok (.aload_n 0, 1) := by decide +kernel
theorem dX13_saferTwo_87 : decode cX13_saferTwo 87 = .ok (.getfield 28, 3) := by decide +kernel
theorem dX13_saferTwo_90 : decode cX13_saferTwo 90 = .ok (.iload_n 2, 1) := by decide +kernel
theorem dX13_saferTwo_91 : decode cX13_saferTwo 91 = .ok (.aload_n 0, 1) := by decide +kernel
theorem dX13_saferTwo_92 : decode cX13_saferTwo 92 = .ok (.getfield 92, 3) := by decide +kernel
theorem dX13_saferTwo_95 : decode cX13_saferTwo 95 = .ok (.iload_n 2, 1) := by decide +kernel
theorem dX13_saferTwo_96 : decode cX13_saferTwo 96 = .ok (.iaload, 1) := by decide +kernel
theorem dX13_saferTwo_97 : decode cX13_saferTwo 97 = .ok (.iastore, 1) := by decide +kernel
theorem dX13_saferTwo_98 : decode cX13_saferTwo 98 = .ok (.iload 5, 2) := by decide +kernel
theorem dX13_saferTwo_100 : decode cX13_saferTwo 100 = .ok (.ireturn, 1) := by decide +kernel
theorem dX13_saferThree_0 : decode cX13_saferThree 0 = .ok (.aload_n 0, 1) := by decide +kernel
theorem dX13_saferThree_1 : decode cX13_saferThree 1 = .ok (.getfield 22, 3) := by decide +kernel
theorem dX13_saferThree_4 : decode cX13_saferThree 4 = .ok (.iload_n 1, 1) := by decide +kernel
theorem dX13_saferThree_5 : decode cX13_saferThree 5 = .ok (.iaload, 1) := by decide +kernel
theorem dX13_saferThree_6 : decode cX13_saferThree 6 = .ok (.ifCond .eq 66, 3) := by decide +kernel
theorem dX13_saferThree_9 : decode cX13_saferThree 9 = .ok (.aload_n 0, 1) := by decide +kernel
theorem dX13_saferThree_10 : decode cX13_saferThree 10 = .ok (.getfield 22, 3) := by decide +kernel
theorem dX13_saferThree_13 : decode cX13_saferThree 13 = .ok (.iload_n 2, 1) := by decide +kernel
theorem dX13_saferThree_14 : decode cX13_saferThree 14 = .ok (.iaload, 1) := by decide +kernel
theorem dX13_saferThree_15 : decode cX13_saferThree 15 = .ok (.ifCond .eq 57, 3) := by decide +kernel
theorem dX13_saferThree_18 : decode cX13_saferThree 18 = .ok (.aload_n 0, 1) := by decide +kernel
theorem dX13_saferThree_19 : decode cX13_saferThree 19 = .ok (.getfield 22, 3) := by decide +kernel
theorem dX13_saferThree_22 : decode cX13_saferThree 22 = .ok (.iload_n 3, 1) := by decide +kernel
theorem dX13_saferThree_23 : decode cX13_saferThree 23 = .ok (.iaload, 1) := by decide +kernel
theorem dX13_saferThree_24 : decode cX13_saferThree 24 = .ok (.ifCond .eq 48, 3) := by decide +kernel
theorem dX13_saferThree_27 : decode cX13_saferThree 27 = .ok (.aload_n 0, 1) := by decide +kernel
theorem dX13_saferThree_28 : decode cX13_saferThree 28 = .ok (.getfield 28, 3) := by decide +kernel
theorem dX13_saferThree_31 : decode cX13_saferThree 31 = .ok (.iload_n 1, 1) := by decide +kernel
theorem dX13_saferThree_32 : decode cX13_saferThree 32 = .ok (.iaload, 1) := by decide +kernel
theorem dX13_saferThree_33 : decode cX13_saferThree 33 = .ok (.aload_n 0, 1) := by decide +kernel
theorem dX13_saferThree_34 : decode cX13_saferThree 34 = .ok (.getfield 28, 3) := by decide +kernel
theorem dX13_saferThree_37 : decode cX13_saferThree 37 = .ok (.iload_n 2, 1) := by decide +kernel
theorem dX13_saferThree_38 : decode cX13_saferThree 38 = .ok (.iaload, 1) := by decide +kernel
theorem dX13_saferThree_39 : decode cX13_saferThree 39 = .ok (.if_icmp .eq 33, 3) := by decide +kernel
theorem dX13_saferThree_42 : decode cX13_saferThree 42 = .ok (.aload_n 0, 1) := by decide +kernel
theorem dX13_saferThree_43 : decode cX13_saferThree 43 = .ok (.getfield 28, 3) := by decide +kernel
theorem dX13_saferThree_46 : decode cX13_saferThree 46 = .ok (.iload_n 2, 1) := by decide +kernel
theorem dX13_saferThree_47 : decode cX13_saferThree 47 = .ok (.iaload, 1) := by decide +kernel
theorem dX13_saferThree_48 : decode cX13_saferThree 48 = .ok (.aload_n 0, 1) := by decide +kernel
theorem dX13_saferThree_49 : decode cX13_saferThree 49 = .ok (.getfield 28, 3) := by decide +kernel
theorem dX13_saferThree_52 : decode cX13_saferThree 52 = .ok (.iload_n 3, 1) := by decide +kernel
theorem dX13_saferThree_53 : decode cX13_saferThree 53 = .ok (.iaload, 1) := by decide +kernel
theorem dX13_saferThree_54 : decode cX13_saferThree 54 = .ok (.if_icmp .eq 18, 3) := by decide +kernel
theorem dX13_saferThree_57 : decode cX13_saferThree 57 = .ok (.aload_n 0, 1) := by decide +kernel
theorem dX13_saferThree_58 : decode cX13_saferThree 58 = .ok (.getfield 28, 3) := by decide +kernel
theorem dX13_saferThree_61 : decode cX13_saferThree 61 = .ok (.iload_n 1, 1) := by decide +kernel
theorem dX13_saferThree_62 : decode cX13_saferThree 62 = .ok (.iaload, 1) := by decide +kernel
theorem dX13_saferThree_63 : decode cX13_saferThree 63 = .ok (.aload_n 0, 1) := by decide +kernel
theorem dX13_saferThree_64 : decode cX13_saferThree 64 = .ok (.getfield 28, 3) := by decide +kernel
theorem dX13_saferThree_67 : decode cX13_saferThree 67 = .ok (.iload_n 3, 1) := by decide +kernel
theorem dX13_saferThree_68 : decode cX13_saferThree 68 = .ok (.iaload, 1) := by decide +kernel
theorem dX13_saferThree_69 : decode cX13_saferThree 69 = .ok (.if_icmp .ne 5, 3) := by decide +kernel
theorem dX13_saferThree_72 : decode cX13_saferThree 72 = .ok (.iconst 0, 1) := by decide +kernel
theorem dX13_saferThree_73 : decode cX13_saferThree 73 = .ok (.ireturn, 1) := by decide +kernel
theorem dX13_saferThree_74 : decode cX13_saferThree 74 = .ok (.aload_n 0, 1) := by decide +kernel
theorem dX13_saferThree_75 : decode cX13_saferThree 75 = .ok (.getfield 25, 3) := by decide +kernel
theorem dX13_saferThree_78 : decode cX13_saferThree 78 = .ok (.iload_n 1, 1) := by decide +kernel
theorem dX13_saferThree_79 : decode cX13_saferThree 79 = .ok (.iaload, 1) := by decide +kernel
theorem dX13_saferThree_80 : decode cX13_saferThree 80 = .ok (.aload_n 0, 1) := by decide +kernel
theorem dX13_saferThree_81 : decode cX13_saferThree 81 = .ok (.getfield 28, 3) := by decide +kernel
theorem dX13_saferThree_84 : decode cX13_saferThree 84 = .ok (.iload_n 2, 1) := by decide +kernel
theorem dX13_saferThree_85 : decode cX13_saferThree 85 = .ok (.iaload, 1) := by decide +kernel
theorem dX13_saferThree_86 : decode cX13_saferThree 86 = .ok (.if_icmp .eq 33, 3) := by decide +kernel
theorem dX13_saferThree_89 : decode cX13_saferThree 89 = .ok (.aload_n 0, 1) := by decide +kernel
theorem dX13_saferThree_90 : decode cX13_saferThree 90 = .ok (.getfield 25, 3) := by decide +kernel
theorem dX13_saferThree_93 : decode cX13_saferThree 93 = .ok (.iload_n 2, 1) := by decide +kernel
theorem dX13_saferThree_94 : decode cX13_saferThree 94 = .ok (.iaload, 1) := by decide +kernel
theorem dX13_saferThree_95 : decode cX13_saferThree 95 = .ok (.aload_n 0, 1) := by decide +kernel
theorem dX13_saferThree_96 : decode cX13_saferThree 96 = .ok (.getfield 28, 3) := by decide +kernel
theorem dX13_saferThree_99 : decode cX13_saferThree 99 = .ok (.iload_n 3, 1) := by decide +kernel
theorem dX13_saferThree_100 : decode cX13_saferThree 100 = .ok (.iaload, 1) := by decide +kernel
theorem dX13_saferThree_101 : decode cX13_saferThree 101 = .ok (.if_icmp .eq 18, 3) := by decide +kernel
theorem dX13_saferThree_104 : decode cX13_saferThree 104 = .ok (.aload_n 0, 1) := by decide +kernel
theorem dX13_saferThree_105 : decode cX13_saferThree 105 = .ok (.getfield 25, 3) := by decide +kernel
theorem dX13_saferThree_108 : decode cX13_saferThree 108 = .ok (.iload_n 3, 1) := by decide +kernel
theorem dX13_saferThree_109 : decode cX13_saferThree 109 = .ok (.iaload, 1) := by decide +kernel
theorem dX13_saferThree_110 : decode cX13_saferThree 110 = .ok (.aload_n 0, 1) := by decide +kernel
theorem dX13_saferThree_111 : decode cX13_saferThree 111 = .ok (.getfield 28, 3) := by decide +kernel
theorem dX13_saferThree_114 : decode cX13_saferThree 114 = .ok (.iload_n 1, 1) := by decide +kernel
theorem dX13_saferThree_115 : decode cX13_saferThree 115 = .ok (.iaload, 1) := by decide +kernel
theorem dX13_saferThree_116 : decode cX13_saferThree 116 = .ok (.if_icmp .ne 5, 3) := by decide +kernel
theorem dX13_saferThree_119 : decode cX13_saferThree 119 = .ok (.iconst 0, 1) := by decide +kernel
theorem dX13_saferThree_120 : decode cX13_saferThree 120 = .ok (.ireturn, 1) := by decide +kernel
theorem dX13_saferThree_121 : decode cX13_saferThree 121 = .ok (.aload_n 0, 1) := by decide +kernel
theorem dX13_saferThree_122 : decode cX13_saferThree 122 = .ok (.getfield 28, 3) := by decide +kernel
theorem dX13_saferThree_125 : decode cX13_saferThree 125 = .ok (.iload_n 1, 1) := by decide +kernel
theorem dX13_saferThree_126 : decode cX13_saferThree 126 = .ok (.aload_n 0, 1) := by decide +kernel
theorem dX13_saferThree_127 : decode cX13_saferThree 127 = .ok (.getfield 92, 3) := by decide +kernel
theorem dX13_saferThree_130 : decode cX13_saferThree 130 = .ok (.iload_n 2, 1) := by decide +kernel
theorem dX13_saferThree_131 : decode cX13_saferThree 131 = .ok (.iaload, 1) := by decide +kernel
theorem dX13_saferThree_132 : decode cX13_saferThree 132 = .ok (.iastore, 1) := by decide +kernel
theorem dX13_saferThree_133 : decode cX13_saferThree 133 = .ok (.aload_n 0, 1) := by decide +kernel
theorem dX13_saferThree_134 : decode cX13_saferThree 134 = .ok (.getfield 28, 3) := by decide +kernel
theorem dX13_saferThree_137 : decode cX13_saferThree 137 = .ok (.iload_n 2, 1) := by decide +kernel
theorem dX13_saferThree_138 : decode cX13_saferThree 138 = .ok (.aload_n 0, 1) := by decide +kernel
theorem dX13_saferThree_139 : decode cX13_saferThree 139 = .ok (.getfield 92, 3) := by decide +kernel
theorem dX13_saferThree_142 : decode cX13_saferThree 142 = .ok (.iload_n 3, 1) := by decide +kernel
theorem dX13_saferThree_143 : decode cX13_saferThree 143 = .ok (.iaload, 1) := by decide +kernel
theorem dX13_saferThree_144 : decode cX13_saferThree 144 = .ok (.iastore, 1) := by decide +kernel
theorem dX13_saferThree_145 : decode cX13_saferThree 145 = .ok (.aload_n 0, 1) := by decide +kernel
theorem dX13_saferThree_146 : decode cX13_saferThree 146 = .ok (.getfield 28, 3) := by decide +kernel
theorem dX13_saferThree_149 : decode cX13_saferThree 149 = .ok (.iload_n 3, 1) := by decide +kernel
theorem dX13_saferThree_150 : decode cX13_saferThree 150 = .ok (.aload_n 0, 1) := by decide +kernel
theorem dX13_saferThree_151 : decode cX13_saferThree 151 = .ok (.getfield 92, 3) := by decide +kernel
theorem dX13_saferThree_154 : decode cX13_saferThree 154 = .ok (.iload_n 1, 1) := by decide +kernel
theorem dX13_saferThree_155 : decode cX13_saferThree 155 = .ok (.iaload, 1) := by decide +kernel
theorem dX13_saferThree_156 : decode cX13_saferThree 156 = .ok (.iastore, 1) := by decide +kernel
theorem dX13_saferThree_157 : decode cX13_saferThree 157 = .ok (.aload_n 0, 1) := by decide +kernel
theorem dX13_saferThree_158 : decode cX13_saferThree 158 = .ok (.aload_n 0, 1) := by decide +kernel
theorem dX13_saferThree_159 : decode cX13_saferThree 159 = .ok (.getfield 92, 3) := by decide +kernel
theorem dX13_saferThree_162 : decode cX13_saferThree 162 = .ok (.iload_n 1, 1) := by decide +kernel
theorem dX13_saferThree_163 : decode cX13_saferThree 163 = .ok (.iaload, 1) := by decide +kernel
theorem dX13_saferThree_164 : decode cX13_saferThree 164 = .ok (.iload 4, 2) := by decide +kernel
theorem dX13_saferThree_166 : decode cX13_saferThree 166 = .ok (.iload 5, 2) := by decide +kernel
theorem dX13_saferThree_168 : decode cX13_saferThree 168 = .ok (.invokevirtual 347, 3) := by decide +kernel
theorem dX13_saferThree_171 : decode cX13_saferThree 171 = .ok (.ifCond .eq 41, 3) := by decide +kernel
theorem dX13_saferThree_174 : decode cX13_saferThree 174 = .ok (.aload_n 0, 1) := by decide +kernel
theorem dX13_saferThree_175 : decode cX13_saferThree 175 = .ok (.aload_n 0, 1) := by decide +kernel
theorem dX13_saferThree_176 : decode cX13_saferThree 176 = .ok (.getfield 92, 3) := by decide +kernel
theorem dX13_saferThree_179 : decode cX13_saferThree 179 = .ok (.iload_n 2, 1) := by decide +kernel
theorem dX13_saferThree_180 : decode cX13_saferThree 180 = .ok (.iaload, 1) := by decide +kernel
theorem dX13_saferThree_181 : decode cX13_saferThree 181 = .ok (.iload 4, 2) := by decide +kernel
theorem dX13_saferThree_183 : decode cX13_saferThree 183 = .ok (.iload 5, 2) := by decide +kernel
theorem dX13_saferThree_185 : decode cX13_saferThree 185 = .ok (.invokevirtual 347, 3) := by decide +kernel
theorem dX13_saferThree_188 : decode cX13_saferThree 188 = .ok (.ifCond .eq 24, 3) := by decide +kernel
theorem dX13_saferThree_191 : decode cX13_saferThree 191 = .ok (.aload_n 0, 1) := by decide +kernel
theorem dX13_saferThree_192 : decode cX13_saferThree 192 = .ok (.aload_n 0, 1) := by decide +kernel
theorem dX13_saferThree_193 : decode cX13_saferThree 193 = .ok (.getfield 92, 3) := by decide +kernel
theorem dX13_saferThree_196 : decode cX13_saferThree 196 = .ok (.iload_n 3, 1) := by decide +kernel
theorem dX13_saferThree_197 : decode cX13_saferThree 197 = .ok (.iaload, 1) := by decide +kernel
theorem dX13_saferThree_198 : decode cX13_saferThree 198 = .ok (.iload 4, 2) := by decide +kernel
theorem dX13_saferThree_200 : decode cX13_saferThree 200 = .ok (.iload 5, 2) := by decide +kernel
theorem dX13_saferThree_202 : decode cX13_saferThree 202 = .ok (.invokevirtual 347, 3) := by decide +kernel
theorem dX13_saferThree_205 : decode cX13_saferThree 205 = .ok (.ifCond .eq 7, 3) := by decide +kernel
theorem dX13_saferThree_208 : decode cX13_saferThree 208 = .ok (.iconst 1, 1) := by decide +kernel
theorem dX13_saferThree_209 : decode cX13_saferThree 209 = .ok (.goto 4, 3) := by decide +kernel
theorem dX13_saferThree_212 : decode cX13_saferThree 212 = .ok (.iconst 0, 1) := by decide +kernel
theorem dX13_saferThree_213 : decode cX13_saferThree 213 = .ok (.istore 6, 2) := by decide +kernel
theorem dX13_saferThree_215 : decode cX13_saferThree 215 = .ok (.aload_n 0, 1) := by decide +kernel
theorem dX13_saferThree_216 : decode cX13_saferThree 216 = .ok (.getfield 28, 3) := by decide +kernel
theorem dX13_saferThree_219 : decode cX13_saferThree 219 = .ok (.iload_n 1, 1) := by decide +kernel
theorem dX13_saferThree_220 : decode cX13_saferThree 220 = .ok (.aload_n 0, 1) := by decide +kernel
theorem dX13_saferThree_221 : decode cX13_saferThree 221 = .ok (.getfield 92, 3) := by decide +kernel
theorem dX13_saferThree_224 : decode cX13_saferThree 224 = .ok (.iload_n 1, 1) := by decide +kernel
theorem dX13_saferThree_225 : decode cX13_saferThree 225 = .ok (.iaload, 1) := by decide +kernel
theorem dX13_saferThree_226 : decode cX13_saferThree 226 = .ok (.iastore, 1) := by decide +kernel
theorem dX13_saferThree_227 : decode cX13_saferThree 227 = .ok (.aload_n 0, 1) := by decide +kernel
theorem dX13_saferThree_228 : decode cX13_saferThree 228 = .ok (.getfield 28, 3) := by decide +kernel
theorem dX13_saferThree_231 : decode cX13_saferThree 231 = .ok (.iload_n 2, 1) := by decide +kernel
theorem dX13_saferThree_232 : decode cX13_saferThree 232 = .ok (.aload_n 0, 1) := by decide +kernel
theorem dX13_saferThree_233 : decode cX13_saferThree 233 = .ok (.getfield 92, 3) := by decide +kernel
theorem dX13_saferThree_236 : decode cX13_saferThree 236 = .ok (.iload_n 2, 1) := by decide +kernel
theorem dX13_saferThree_237 : decode cX13_saferThree 237 = .ok (.iaload, 1) := by decide +kernel
theorem dX13_saferThree_238 : decode cX13_saferThree 238 = .ok (.iastore, 1) := by decide +kernel
theorem dX13_saferThree_239 : decode cX13_saferThree 239 = .ok (.aload_n 0, 1) := by decide +kernel
theorem dX13_saferThree_240 : decode cX13_saferThree 240 = .ok (.getfield 28, 3) := by decide +kernel
theorem dX13_saferThree_243 : decode cX13_saferThree 243 = .ok (.iload_n 3, 1) := by decide +kernel
theorem dX13_saferThree_244 : decode cX13_saferThree 244 = .ok (.aload_n 0, 1) := by decide +kernel
theorem dX13_saferThree_245 : decode cX13_saferThree 245 = .ok (.getfield 92, 3) := by decide +kernel
theorem dX13_saferThree_248 : decode cX13_saferThree 248 = .ok (.iload_n 3, 1) := by decide +kernel
theorem dX13_saferThree_249 : decode cX13_saferThree 249 = .ok (.iaload, 1) := by decide +kernel
theorem dX13_saferThree_250 : decode cX13_saferThree 250 = .ok (.iastore, 1) := by decide +kernel
theorem dX13_saferThree_251 : decode cX13_saferThree 251 = .ok (.iload 6, 2) := by decide +kernel
theorem dX13_saferThree_253 : decode cX13_saferThree 253 = .ok (.ireturn, 1) := by decide +kernel
theorem dX13_safer_0 : decode cX13_safer 0 = .ok (.aload_n 0, 1) := by decide +kernel
theorem dX13_safer_1 : decode cX13_safer 1 = .ok (.iconst 0, 1) := by decide +kernel
theorem dX13_safer_2 : decode cX13_safer 2 = .ok (.putfield 135, 3) := by decide +kernel
theorem dX13_safer_5 : decode cX13_safer 5 = .ok (.aload_n 0, 1) := by decide +kernel
theorem dX13_safer_6 : decode cX13_safer 6 = .ok (.iload_n 3, 1) := by decide +kernel
theorem dX13_safer_7 : decode cX13_safer 7 = .ok (.iconst 0, 1) := by decide +kernel
theorem dX13_safer_8 : decode cX13_safer 8 = .ok (.iconst 3, 1) := by decide +kernel
theorem dX13_safer_9 : decode cX13_safer 9 = .ok (.invokestatic 290, 3) := by decide +kernel
theorem dX13_safer_12 : decode cX13_safer 12 = .ok (.iconst 1, 1) := by decide +kernel
theorem dX13_safer_13 : decode cX13_safer 13 = .ok (.invokevirtual 235, 3) := by decide +kernel
theorem dX13_safer_16 : decode cX13_safer 16 = .ok (.ifCond .eq 13, 3) := by decide +kernel
theorem dX13_safer_19 : decode cX13_safer 19 = .ok (.aload_n 0, 1) := by decide +kernel
theorem dX13_safer_20 : decode cX13_safer 20 = .ok (.iload_n 1, 1) := by decide +kernel
theorem dX13_safer_21 : decode cX13_safer 21 = .ok (.iload_n 2, 1) := by decide +kernel
theorem dX13_safer_22 : decode cX13_safer 22 = .ok (.iconst 2, 1) := by decide +kernel
theorem dX13_safer_23 : decode cX13_safer 23 = .ok (.invokevirtual 324, 3) := by decide +kernel
theorem dX13_safer_26 : decode cX13_safer 26 = .ok (.ifCond .ne 5, 3) := by decide +kernel
theorem dX13_safer_29 : decode cX13_safer 29 = .ok (.iconst 0, 1) := by decide +kernel
theorem dX13_safer_30 : decode cX13_safer 30 = .ok (.ireturn, 1) := by decide +kernel
theorem dX13_safer_31 : decode cX13_safer 31 = .ok (.aload_n 0, 1) := by decide +kernel
theorem dX13_safer_32 : decode cX13_safer 32 = .ok (.invokevirtual 306, 3) := by decide +kernel
theorem dX13_safer_35 : decode cX13_safer 35 = .ok (.iconst 0, 1) := by decide +kernel
theorem dX13_safer_36 : decode cX13_safer 36 = .ok (.istore 4, 2) := by decide +kernel
theorem dX13_safer_38 : decode cX13_safer 38 = .ok (.iload 4, 2) := by decide +kernel
theorem dX13_safer_40 : decode cX13_safer 40 = .ok (.aload_n 0, 1) := by decide +kernel
theorem dX13_safer_41 : decode cX13_safer 41 = .ok (.getfield 245, 3) := by decide +kernel
theorem dX13_safer_44 : decode cX13_safer 44 = .ok (.if_icmp .ge 24, 3) := by decide +kernel
theorem dX13_safer_47 : decode cX13_safer 47 = .ok (.aload_n 0, 1) := by decide +kernel
theorem dX13_safer_48 : decode cX13_safer 48 = .ok (.getfield 89, 3) := by decide +kernel
theorem dX13_safer_51 : decode cX13_safer 51 = .ok (.iload 4, 2) := by decide +kernel
theorem dX13_safer_53 : decode cX13_safer 53 = .ok (.aload_n 0, 1) := by decide +kernel
theorem dX13_safer_54 : decode cX13_safer 54 = .ok (.iload 4, 2) := by decide +kernel
theorem dX13_safer_56 : decode cX13_safer 56 = .ok (.iload_n 1, 1) := by decide +kernel
theorem dX13_safer_57 : decode cX13_safer 57 = .ok (.iload_n 2, 1) := by decide +kernel
theorem dX13_safer_58 : decode cX13_safer 58 = .ok (.invokevirtual 327, 3) := by decide +kernel
theorem dX13_safer_61 : decode cX13_safer 61 = .ok (.iastore, 1) := by decide +kernel
theorem dX13_safer_62 : decode cX13_safer 62 = .ok (.iinc 4 1, 3) := by decide +kernel
theorem dX13_safer_65 : decode cX13_safer 65 = .ok (.goto (-27), 3) := by decide +kernel
theorem dX13_safer_68 : decode cX13_safer 68 = .ok (.aload_n 0, 1) := by decide +kernel
theorem dX13_safer_69 : decode cX13_safer 69 = .ok (.aload_n 0, 1) := by decide +kernel
theorem dX13_safer_70 : decode cX13_safer 70 = .ok (.getfield 28, 3) := by decide +kernel
theorem dX13_safer_73 : decode cX13_safer 73 = .ok (.aload_n 0, 1) := by decide +kernel
theorem dX13_safer_74 : decode cX13_safer 74 = .ok (.getfield 92, 3) := by decide +kernel
theorem dX13_safer_77 : decode cX13_safer 77 = .ok (.invokevirtual 254, 3) := by decide +kernel
theorem dX13_safer_80 : decode cX13_safer 80 = .ok (.iconst 0, 1) := by decide +kernel
theorem dX13_safer_81 : decode cX13_safer 81 = .ok (.istore 4, 2) := by decide +kernel
theorem dX13_safer_83 : decode cX13_safer 83 = .ok (.iconst (-1), 1) := by decide +kernel
theorem dX13_safer_84 : decode cX13_safer 84 = .ok (.istore 5, 2) := by decide +kernel
theorem dX13_safer_86 : decode cX13_safer 86 = .ok (.iconst 0, 1) := by decide +kernel
theorem dX13_safer_87 : decode cX13_safer 87 = .ok (.istore 6, 2) := by decide +kernel
theorem dX13_safer_89 : decode cX13_safer 89 = .ok (.iload 6, 2) := by decide +kernel
theorem dX13_safer_91 : decode cX13_safer 91 = .ok (.bipush 10, 2) := by decide +kernel
theorem dX13_safer_93 : decode cX13_safer 93 = .ok (.if_icmp .ge 176, 3) := by decide +kernel
theorem dX13_safer_96 : decode cX13_safer 96 = .ok (.iconst 0, 1) := by decide +kernel
theorem dX13_safer_97 : decode cX13_safer 97 = .ok (.istore 7, 2) := by decide +kernel
theorem dX13_safer_99 : decode cX13_safer 99 = .ok (.iload 7, 2) := by decide +kernel
theorem dX13_safer_101 : decode cX13_safer 101 = .ok (.bipush 10, 2) := by decide +kernel
theorem dX13_safer_103 : decode cX13_safer 103 = .ok (.if_icmp .ge 160, 3) := by decide +kernel
theorem dX13_safer_106 : decode cX13_safer 106 = .ok (.iconst 0, 1) := by decide +kernel
theorem dX13_safer_107 : decode cX13_safer 107 = .ok (.istore 8, 2) := by decide +kernel
theorem dX13_safer_109 : decode cX13_safer 109 = .ok (.iload 8, 2) := by decide +kernel
theorem dX13_safer_111 : decode cX13_safer 111 = .ok (.iload_n 3, 1) := by decide +kernel
theorem dX13_safer_112 : decode cX13_safer 112 = .ok (.iconst 2, 1) := by decide +kernel
theorem dX13_safer_113 : decode cX13_safer 113 = .ok (.if_icmp .ge 7, 3) := by decide +kernel
theorem dX13_safer_116 : decode cX13_safer 116 = .ok (.iconst 1, 1) := by decide +kernel
theorem dX13_safer_117 : decode cX13_safer 117 = .ok (.goto 5, 3) := by decide +kernel
theorem dX13_safer_120 : decode cX13_safer 120 = .ok (.bipush 10, 2) := by decide +kernel
theorem dX13_safer_122 : decode cX13_safer 122 = .ok (.if_icmp .ge 135, 3) := by decide +kernel
theorem dX13_safer_125 : decode cX13_safer 125 = .ok (.iload_n 3, 1) := by decide +kernel
theorem dX13_safer_126 : decode cX13_safer 126 = .ok (.iconst 2, 1) := by decide +kernel
theorem dX13_safer_127 : decode cX13_safer 127 = .ok (.if_icmp .ge 31, 3) := by decide +kernel
theorem dX13_safer_130 : decode cX13_safer 130 = .ok (.iload 6, 2) := by decide +kernel
theorem dX13_safer_132 : decode cX13_safer 132 = .ok (.iload 7, 2) := by decide +kernel
theorem dX13_safer_134 : decode cX13_safer 134 = .ok (.if_icmp .ge 20, 3) := by decide +kernel
theorem dX13_safer_137 : decode cX13_safer 137 = .ok (.aload_n 0, 1) := by decide +kernel
theorem dX13_safer_138 : decode cX13_safer 138 = .ok (.iload 6, 2) := by decide +kernel
theorem dX13_safer_140 : decode cX13_safer 140 = .ok (.iload 7, 2) := by decide +kernel
theorem dX13_safer_142 : decode cX13_safer 142 = .ok (.iload_n 1, 1) := by decide +kernel
theorem dX13_safer_143 : decode cX13_safer 143 = .ok (.iload_n 2, 1) := by decide +kernel
theorem dX13_safer_144 : decode cX13_safer 144 = .ok (.invokevirtual 350, 3) := by decide +kernel
theorem dX13_safer_147 : decode cX13_safer 147 = .ok (.ifCond .eq 7, 3) := by decide +kernel
theorem dX13_safer_150 : decode cX13_safer 150 = .ok (.iconst 1, 1) := by decide +kernel
theorem dX13_safer_151 : decode cX13_safer 151 = .ok (.goto 48, 3) := by decide +kernel
theorem dX13_safer_154 : decode cX13_safer 154 = .ok (.iconst 0, 1) := by decide +kernel
theorem dX13_safer_155 : decode cX13_safer 155 = .ok (.goto 44, 3) := by decide +kernel
theorem dX13_safer_158 : decode cX13_safer 158 = .ok (.iload 6, 2) := by decide +kernel
theorem dX13_safer_160 : decode cX13_safer 160 = .ok (.iload 7, 2) := by decide +kernel
theorem dX13_safer_162 : decode cX13_safer 162 = .ok (.if_icmp .ge 36, 3) := by decide +kernel
theorem dX13_safer_165 : decode cX13_safer 165 = .ok (.iload 6, 2) := by decide +kernel
theorem dX13_safer_167 : decode cX13_safer 167 = .ok (.iload 8, 2) := by decide +kernel
theorem dX13_safer_169 : decode cX13_safer 169 = .ok (.if_icmp .ge 29, 3) := by decide +kernel
theorem dX13_safer_172 : decode cX13_safer 172 = .ok (.iload 7, 2) := by decide +kernel
theorem dX13_safer_174 : decode cX13_safer 174 = .ok (.iload 8, 2) := by decide +kernel
theorem dX13_safer_176 : decode cX13_safer 176 = .ok (.if_icmp .eq 22, 3) := by decide +kernel
theorem dX13_safer_179 : decode cX13_safer 179 = .ok (.aload_n 0, 1) := by decide +kernel
theorem dX13_safer_180 : decode cX13_safer 180 = .ok (.iload 6, 2) := by decide +kernel
theorem dX13_safer_182 : decode cX13_safer 182 = .ok (.iload 7, 2) := by decide +kernel
theorem dX13_safer_184 : decode cX13_safer 184 = .ok (.iload 8, 2) := by decide +kernel
theorem dX13_safer_186 : decode cX13_safer 186 = .ok (.iload_n 1, 1) := by decide +kernel
theorem dX13_safer_187 : decode cX13_safer 187 = .ok (.iload_n 2, 1) := by decide +kernel
theorem dX13_safer_188 : decode cX13_safer 188 = .ok (.invokevirtual 354, 3) := by decide +kernel
theorem dX13_safer_191 : decode cX13_safer 191 = .ok (.ifCond .eq 7, 3) := by decide +kernel
theorem dX13_safer_194 : decode cX13_safer 194 = .ok (.iconst 1, 1) := by decide +kernel
theorem dX13_safer_195 : decode cX13_safer 195 = .ok (.goto 4, 3) := by decide +kernel
theorem dX13_safer_198 : decode cX13_safer 198 = .ok (.iconst 0, 1) := by decide +kernel
theorem dX13_safer_199 : decode cX13_safer 199 = .ok (.istore 9, 2) := by decide +kernel
theorem dX13_safer_201 : decode cX13_safer 201 = .ok (.iload 9, 2) := by decide +kernel
theorem dX13_safer_203 : decode cX13_safer 203 = .ok (.ifCond .ne 6, 3) := by decide +kernel
theorem dX13_safer_206 : decode cX13_safer 206 = .ok (.goto 45, 3) := by decide +kernel
theorem dX13_safer_209 : decode cX13_safer 209 = .ok (.iinc 4 1, 3) := by decide +kernel
theorem dX13_safer_212 : decode cX13_safer 212 = .ok (.iload 5, 2) := by decide +kernel
theorem dX13_safer_214 : decode cX13_safer 214 = .ok (.iconst (-1), 1) := by decide +kernel
theorem dX13_safer_215 : decode cX13_safer 215 = .ok (.if_icmp .ne 36, 3) := by decide +kernel
theorem dX13_safer_218 : decode cX13_safer 218 = .ok (.iload_n 3, 1) := by decide +kernel
theorem dX13_safer_219 : decode cX13_safer 219 = .ok (.iconst 2, 1) := by decide +kernel
theorem dX13_safer_220 : decode cX13_safer 220 = .ok (.if_icmp .ge 14, 3) := by decide +kernel
theorem dX13_safer_223 : decode cX13_safer 223 = .ok (.bipush 16, 2) := by decide +kernel
theorem dX13_safer_225 : decode cX13_safer 225 = .ok (.iload 6, 2) := by decide +kernel
theorem dX13_safer_227 : decode cX13_safer 227 = .ok (.imul, 1) := by decide +kernel
theorem dX13_safer_228 : decode cX13_safer 228 = .ok (.iload 7, 2) := by decide +kernel
theorem dX13_safer_230 : decode cX13_safer 230 = .ok (.iadd, 1) := by decide +kernel
theorem dX13_safer_231 : decode cX13_safer 231 = .ok (.goto 18, 3) := by decide +kernel
theorem dX13_safer_234 : decode cX13_safer 234 = .ok (.sipush 256, 3) := by decide +kernel
theorem dX13_safer_237 : decode cX13_safer 237 = .ok (.iload 6, 2) := by decide +kernel
theorem dX13_safer_239 : decode cX13_safer 239 = .ok (.imul, 1) := by decide +kernel
theorem dX13_safer_240 : decode cX13_safer 240 = .ok (.bipush 16, 2) := by decide +kernel
theorem dX13_safer_242 : decode cX13_safer 242 = .ok (.iload 7, 2) := by decide +kernel
theorem dX13_safer_244 : decode cX13_safer 244 = .ok (.imul, 1) := by decide +kernel
theorem dX13_safer_245 : decode cX13_safer 245 = .ok (.iadd, 1) := by decide +kernel
theorem dX13_safer_246 : decode cX13_safer 246 = .ok (.iload 8, 2) := by decide +kernel
theorem dX13_safer_248 : decode cX13_safer 248 = .ok (.iadd, 1) := by decide +kernel
theorem dX13_safer_249 : decode cX13_safer 249 = .ok (.istore 5, 2) := by decide +kernel
theorem dX13_safer_251 : decode cX13_safer 251 = .ok (.iinc 8 1, 3) := by decide +kernel
theorem dX13_safer_254 : decode cX13_safer 254 = .ok (.goto (-145), 3) := by decide +kernel
theorem dX13_safer_257 : decode cX13_safer 257 = .ok (.iinc 7 1, 3) := by decide +kernel
theorem dX13_safer_260 : decode cX13_safer 260 = .ok (.goto (-161), 3) := by decide +kernel
theorem dX13_safer_263 : decode cX13_safer 263 = .ok (.iinc 6 1, 3) := by decide +kernel
theorem dX13_safer_266 : decode cX13_safer 266 = .ok (.goto (-177), 3) := by decide +kernel
theorem dX13_safer_269 : decode cX13_safer 269 = .ok (.iload_n 3, 1) := by decide +kernel
theorem dX13_safer_270 : decode cX13_safer 270 = .ok (.iconst 2, 1) := by decide +kernel
theorem dX13_safer_271 : decode cX13_safer 271 = .ok (.irem, 1) := by decide +kernel
theorem dX13_safer_272 : decode cX13_safer 272 = .ok (.ifCond .ne 8, 3) := by decide +kernel
theorem dX13_safer_275 : decode cX13_safer 275 = .ok (.iload 4, 2) := by decide +kernel
theorem dX13_safer_277 : decode cX13_safer 277 = .ok (.goto 5, 3) := by decide +kernel
theorem dX13_safer_280 : decode cX13_safer 280 = .ok (.iload 5, 2) := by decide +kernel
theorem dX13_safer_282 : decode cX13_safer 282 = .ok (.ireturn, 1) := by decide +kernel
theorem dX13_receipt_0 : decode cX13_receipt 0 = .ok (.aload_n 0, 1) := by decide +kernel
theorem dX13_receipt_1 : decode cX13_receipt 1 = .ok (.iconst 0, 1) := by decide +kernel
theorem dX13_receipt_2 : decode cX13_receipt 2 = .ok (.putfield 135, 3) := by decide +kernel
theorem dX13_receipt_5 : decode cX13_receipt 5 = .ok (.aload_n 0, 1) := by decide +kernel
theorem dX13_receipt_6 : decode cX13_receipt 6 = .ok (.getfield 261, 3) := by decide +kernel
theorem dX13_receipt_9 : decode cX13_receipt 9 = .ok (.bipush 12, 2) := by decide +kernel
theorem dX13_receipt_11 : decode cX13_receipt 11 = .ok (.if_icmp .eq 36, 3) := by decide +kernel
theorem dX13_receipt_14 : decode cX13_receipt 14 = .ok (.iload_n 1, 1) := by decide +kernel
theorem dX13_receipt_15 : decode cX13_receipt 15 = .ok (.ifCond .lt 32, 3) := by decide +kernel
theorem dX13_receipt_18 : decode cX13_receipt 18 = .ok (.iload_n 1, 1) := by decide +kernel
theorem dX13_receipt_19 : decode cX13_receipt 19 = .ok (.sipush 1024, 3) := by decide +kernel
theorem dX13_receipt_22 : decode cX13_receipt 22 = .ok (.if_icmp .ge 25, 3) := by decide +kernel
theorem dX13_receipt_25 : decode cX13_receipt 25 = .ok (.iload_n 2, 1) := by decide +kernel
theorem dX13_receipt_26 : decode cX13_receipt 26 = .ok (.iconst 0, 1) := by decide +kernel
theorem dX13_receipt_27 : decode cX13_receipt 27 = .ok (.ldc_w 358, 3) := by decide +kernel
theorem dX13_receipt_30 : decode cX13_receipt 30 = .ok (.invokestatic 290, 3) := by decide +kernel
theorem dX13_receipt_33 : decode cX13_receipt 33 = .ok (.ifCond .eq 14, 3) := by decide +kernel
theorem dX13_receipt_36 : decode cX13_receipt 36 = .ok (.iload_n 3, 1) := by decide +kernel
theorem dX13_receipt_37 : decode cX13_receipt 37 = .ok (.bipush (-20), 2) := by decide +kernel
theorem dX13_receipt_39 : decode cX13_receipt 39 = .ok (.bipush 20, 2) := by decide +kernel
theorem dX13_receipt_41 : decode cX13_receipt 41 = .ok (.invokestatic 290, 3) := by decide +kernel
theorem dX13_receipt_44 : decode cX13_receipt 44 = .ok (.ifCond .ne 15, 3) := by decide +kernel
theorem dX13_receipt_47 : decode cX13_receipt 47 = .ok (.aload_n 0, 1) := by decide +kernel
theorem dX13_receipt_48 : decode cX13_receipt 48 = .ok (.getfield 44, 3) := by decide +kernel
theorem dX13_receipt_51 : decode cX13_receipt 51 = .ok (.iconst 2, 1) := by decide +kernel
theorem dX13_receipt_52 : decode cX13_receipt 52 = .ok (.dup2, 1) := by decide +kernel
theorem dX13_receipt_53 : decode cX13_receipt 53 = .ok (.iaload, 1) := by decide +kernel
theorem dX13_receipt_54 : decode cX13_receipt 54 = .ok (.iconst 1, 1) := by decide +kernel
theorem dX13_receipt_55 : decode cX13_receipt 55 = .ok (.iadd, 1) := by decide +kernel
theorem dX13_receipt_56 : decode cX13_receipt 56 = .ok (.iastore, 1) := by decide +kernel
theorem dX13_receipt_57 : decode cX13_receipt 57 = .ok (.iconst (-1), 1) := by decide +kernel
theorem dX13_receipt_58 : decode cX13_receipt 58 = .ok (.ireturn, 1) := by decide +kernel
theorem dX13_receipt_59 : decode cX13_receipt 59 = .ok (.aload_n 0, 1) := by decide +kernel
theorem dX13_receipt_60 : decode cX13_receipt 60 = .ok (.getfield 95, 3) := by decide +kernel
theorem dX13_receipt_63 : decode cX13_receipt 63 = .ok (.iconst 3, 1) := by decide +kernel
theorem dX13_receipt_64 : decode cX13_receipt 64 = .ok (.aload_n 0, 1) := by decide +kernel
theorem dX13_receipt_65 : decode cX13_receipt 65 = .ok (.getfield 261, 3) := by decide +kernel
theorem dX13_receipt_68 : decode cX13_receipt 68 = .ok (.imul, 1) := by decide +kernel
theorem dX13_receipt_69 : decode cX13_receipt 69 = .ok (.iload_n 1, 1) := by decide +kernel
theorem dX13_receipt_70 : decode cX13_receipt 70 = .ok (.iastore, 1) := by decide +kernel
theorem dX13_receipt_71 : decode cX13_receipt 71 = .ok (.aload_n 0, 1) := by decide +kernel
theorem dX13_receipt_72 : decode cX13_receipt 72 = .ok (.getfield 95, 3) := by decide +kernel
theorem dX13_receipt_75 : decode cX13_receipt 75 = .ok (.iconst 3, 1) := by decide +kernel
theorem dX13_receipt_76 : decode cX13_receipt 76 = .ok (.aload_n 0, 1) := by decide +kernel
theorem dX13_receipt_77 : decode cX13_receipt 77 = .ok (.getfield 261, 3) := by decide +kernel
theorem dX13_receipt_80 : decode cX13_receipt 80 = .ok (.imul, 1) := by decide +kernel
theorem dX13_receipt_81 : decode cX13_receipt 81 = .ok (.iconst 1, 1) := by decide +kernel
theorem dX13_receipt_82 : decode cX13_receipt 82 = .ok (.iadd, 1) := by decide +kernel
theorem dX13_receipt_83 : decode cX13_receipt 83 = .ok (.iload_n 2, 1) := by decide +kernel
theorem dX13_receipt_84 : decode cX13_receipt 84 = .ok (.iastore, 1) := by decide +kernel
theorem dX13_receipt_85 : decode cX13_receipt 85 = .ok (.aload_n 0, 1) := by decide +kernel
theorem dX13_receipt_86 : decode cX13_receipt 86 = .ok (.getfield 95, 3) := by decide +kernel
theorem dX13_receipt_89 : decode cX13_receipt 89 = .ok (.iconst 3, 1) := by decide +kernel
theorem dX13_receipt_90 : decode cX13_receipt 90 = .ok (.aload_n 0, 1) := by decide +kernel
theorem dX13_receipt_91 : decode cX13_receipt 91 = .ok (.getfield 261, 3) := by decide +kernel
theorem dX13_receipt_94 : decode cX13_receipt 94 = .ok (.imul, 1) := by decide +kernel
theorem dX13_receipt_95 : decode cX13_receipt 95 = .ok (.iconst 2, 1) := by decide +kernel
theorem dX13_receipt_96 : decode cX13_receipt 96 = .ok (.iadd, 1) := by decide +kernel
theorem dX13_receipt_97 : decode cX13_receipt 97 = .ok (.iload_n 3, 1) := by decide +kernel
theorem dX13_receipt_98 : decode cX13_receipt 98 = .ok (.iastore, 1) := by decide +kernel
theorem dX13_receipt_99 : decode cX13_receipt 99 = .ok (.aload_n 0, 1) := by decide +kernel
theorem dX13_receipt_100 : decode cX13_receipt 100 = .ok (.dup, 1) := by decide +kernel
theorem dX13_receipt_101 : decode cX13_receipt 101 = .ok (.getfield 261, 3) := by decide +kernel
theorem dX13_receipt_104 : decode cX13_receipt 104 = .ok (.iconst 1, 1) := by decide +kernel
theorem dX13_receipt_105 : decode cX13_receipt 105 = .ok (.iadd, 1) := by decide +kernel
theorem dX13_receipt_106 : decode cX13_receipt 106 = .ok (.putfield 261, 3) := by decide +kernel
theorem dX13_receipt_109 : decode cX13_receipt 109 = .ok (.aload_n 0, 1) := by decide +kernel
theorem dX13_receipt_110 : decode cX13_receipt 110 = .ok (.getfield 261, 3) := by decide +kernel
theorem dX13_receipt_113 : decode cX13_receipt 113 = .ok (.ireturn, 1) := by decide +kernel
theorem dX13_lose_0 : decode cX13_lose 0 = .ok (.aload_n 0, 1) := by decide +kernel
theorem dX13_lose_1 : decode cX13_lose 1 = .ok (.iconst 0, 1) := by decide +kernel
theorem dX13_lose_2 : decode cX13_lose 2 = .ok (.putfield 135, 3) := by decide +kernel
theorem dX13_lose_5 : decode cX13_lose 5 = .ok (.aload_n 0, 1) := by decide +kernel
theorem dX13_lose_6 : decode cX13_lose 6 = .ok (.getfield 261, 3) := by decide +kernel
theorem dX13_lose_9 : decode cX13_lose 9 = .ok (.ifCond .ne 5, 3) := by decide +kernel
theorem dX13_lose_12 : decode cX13_lose 12 = .ok (.iconst (-1), 1) := by decide +kernel
theorem dX13_lose_13 : decode cX13_lose 13 = .ok (.ireturn, 1) := by decide +kernel
theorem dX13_lose_14 : decode cX13_lose 14 = .ok (.aload_n 0, 1) := by decide +kernel
theorem dX13_lose_15 : decode cX13_lose 15 = .ok (.dup, 1) := by decide +kernel
theorem dX13_lose_16 : decode cX13_lose 16 = .ok (.getfield 261, 3) := by decide +kernel
theorem dX13_lose_19 : decode cX13_lose 19 = .ok (.iconst 1, 1) := by decide +kernel
theorem dX13_lose_20 : decode cX13_lose 20 = .ok (.isub, 1) := by decide +kernel
theorem dX13_lose_21 : decode cX13_lose 21 = .ok (.putfield 261, 3) := by decide +kernel
theorem dX13_lose_24 : decode cX13_lose 24 = .ok (.aload_n 0, 1) := by decide +kernel
theorem dX13_lose_25 : decode cX13_lose 25 = .ok (.getfield 261, 3) := by decide +kernel
theorem dX13_lose_28 : decode cX13_lose 28 = .ok (.ireturn, 1) := by decide +kernel
theorem dX13_isChalked_0 : decode cX13_isChalked 0 = .ok (.iconst 0, 1) := by decide +kernel
theorem dX13_isChalked_1 : decode cX13_isChalked 1 = .ok (.istore_n 2, 1) := by decide +kernel
theorem dX13_isChalked_2 : decode cX13_isChalked 2 = .ok (.iload_n 2, 1) := by decide +kernel
theorem dX13_isChalked_3 : decode cX13_isChalked 3 = .ok (.aload_n 0, 1) := by decide +kernel
theorem dX13_isChalked_4 : decode cX13_isChalked 4 = .ok (.getfield 261, 3) := by decide +kernel
theorem dX13_isChalked_7 : decode cX13_isChalked 7 = .ok (.if_icmp .ge 107, 3) := by decide +kernel
theorem dX13_isChalked_10 : decode cX13_isChalked 10 = .ok (.iload_n 1, 1) := by decide +kernel
theorem dX13_isChalked_11 : decode cX13_isChalked 11 = .ok (.aload_n 0, 1) := by decide +kernel
theorem dX13_isChalked_12 : decode cX13_isChalked 12 = .ok (.getfield 95, 3) := by decide +kernel
theorem dX13_isChalked_15 : decode cX13_isChalked 15 = .ok (.iconst 3, 1) := by decide +kernel
theorem dX13_isChalked_16 : decode cX13_isChalked 16 = .ok (.iload_n 2, 1) := by decide +kernel
theorem dX13_isChalked_17 : decode cX13_isChalked 17 = .ok (.imul, 1) := by decide +kernel
theorem dX13_isChalked_18 : decode cX13_isChalked 18 = .ok (.iconst 2, 1) := by decide +kernel
theorem dX13_isChalked_19 : decode cX13_isChalked 19 = .ok (.iadd, 1) := by decide +kernel
theorem dX13_isChalked_20 : decode cX13_isChalked 20 = .ok (.iaload, 1) := by decide +kernel
theorem dX13_isChalked_21 : decode cX13_isChalked 21 = .ok (.iadd, 1) := by decide +kernel
theorem dX13_isChalked_22 : decode cX13_isChalked 22 = .ok (.istore_n 3, 1) := by decide +kernel
theorem dX13_isChalked_23 : decode cX13_isChalked 23 = .ok (.lconst 0, 1) := by decide +kernel
theorem dX13_isChalked_24 : decode cX13_isChalked 24 = .ok (.lstore 4, 2) := by decide +kernel
theorem dX13_isChalked_26 : decode cX13_isChalked 26 = .ok (.iconst 0, 1) := by decide +kernel
theorem dX13_isChalked_27 : decode cX13_isChalked 27 = .ok (.istore 6, 2) := by decide +kernel
theorem dX13_isChalked_29 : decode cX13_isChalked 29 = .ok (.iload 6, 2) := by decide +kernel
theorem dX13_isChalked_31 : decode cX13_isChalked 31 = .ok (.bipush 10, 2) := by decide +kernel
theorem dX13_isChalked_33 : decode cX13_isChalked 33 = .ok (.if_icmp .ge 56, 3) := by decide +kernel
theorem dX13_isChalked_36 : decode cX13_isChalked 36 = .ok (.lload 4, 2) := by decide +kernel
theorem dX13_isChalked_38 : decode cX13_isChalked 38 = .ok (.aload_n 0, 1) := by decide +kernel
theorem dX13_isChalked_39 : decode cX13_isChalked 39 = .ok (.getfield 95, 3) := by decide +kernel
theorem dX13_isChalked_42 : decode cX13_isChalked 42 = .ok (.iconst 3, 1) := by decide +kernel
theorem dX13_isChalked_43 : decode cX13_isChalked 43 = .ok (.iload_n 2, 1) := by decide +kernel
theorem dX13_isChalked_44 : decode cX13_isChalked 44 = .ok (.imul, 1) := by decide +kernel
theorem dX13_isChalked_45 : decode cX13_isChalked 45 = .ok (.iaload, 1) := by decide +kernel
theorem dX13_isChalked_46 : decode cX13_isChalked 46 = .ok (.iload 6, 2) := by decide +kernel
theorem dX13_isChalked_48 : decode cX13_isChalked 48 = .ok (.ishr, 1) := by decide +kernel
theorem dX13_isChalked_49 : decode cX13_isChalked 49 = .ok (.iconst 1, 1) := by decide +kernel
theorem dX13_isChalked_50 : decode cX13_isChalked 50 = .ok (.iand, 1) := by decide +kernel
theorem dX13_isChalked_51 : decode cX13_isChalked 51 = .ok (.iconst 1, 1) := by decide +kernel
theorem dX13_isChalked_52 : decode cX13_isChalked 52 = .ok (.if_icmp .ne 27, 3) := by decide +kernel
theorem dX13_isChalked_55 : decode cX13_isChalked 55 = .ok (.aload_n 0, 1) := by decide +kernel
theorem dX13_isChalked_56 : decode cX13_isChalked 56 = .ok (.getfield 74, 3) := by decide +kernel
theorem dX13_isChalked_59 : decode cX13_isChalked 59 = .ok (.bipush 62, 2) := by decide +kernel
theorem dX13_isChalked_61 : decode cX13_isChalked 61 = .ok (.iload 6, 2) := by decide +kernel
theorem dX13_isChalked_63 : decode cX13_isChalked 63 = .ok (.imul, 1) := by decide +kernel
theorem dX13_isChalked_64 : decode cX13_isChalked 64 = .ok (.iload_n 3, 1) := by decide +kernel
theorem dX13_isChalked_65 : decode cX13_isChalked 65 = .ok (.ifCond .ge 7, 3) := by decide +kernel
theorem dX13_isChalked_68 : decode cX13_isChalked 68 = .ok (.iconst 0, 1) := by decide +kernel
theorem dX13_isChalked_69 : decode cX13_isChalked 69 = .ok (.goto 4, 3) := by decide +kernel
theorem dX13_isChalked_72 : decode cX13_isChalked 72 = .ok (.iload_n 3, 1) := by decide +kernel
theorem dX13_isChalked_73 : decode cX13_isChalked 73 = .ok (.iadd, 1) := by decide +kernel
theorem dX13_isChalked_74 : decode cX13_isChalked 74 = .ok (.iaload, 1) := by decide +kernel
theorem dX13_isChalked_75 : decode cX13_isChalked 75 = .ok (.i2l, 1) := by decide +kernel
theorem dX13_isChalked_76 : decode cX13_isChalked 76 = .ok (.goto 4, 3) := by decide +kernel
theorem dX13_isChalked_79 : decode cX13_isChalked 79 = .ok (.lconst 0, 1) := by decide +kernel
theorem dX13_isChalked_80 : decode cX13_isChalked 80 = .ok (.ladd, 1) := by decide +kernel
theorem dX13_isChalked_81 : decode cX13_isChalked 81 = .ok (.lstore 4, 2) := by decide +kernel
theorem dX13_isChalked_83 : decode cX13_isChalked 83 = .ok (.iinc 6 1, 3) := by decide +kernel
theorem dX13_isChalked_86 : decode cX13_isChalked 86 = .ok (.goto (-57), 3) := by decide +kernel
theorem dX13_isChalked_89 : decode cX13_isChalked 89 = .ok (.lload 4, 2) := by decide +kernel
theorem dX13_isChalked_91 : decode cX13_isChalked 91 = .ok (.aload_n 0, 1) := by decide +kernel
theorem dX13_isChalked_92 : decode cX13_isChalked 92 = .ok (.getfield 95, 3) := by decide +kernel
theorem dX13_isChalked_95 : decode cX13_isChalked 95 = .ok (.iconst 3, 1) := by decide +kernel
theorem dX13_isChalked_96 : decode cX13_isChalked 96 = .ok (.iload_n 2, 1) := by decide +kernel
theorem dX13_isChalked_97 : decode cX13_isChalked 97 = .ok (.imul, 1) := by decide +kernel
theorem dX13_isChalked_98 : decode cX13_isChalked 98 = .ok (.iconst 1, 1) := by decide +kernel
theorem dX13_isChalked_99 : decode cX13_isChalked 99 = .ok (.iadd, 1) := by decide +kernel
theorem dX13_isChalked_100 : decode cX13_isChalked 100 = .ok (.iaload, 1) := by decide +kernel
theorem dX13_isChalked_101 : decode cX13_isChalked 101 = .ok (.i2l, 1) := by decide +kernel
theorem dX13_isChalked_102 : decode cX13_isChalked 102 = .ok (.lcmp, 1) := by decide +kernel
theorem dX13_isChalked_103 : decode cX13_isChalked 103 = .ok (.ifCond .eq 5, 3) := by decide +kernel
theorem dX13_isChalked_106 : decode cX13_isChalked 106 = .ok (.iconst 0, 1) := by decide +kernel
theorem dX13_isChalked_107 : decode cX13_isChalked 107 = .ok (.ireturn, 1) := by decide +kernel
theorem dX13_isChalked_108 : decode cX13_isChalked 108 = .ok (.iinc 2 1, 3) := by decide +kernel
theorem dX13_isChalked_111 : decode cX13_isChalked 111 = .ok (.goto (-109), 3) := by decide +kernel
theorem dX13_isChalked_114 : decode cX13_isChalked 114 = .ok (.iconst 1, 1) := by decide +kernel
theorem dX13_isChalked_115 : decode cX13_isChalked 115 = .ok (.ireturn, 1) := by decide +kernel
theorem dX13_chalked_0 : decode cX13_chalked 0 = .ok (.aload_n 0, 1) := by decide +kernel
theorem dX13_chalked_1 : decode cX13_chalked 1 = .ok (.iconst 0, 1) := by decide +kernel
theorem dX13_chalked_2 : decode cX13_chalked 2 = .ok (.putfield 135, 3) := by decide +kernel
theorem dX13_chalked_5 : decode cX13_chalked 5 = .ok (.aload_n 0, 1) := by decide +kernel
theorem dX13_chalked_6 : decode cX13_chalked 6 = .ok (.iload_n 1, 1) := by decide +kernel
theorem dX13_chalked_7 : decode cX13_chalked 7 = .ok (.ifCond .eq 8, 3) := by decide +kernel
theorem dX13_chalked_10 : decode cX13_chalked 10 = .ok (.iload_n 1, 1) := by decide +kernel
theorem dX13_chalked_11 : decode cX13_chalked 11 = .ok (.iconst 1, 1) := by decide +kernel
theorem dX13_chalked_12 : decode cX13_chalked 12 = .ok (.if_icmp .ne 7, 3) := by decide +kernel
theorem dX13_chalked_15 : decode cX13_chalked 15 = .ok (.iconst 1, 1) := by decide +kernel
theorem dX13_chalked_16 : decode cX13_chalked 16 = .ok (.goto 4, 3) := by decide +kernel
theorem dX13_chalked_19 : decode cX13_chalked 19 = .ok (.iconst 0, 1) := by decide +kernel
theorem dX13_chalked_20 : decode cX13_chalked 20 = .ok (.iconst 1, 1) := by decide +kernel
theorem dX13_chalked_21 : decode cX13_chalked 21 = .ok (.invokevirtual 235, 3) := by decide +kernel
theorem dX13_chalked_24 : decode cX13_chalked 24 = .ok (.ifCond .ne 5, 3) := by decide +kernel
theorem dX13_chalked_27 : decode cX13_chalked 27 = .ok (.iconst 0, 1) := by decide +kernel
theorem dX13_chalked_28 : decode cX13_chalked 28 = .ok (.ireturn, 1) := by decide +kernel
theorem dX13_chalked_29 : decode cX13_chalked 29 = .ok (.aload_n 0, 1) := by decide +kernel
theorem dX13_chalked_30 : decode cX13_chalked 30 = .ok (.invokevirtual 306, 3) := by decide +kernel
theorem dX13_chalked_33 : decode cX13_chalked 33 = .ok (.iconst 0, 1) := by decide +kernel
theorem dX13_chalked_34 : decode cX13_chalked 34 = .ok (.istore_n 2, 1) := by decide +kernel
theorem dX13_chalked_35 : decode cX13_chalked 35 = .ok (.iconst (-1), 1) := by decide +kernel
theorem dX13_chalked_36 : decode cX13_chalked 36 = .ok (.istore_n 3, 1) := by decide +kernel
theorem dX13_chalked_37 : decode cX13_chalked 37 = .ok (.bipush 40, 2) := by decide +kernel
theorem dX13_chalked_39 : decode cX13_chalked 39 = .ok (.istore 4, 2) := by decide +kernel
theorem dX13_chalked_41 : decode cX13_chalked 41 = .ok (.iload 4, 2) := by decide +kernel
theorem dX13_chalked_43 : decode cX13_chalked 43 = .ok (.iconst 2, 1) := by decide +kernel
theorem dX13_chalked_44 : decode cX13_chalked 44 = .ok (.if_icmp .lt 27, 3) := by decide +kernel
theorem dX13_chalked_47 : decode cX13_chalked 47 = .ok (.aload_n 0, 1) := by decide +kernel
theorem dX13_chalked_48 : decode cX13_chalked 48 = .ok (.iload 4, 2) := by decide +kernel
theorem dX13_chalked_50 : decode cX13_chalked 50 = .ok (.invokevirtual 359, 3) := by decide +kernel
theorem dX13_chalked_53 : decode cX13_chalked 53 = .ok (.ifCond .ne 6, 3) := by decide +kernel
theorem dX13_chalked_56 : decode cX13_chalked 56 = .ok (.goto 9, 3) := by decide +kernel
theorem dX13_chalked_59 : decode cX13_chalked 59 = .ok (.iinc 2 1, 3) := by decide +kernel
theorem dX13_chalked_62 : decode cX13_chalked 62 = .ok (.iload 4, 2) := by decide +kernel
theorem dX13_chalked_64 : decode cX13_chalked 64 = .ok (.istore_n 3, 1) := by decide +kernel
theorem dX13_chalked_65 : decode cX13_chalked 65 = .ok (.iinc 4 (-1), 3) := by decide +kernel
theorem dX13_chalked_68 : decode cX13_chalked 68 = .ok (.goto (-27), 3) := by decide +kernel
theorem dX13_chalked_71 : decode cX13_chalked 71 = .ok (.iload_n 1, 1) := by decide +kernel
theorem dX13_chalked_72 : decode cX13_chalked 72 = .ok (.ifCond .ne 7, 3) := by decide +kernel
theorem dX13_chalked_75 : decode cX13_chalked 75 = .ok (.iload_n 2, 1) := by decide +kernel
theorem dX13_chalked_76 : decode cX13_chalked 76 = .ok (.goto 4, 3) := by decide +kernel
theorem dX13_chalked_79 : decode cX13_chalked 79 = .ok (.iload_n 3, 1) := by decide +kernel
theorem dX13_chalked_80 : decode cX13_chalked 80 = .ok (.ireturn, 1) := by decide +kernel
theorem dX13_voids_0 : decode cX13_voids 0 = .ok (.aload_n 0, 1) := by decide +kernel
theorem dX13_voids_1 : decode cX13_voids 1 = .ok (.iconst 0, 1) := by decide +kernel
theorem dX13_voids_2 : decode cX13_voids 2 = .ok (.putfield 135, 3) := by decide +kernel
theorem dX13_voids_5 : decode cX13_voids 5 = .ok (.aload_n 0, 1) := by decide +kernel
theorem dX13_voids_6 : decode cX13_voids 6 = .ok (.iload_n 1, 1) := by decide +kernel
theorem dX13_voids_7 : decode cX13_voids 7 = .ok (.invokevirtual 312, 3) := by decide +kernel
theorem dX13_voids_10 : decode cX13_voids 10 = .ok (.ifCond .eq 25, 3) := by decide +kernel
theorem dX13_voids_13 : decode cX13_voids 13 = .ok (.aload_n 0, 1) := by decide +kernel
theorem dX13_voids_14 : decode cX13_voids 14 = .ok (.iload_n 2, 1) := by decide +kernel
theorem dX13_voids_15 : decode cX13_voids 15 = .ok (.ifCond .eq 8, 3) := by decide +kernel
theorem dX13_voids_18 : decode cX13_voids 18 = .ok (.iload_n 2, 1) := by decide +kernel
theorem dX13_voids_19 : decode cX13_voids 19 = .ok (.iconst 1, 1) := by decide +kernel
theorem dX13_voids_20 : decode cX13_voids 20 = .ok (.if_icmp .ne 7, 3) := by decide +kernel
theorem dX13_voids_23 : decode cX13_voids 23 = .ok (.iconst 1, 1) := by decide +kernel
theorem dX13_voids_24 : decode cX13_voids 24 = .ok (.goto 4, 3) := by decide +kernel
theorem dX13_voids_27 : decode cX13_voids 27 = .ok (.iconst 0, 1) := by decide +kernel
theorem dX13_voids_28 : decode cX13_voids 28 = .ok (.iconst 1, 1) := by decide +kernel
theorem dX13_voids_29 : decode cX13_voids 29 = .ok (.invokevirtual 235, 3) := by decide +kernel
theorem dX13_voids_32 : decode cX13_voids 32 = .ok (.ifCond .ne 5, 3) := by decide +kernel
theorem dX13_voids_35 : decode cX13_voids 35 = .ok (.iconst 0, 1) := by decide +kernel
theorem dX13_voids_36 : decode cX13_voids 36 = .ok (.ireturn, 1) := by decide +kernel
theorem dX13_voids_37 : decode cX13_voids 37 = .ok (.aload_n 0, 1) := by decide +kernel
theorem dX13_voids_38 : decode cX13_voids 38 = .ok (.getfield 248, 3) := by decide +kernel
theorem dX13_voids_41 : decode cX13_voids 41 = .ok (.ifCond .eq 5, 3) := by decide +kernel
theorem dX13_voids_44 : decode cX13_voids 44 = .ok (.iconst (-1), 1) := by decide +kernel
theorem dX13_voids_45 : decode cX13_voids 45 = .ok (.ireturn, 1) := by decide +kernel
theorem dX13_voids_46 : decode cX13_voids 46 = .ok (.aload_n 0, 1) := by decide +kernel
theorem dX13_voids_47 : decode cX13_voids 47 = .ok (.getfield 251, 3) := by decide +kernel
theorem dX13_voids_50 : decode cX13_voids 50 = .ok (.iconst 1, 1) := by decide +kernel
theorem dX13_voids_51 : decode cX13_voids 51 = .ok (.isub, 1) := by decide +kernel
theorem dX13_voids_52 : decode cX13_voids 52 = .ok (.istore_n 3, 1) := by decide +kernel
theorem dX13_voids_53 : decode cX13_voids 53 = .ok (.iload_n 3, 1) := by decide +kernel
theorem dX13_voids_54 : decode cX13_voids 54 = .ok (.iconst 2, 1) := by decide +kernel
theorem dX13_voids_55 : decode cX13_voids 55 = .ok (.if_icmp .lt 87, 3) := by decide +kernel
theorem dX13_voids_58 : decode cX13_voids 58 = .ok (.aload_n 0, 1) := by decide +kernel
theorem dX13_voids_59 : decode cX13_voids 59 = .ok (.iload_n 1, 1) := by decide +kernel
theorem dX13_voids_60 : decode cX13_voids 60 = .ok (.iload_n 3, 1) := by decide +kernel
theorem dX13_voids_61 : decode cX13_voids 61 = .ok (.invokevirtual 294, 3) := by decide +kernel
theorem dX13_voids_64 : decode cX13_voids 64 = .ok (.ifCond .eq 6, 3) := by decide +kernel
theorem dX13_voids_67 : decode cX13_voids 67 = .ok (.goto 69, 3) := by decide +kernel
theorem dX13_voids_70 : decode cX13_voids 70 = .ok (.iconst 0, 1) := by decide +kernel
theorem dX13_voids_71 : decode cX13_voids 71 = .ok (.istore 4, 2) := by decide +kernel
theorem dX13_voids_73 : decode cX13_voids 73 = .ok (.iconst 0, 1) := by decide +kernel
theorem dX13_voids_74 : decode cX13_voids 74 = .ok (.istore 5, 2) := by decide +kernel
theorem dX13_voids_76 : decode cX13_voids 76 = .ok (.iload 5, 2) := by decide +kernel
theorem dX13_voids_78 : decode cX13_voids 78 = .ok (.aload_n 0, 1) := by decide +kernel
theorem dX13_voids_79 : decode cX13_voids 79 = .ok (.getfield 245, 3) := by decide +kernel
theorem dX13_voids_82 : decode cX13_voids 82 = .ok (.if_icmp .ge 38, 3) := by decide +kernel
theorem dX13_voids_85 : decode cX13_voids 85 = .ok (.iload 4, 2) := by decide +kernel
theorem dX13_voids_87 : decode cX13_voids 87 = .ok (.aload_n 0, 1) := by decide +kernel
theorem dX13_voids_88 : decode cX13_voids 88 = .ok (.getfield 7, 3) := by decide +kernel
theorem dX13_voids_91 : decode cX13_voids 91 = .ok (.iload 5, 2) := by decide +kernel
theorem dX13_voids_93 : decode cX13_voids 93 = .ok (.iaload, 1) := by decide +kernel
theorem dX13_voids_94 : decode cX13_voids 94 = .ok (.aload_n 0, 1) := by decide +kernel
theorem dX13_voids_95 : decode cX13_voids 95 = .ok (.getfield 251, 3) := by decide +kernel
theorem dX13_voids_98 : decode cX13_voids 98 = .ok (.iload_n 3, 1) := by decide +kernel
theorem dX13_voids_99 : decode cX13_voids 99 = .ok (.isub, 1) := by decide +kernel
theorem dX13_voids_100 : decode cX13_voids 100 = .ok (.if_icmp .lt 10, 3) := by decide +kernel
theorem dX13_voids_103 : decode cX13_voids 103 = .ok (.iconst 1, 1) := by decide +kernel
theorem dX13_voids_104 : decode cX13_voids 104 = .ok (.iload 5, 2) := by decide +kernel
theorem dX13_voids_106 : decode cX13_voids 106 = .ok (.ishl, 1) := by decide +kernel
theorem dX13_voids_107 : decode cX13_voids 107 = .ok (.goto 4, 3) := by decide +kernel
theorem dX13_voids_110 : decode cX13_voids 110 = .ok (.iconst 0, 1) := by decide +kernel
theorem dX13_voids_111 : decode cX13_voids 111 = .ok (.ior, 1) := by decide +kernel
theorem dX13_voids_112 : decode cX13_voids 112 = .ok (.istore 4, 2) := by decide +kernel
theorem dX13_voids_114 : decode cX13_voids 114 = .ok (.iinc 5 1, 3) := by decide +kernel
theorem dX13_voids_117 : decode cX13_voids 117 = .ok (.goto (-41), 3) := by decide +kernel
theorem dX13_voids_120 : decode cX13_voids 120 = .ok (.iload_n 2, 1) := by decide +kernel
theorem dX13_voids_121 : decode cX13_voids 121 = .ok (.ifCond .ne 12, 3) := by decide +kernel
