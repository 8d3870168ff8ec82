theorem dX13_among_17 : decode cX13_among 17 = .ok (.aload_n 0, 1) := by decide +kernel
theorem dX13_among_18 : decode cX13_among 18 = .ok (.iconst 1, 1) := by decide +kernel
theorem dX13_among_19 : decode cX13_among 19 = .ok (.invokevirtual 198, 3) := by decide +kernel
theorem dX13_among_22 : decode cX13_among 22 = .ok (.goto 48, 3) := by decide +kernel
theorem dX13_among_25 : decode cX13_among 25 = .ok (.aload_n 0, 1) := by decide +kernel
theorem dX13_among_26 : decode cX13_among 26 = .ok (.getfield 175, 3) := by decide +kernel
theorem dX13_among_29 : decode cX13_among 29 = .ok (.iconst 3, 1) := by decide +kernel
theorem dX13_among_30 : decode cX13_among 30 = .ok (.if_icmp .le 11, 3) := by decide +kernel
theorem dX13_among_33 : decode cX13_among 33 = .ok (.aload_n 0, 1) := by decide +kernel
theorem dX13_among_34 : decode cX13_among 34 = .ok (.iconst 2, 1) := by decide +kernel
theorem dX13_among_35 : decode cX13_among 35 = .ok (.invokevirtual 198, 3) := by decide +kernel
theorem dX13_among_38 : decode cX13_among 38 = .ok (.goto 32, 3) := by decide +kernel
theorem dX13_among_41 : decode cX13_among 41 = .ok (.aload_n 0, 1) := by decide +kernel
theorem dX13_among_42 : decode cX13_among 42 = .ok (.getfield 162, 3) := by decide +kernel
theorem dX13_among_45 : decode cX13_among 45 = .ok (.iload_n 1, 1) := by decide +kernel
theorem dX13_among_46 : decode cX13_among 46 = .ok (.if_icmp .lt 11, 3) := by decide +kernel
theorem dX13_among_49 : decode cX13_among 49 = .ok (.aload_n 0, 1) := by decide +kernel
theorem dX13_among_50 : decode cX13_among 50 = .ok (.iconst 3, 1) := by decide +kernel
theorem dX13_among_51 : decode cX13_among 51 = .ok (.invokevirtual 198, 3) := by decide +kernel
theorem dX13_among_54 : decode cX13_among 54 = .ok (.goto 16, 3) := by decide +kernel
theorem dX13_among_57 : decode cX13_among 57 = .ok (.aload_n 0, 1) := by decide +kernel
theorem dX13_among_58 : decode cX13_among 58 = .ok (.getfield 162, 3) := by decide +kernel
theorem dX13_among_61 : decode cX13_among 61 = .ok (.iload_n 2, 1) := by decide +kernel
theorem dX13_among_62 : decode cX13_among 62 = .ok (.if_icmp .ne 8, 3) := by decide +kernel
theorem dX13_among_65 : decode cX13_among 65 = .ok (.aload_n 0, 1) := by decide +kernel
theorem dX13_among_66 : decode cX13_among 66 = .ok (.iconst 4, 1) := by decide +kernel
theorem dX13_among_67 : decode cX13_among 67 = .ok (.invokevirtual 198, 3) := by decide +kernel
theorem dX13_among_70 : decode cX13_among 70 = .ok (.aload_n 0, 1) := by decide +kernel
theorem dX13_among_71 : decode cX13_among 71 = .ok (.getfield 162, 3) := by decide +kernel
theorem dX13_among_74 : decode cX13_among 74 = .ok (.istore_n 3, 1) := by decide +kernel
theorem dX13_among_75 : decode cX13_among 75 = .ok (.aload_n 0, 1) := by decide +kernel
theorem dX13_among_76 : decode cX13_among 76 = .ok (.invokevirtual 191, 3) := by decide +kernel
theorem dX13_among_79 : decode cX13_among 79 = .ok (.ifCond .eq 7, 3) := by decide +kernel
theorem dX13_among_82 : decode cX13_among 82 = .ok (.aload_n 0, 1) := by decide +kernel
theorem dX13_among_83 : decode cX13_among 83 = .ok (.invokevirtual 195, 3) := by decide +kernel
theorem dX13_among_86 : decode cX13_among 86 = .ok (.iload_n 3, 1) := by decide +kernel
theorem dX13_among_87 : decode cX13_among 87 = .ok (.ireturn, 1) := by decide +kernel
theorem dX13_figures_0 : decode cX13_figures 0 = .ok (.aload_n 0, 1) := by decide +kernel
theorem dX13_figures_1 : decode cX13_figures 1 = .ok (.invokevirtual 191, 3) := by decide +kernel
theorem dX13_figures_4 : decode cX13_figures 4 = .ok (.ifCond .ne 5, 3) := by decide +kernel
theorem dX13_figures_7 : decode cX13_figures 7 = .ok (.iconst 0, 1) := by decide +kernel
theorem dX13_figures_8 : decode cX13_figures 8 = .ok (.ireturn, 1) := by decide +kernel
theorem dX13_figures_9 : decode cX13_figures 9 = .ok (.aload_n 0, 1) := by decide +kernel
theorem dX13_figures_10 : decode cX13_figures 10 = .ok (.getfield 165, 3) := by decide +kernel
theorem dX13_figures_13 : decode cX13_figures 13 = .ok (.iconst 3, 1) := by decide +kernel
theorem dX13_figures_14 : decode cX13_figures 14 = .ok (.if_icmp .eq 11, 3) := by decide +kernel
theorem dX13_figures_17 : decode cX13_figures 17 = .ok (.aload_n 0, 1) := by decide +kernel
theorem dX13_figures_18 : decode cX13_figures 18 = .ok (.iconst 1, 1) := by decide +kernel
theorem dX13_figures_19 : decode cX13_figures 19 = .ok (.invokevirtual 198, 3) := by decide +kernel
theorem dX13_figures_22 : decode cX13_figures 22 = .ok (.goto 17, 3) := by decide +kernel
theorem dX13_figures_25 : decode cX13_figures 25 = .ok (.aload_n 0, 1) := by decide +kernel
theorem dX13_figures_26 : decode cX13_figures 26 = .ok (.getfield 175, 3) := by decide +kernel
theorem dX13_figures_29 : decode cX13_figures 29 = .ok (.bipush 6, 2) := by decide +kernel
theorem dX13_figures_31 : decode cX13_figures 31 = .ok (.if_icmp .le 8, 3) := by decide +kernel
theorem dX13_figures_34 : decode cX13_figures 34 = .ok (.aload_n 0, 1) := by decide +kernel
theorem dX13_figures_35 : decode cX13_figures 35 = .ok (.iconst 2, 1) := by decide +kernel
theorem dX13_figures_36 : decode cX13_figures 36 = .ok (.invokevirtual 198, 3) := by decide +kernel
theorem dX13_figures_39 : decode cX13_figures 39 = .ok (.aload_n 0, 1) := by decide +kernel
theorem dX13_figures_40 : decode cX13_figures 40 = .ok (.getfield 175, 3) := by decide +kernel
theorem dX13_figures_43 : decode cX13_figures 43 = .ok (.iconst 1, 1) := by decide +kernel
theorem dX13_figures_44 : decode cX13_figures 44 = .ok (.isub, 1) := by decide +kernel
theorem dX13_figures_45 : decode cX13_figures 45 = .ok (.istore_n 3, 1) := by decide +kernel
theorem dX13_figures_46 : decode cX13_figures 46 = .ok (.iconst 0, 1) := by decide +kernel
theorem dX13_figures_47 : decode cX13_figures 47 = .ok (.istore 4, 2) := by decide +kernel
theorem dX13_figures_49 : decode cX13_figures 49 = .ok (.iload 4, 2) := by decide +kernel
theorem dX13_figures_51 : decode cX13_figures 51 = .ok (.iload_n 3, 1) := by decide +kernel
theorem dX13_figures_52 : decode cX13_figures 52 = .ok (.if_icmp .ge 29, 3) := by decide +kernel
theorem dX13_figures_55 : decode cX13_figures 55 = .ok (.aload_n 0, 1) := by decide +kernel
theorem dX13_figures_56 : decode cX13_figures 56 = .ok (.invokevirtual 191, 3) := by decide +kernel
theorem dX13_figures_59 : decode cX13_figures 59 = .ok (.ifCond .eq 22, 3) := by decide +kernel
theorem dX13_figures_62 : decode cX13_figures 62 = .ok (.aload_n 1, 1) := by decide +kernel
theorem dX13_figures_63 : decode cX13_figures 63 = .ok (.iload_n 2, 1) := by decide +kernel
theorem dX13_figures_64 : decode cX13_figures 64 = .ok (.iload 4, 2) := by decide +kernel
theorem dX13_figures_66 : decode cX13_figures 66 = .ok (.iadd, 1) := by decide +kernel
theorem dX13_figures_67 : decode cX13_figures 67 = .ok (.aload_n 0, 1) := by decide +kernel
theorem dX13_figures_68 : decode cX13_figures 68 = .ok (.getfield 47, 3) := by decide +kernel
theorem dX13_figures_71 : decode cX13_figures 71 = .ok (.iload 4, 2) := by decide +kernel
theorem dX13_figures_73 : decode cX13_figures 73 = .ok (.iaload, 1) := by decide +kernel
theorem dX13_figures_74 : decode cX13_figures 74 = .ok (.iastore, 1) := by decide +kernel
theorem dX13_figures_75 : decode cX13_figures 75 = .ok (.iinc 4 1, 3) := by decide +kernel
theorem dX13_figures_78 : decode cX13_figures 78 = .ok (.goto (-29), 3) := by decide +kernel
theorem dX13_figures_81 : decode cX13_figures 81 = .ok (.aload_n 0, 1) := by decide +kernel
theorem dX13_figures_82 : decode cX13_figures 82 = .ok (.invokevirtual 191, 3) := by decide +kernel
theorem dX13_figures_85 : decode cX13_figures 85 = .ok (.ifCond .eq 7, 3) := by decide +kernel
theorem dX13_figures_88 : decode cX13_figures 88 = .ok (.aload_n 0, 1) := by decide +kernel
theorem dX13_figures_89 : decode cX13_figures 89 = .ok (.invokevirtual 195, 3) := by decide +kernel
theorem dX13_figures_92 : decode cX13_figures 92 = .ok (.iload_n 3, 1) := by decide +kernel
theorem dX13_figures_93 : decode cX13_figures 93 = .ok (.ireturn, 1) := by decide +kernel
theorem dX13_line_0 : decode cX13_line 0 = .ok (.aload_n 0, 1) := by decide +kernel
theorem dX13_line_1 : decode cX13_line 1 = .ok (.bipush 8, 2) := by decide +kernel
theorem dX13_line_3 : decode cX13_line 3 = .ok (.invokevirtual 201, 3) := by decide +kernel
theorem dX13_line_6 : decode cX13_line 6 = .ok (.ifCond .eq 149, 3) := by decide +kernel
theorem dX13_line_9 : decode cX13_line 9 = .ok (.aload_n 0, 1) := by decide +kernel
theorem dX13_line_10 : decode cX13_line 10 = .ok (.getfield 204, 3) := by decide +kernel
theorem dX13_line_13 : decode cX13_line 13 = .ok (.iconst 5, 1) := by decide +kernel
theorem dX13_line_14 : decode cX13_line 14 = .ok (.if_icmp .ne 8, 3) := by decide +kernel
theorem dX13_line_17 : decode cX13_line 17 = .ok (.aload_n 0, 1) := by decide +kernel
theorem dX13_line_18 : decode cX13_line 18 = .ok (.iconst 2, 1) := by decide +kernel
theorem dX13_line_19 : decode cX13_line 19 = .ok (.invokevirtual 198, 3) := by decide +kernel
theorem dX13_line_22 : decode cX13_line 22 = .ok (.aload_n 0, 1) := by decide +kernel
theorem dX13_line_23 : decode cX13_line 23 = .ok (.invokevirtual 191, 3) := by decide +kernel
theorem dX13_line_26 : decode cX13_line 26 = .ok (.ifCond .ne 4, 3) := by decide +kernel
theorem dX13_line_29 : decode cX13_line 29 = .ok (.return_, 1) := by decide +kernel
theorem dX13_line_30 : decode cX13_line 30 = .ok (.aload_n 0, 1) := by decide +kernel
theorem dX13_line_31 : decode cX13_line 31 = .ok (.invokevirtual 195, 3) := by decide +kernel
theorem dX13_line_34 : decode cX13_line 34 = .ok (.aload_n 0, 1) := by decide +kernel
theorem dX13_line_35 : decode cX13_line 35 = .ok (.getfield 50, 3) := by decide +kernel
theorem dX13_line_38 : decode cX13_line 38 = .ok (.aload_n 0, 1) := by decide +kernel
theorem dX13_line_39 : decode cX13_line 39 = .ok (.getfield 204, 3) := by decide +kernel
theorem dX13_line_42 : decode cX13_line 42 = .ok (.aload_n 0, 1) := by decide +kernel
theorem dX13_line_43 : decode cX13_line 43 = .ok (.iconst 0, 1) := by decide +kernel
theorem dX13_line_44 : decode cX13_line 44 = .ok (.bipush 20, 2) := by decide +kernel
theorem dX13_line_46 : decode cX13_line 46 = .ok (.bipush 40, 2) := by decide +kernel
theorem dX13_line_48 : decode cX13_line 48 = .ok (.aload_n 0, 1) := by decide +kernel
theorem dX13_line_49 : decode cX13_line 49 = .ok (.getfield 207, 3) := by decide +kernel
theorem dX13_line_52 : decode cX13_line 52 = .ok (.isub, 1) := by decide +kernel
theorem dX13_line_53 : decode cX13_line 53 = .ok (.if_icmp .ge 8, 3) := by decide +kernel
theorem dX13_line_56 : decode cX13_line 56 = .ok (.bipush 20, 2) := by decide +kernel
theorem dX13_line_58 : decode cX13_line 58 = .ok (.goto 10, 3) := by decide +kernel
theorem dX13_line_61 : decode cX13_line 61 = .ok (.bipush 40, 2) := by decide +kernel
theorem dX13_line_63 : decode cX13_line 63 = .ok (.aload_n 0, 1) := by decide +kernel
theorem dX13_line_64 : decode cX13_line 64 = .ok (.getfield 207, 3) := by decide +kernel
theorem dX13_line_67 : decode cX13_line 67 = .ok (.isub, 1) := by decide +kernel
theorem dX13_line_68 : decode cX13_line 68 = .ok (.invokevirtual 210, 3) := by decide +kernel
theorem dX13_line_71 : decode cX13_line 71 = .ok (.iastore, 1) := by decide +kernel
theorem dX13_line_72 : decode cX13_line 72 = .ok (.aload_n 0, 1) := by decide +kernel
theorem dX13_line_73 : decode cX13_line 73 = .ok (.dup, 1) := by decide +kernel
theorem dX13_line_74 : decode cX13_line 74 = .ok (.getfield 207, 3) := by decide +kernel
theorem dX13_line_77 : decode cX13_line 77 = .ok (.aload_n 0, 1) := by decide +kernel
theorem dX13_line_78 : decode cX13_line 78 = .ok (.getfield 50, 3) := by decide +kernel
theorem dX13_line_81 : decode cX13_line 81 = .ok (.aload_n 0, 1) := by decide +kernel
theorem dX13_line_82 : decode cX13_line 82 = .ok (.getfield 204, 3) := by decide +kernel
theorem dX13_line_85 : decode cX13_line 85 = .ok (.iaload, 1) := by decide +kernel
theorem dX13_line_86 : decode cX13_line 86 = .ok (.iadd, 1) := by decide +kernel
theorem dX13_line_87 : decode cX13_line 87 = .ok (.putfield 207, 3) := by decide +kernel
theorem dX13_line_90 : decode cX13_line 90 = .ok (.aload_n 0, 1) := by decide +kernel
theorem dX13_line_91 : decode cX13_line 91 = .ok (.getfield 53, 3) := by decide +kernel
theorem dX13_line_94 : decode cX13_line 94 = .ok (.aload_n 0, 1) := by decide +kernel
theorem dX13_line_95 : decode cX13_line 95 = .ok (.getfield 204, 3) := by decide +kernel
theorem dX13_line_98 : decode cX13_line 98 = .ok (.iconst 0, 1) := by decide +kernel
theorem dX13_line_99 : decode cX13_line 99 = .ok (.iastore, 1) := by decide +kernel
theorem dX13_line_100 : decode cX13_line 100 = .ok (.aload_n 0, 1) := by decide +kernel
theorem dX13_line_101 : decode cX13_line 101 = .ok (.invokevirtual 191, 3) := by decide +kernel
theorem dX13_line_104 : decode cX13_line 104 = .ok (.ifCond .eq 31, 3) := by decide +kernel
theorem dX13_line_107 : decode cX13_line 107 = .ok (.aload_n 0, 1) := by decide +kernel
theorem dX13_line_108 : decode cX13_line 108 = .ok (.bipush 9, 2) := by decide +kernel
theorem dX13_line_110 : decode cX13_line 110 = .ok (.invokevirtual 201, 3) := by decide +kernel
theorem dX13_line_113 : decode cX13_line 113 = .ok (.ifCond .eq 22, 3) := by decide +kernel
theorem dX13_line_116 : decode cX13_line 116 = .ok (.aload_n 0, 1) := by decide +kernel
theorem dX13_line_117 : decode cX13_line 117 = .ok (.invokevirtual 195, 3) := by decide +kernel
theorem dX13_line_120 : decode cX13_line 120 = .ok (.aload_n 0, 1) := by decide +kernel
theorem dX13_line_121 : decode cX13_line 121 = .ok (.getfield 53, 3) := by decide +kernel
theorem dX13_line_124 : decode cX13_line 124 = .ok (.aload_n 0, 1) := by decide +kernel
theorem dX13_line_125 : decode cX13_line 125 = .ok (.getfield 204, 3) := by decide +kernel
theorem dX13_line_128 : decode cX13_line 128 = .ok (.aload_n 0, 1) := by decide +kernel
theorem dX13_line_129 : decode cX13_line 129 = .ok (.iconst 0, 1) := by decide +kernel
theorem dX13_line_130 : decode cX13_line 130 = .ok (.iconst 5, 1) := by decide +kernel
theorem dX13_line_131 : decode cX13_line 131 = .ok (.invokevirtual 210, 3) := by decide +kernel
theorem dX13_line_134 : decode cX13_line 134 = .ok (.iastore, 1) := by decide +kernel
theorem dX13_line_135 : decode cX13_line 135 = .ok (.aload_n 0, 1) := by decide +kernel
theorem dX13_line_136 : decode cX13_line 136 = .ok (.invokevirtual 191, 3) := by decide +kernel
theorem dX13_line_139 : decode cX13_line 139 = .ok (.ifCond .eq 245, 3) := by decide +kernel
theorem dX13_line_142 : decode cX13_line 142 = .ok (.aload_n 0, 1) := by decide +kernel
theorem dX13_line_143 : decode cX13_line 143 = .ok (.dup, 1) := by decide +kernel
theorem dX13_line_144 : decode cX13_line 144 = .ok (.getfield 204, 3) := by decide +kernel
theorem dX13_line_147 : decode cX13_line 147 = .ok (.iconst 1, 1) := by decide +kernel
theorem dX13_line_148 : decode cX13_line 148 = .ok (.iadd, 1) := by decide +kernel
theorem dX13_line_149 : decode cX13_line 149 = .ok (.putfield 204, 3) := by decide +kernel
theorem dX13_line_152 : decode cX13_line 152 = .ok (.goto 232, 3) := by decide +kernel
theorem dX13_line_155 : decode cX13_line 155 = .ok (.aload_n 0, 1) := by decide +kernel
theorem dX13_line_156 : decode cX13_line 156 = .ok (.bipush 10, 2) := by decide +kernel
theorem dX13_line_158 : decode cX13_line 158 = .ok (.invokevirtual 201, 3) := by decide +kernel
theorem dX13_line_161 : decode cX13_line 161 = .ok (.ifCond .eq 116, 3) := by decide +kernel
theorem dX13_line_164 : decode cX13_line 164 = .ok (.aload_n 0, 1) := by decide +kernel
theorem dX13_line_165 : decode cX13_line 165 = .ok (.getfield 214, 3) := by decide +kernel
theorem dX13_line_168 : decode cX13_line 168 = .ok (.bipush 10, 2) := by decide +kernel
theorem dX13_line_170 : decode cX13_line 170 = .ok (.if_icmp .ne 8, 3) := by decide +kernel
theorem dX13_line_173 : decode cX13_line 173 = .ok (.aload_n 0, 1) := by decide +kernel
theorem dX13_line_174 : decode cX13_line 174 = .ok (.iconst 2, 1) := by decide +kernel
theorem dX13_line_175 : decode cX13_line 175 = .ok (.invokevirtual 198, 3) := by decide +kernel
theorem dX13_line_178 : decode cX13_line 178 = .ok (.aload_n 0, 1) := by decide +kernel
theorem dX13_line_179 : decode cX13_line 179 = .ok (.invokevirtual 191, 3) := by decide +kernel
theorem dX13_line_182 : decode cX13_line 182 = .ok (.ifCond .ne 4, 3) := by decide +kernel
theorem dX13_line_185 : decode cX13_line 185 = .ok (.return_, 1) := by decide +kernel
theorem dX13_line_186 : decode cX13_line 186 = .ok (.aload_n 0, 1) := by decide +kernel
theorem dX13_line_187 : decode cX13_line 187 = .ok (.invokevirtual 195, 3) := by decide +kernel
theorem dX13_line_190 : decode cX13_line 190 = .ok (.aload_n 0, 1) := by decide +kernel
theorem dX13_line_191 : decode cX13_line 191 = .ok (.getfield 56, 3) := by decide +kernel
theorem dX13_line_194 : decode cX13_line 194 = .ok (.aload_n 0, 1) := by decide +kernel
theorem dX13_line_195 : decode cX13_line 195 = .ok (.getfield 214, 3) := by decide +kernel
theorem dX13_line_198 : decode cX13_line 198 = .ok (.aload_n 0, 1) := by decide +kernel
theorem dX13_line_199 : decode cX13_line 199 = .ok (.aload_n 0, 1) := by decide +kernel
theorem dX13_line_200 : decode cX13_line 200 = .ok (.getfield 204, 3) := by decide +kernel
theorem dX13_line_203 : decode cX13_line 203 = .ok (.iconst (-1), 1) := by decide +kernel
theorem dX13_line_204 : decode cX13_line 204 = .ok (.invokevirtual 217, 3) := by decide +kernel
theorem dX13_line_207 : decode cX13_line 207 = .ok (.iastore, 1) := by decide +kernel
theorem dX13_line_208 : decode cX13_line 208 = .ok (.aload_n 0, 1) := by decide +kernel
theorem dX13_line_209 : decode cX13_line 209 = .ok (.getfield 59, 3) := by decide +kernel
theorem dX13_line_212 : decode cX13_line 212 = .ok (.aload_n 0, 1) := by decide +kernel
theorem dX13_line_213 : decode cX13_line 213 = .ok (.getfield 214, 3) := by decide +kernel
theorem dX13_line_216 : decode cX13_line 216 = .ok (.aload_n 0, 1) := by decide +kernel
theorem dX13_line_217 : decode cX13_line 217 = .ok (.aload_n 0, 1) := by decide +kernel
theorem dX13_line_218 : decode cX13_line 218 = .ok (.getfield 204, 3) := by decide +kernel
theorem dX13_line_221 : decode cX13_line 221 = .ok (.aload_n 0, 1) := by decide +kernel
theorem dX13_line_222 : decode cX13_line 222 = .ok (.getfield 56, 3) := by decide +kernel
theorem dX13_line_225 : decode cX13_line 225 = .ok (.aload_n 0, 1) := by decide +kernel
theorem dX13_line_226 : decode cX13_line 226 = .ok (.getfield 214, 3) := by decide +kernel
theorem dX13_line_229 : decode cX13_line 229 = .ok (.iaload, 1) := by decide +kernel
theorem dX13_line_230 : decode cX13_line 230 = .ok (.invokevirtual 217, 3) := by decide +kernel
theorem dX13_line_233 : decode cX13_line 233 = .ok (.iastore, 1) := by decide +kernel
theorem dX13_line_234 : decode cX13_line 234 = .ok (.aload_n 0, 1) := by decide +kernel
theorem dX13_line_235 : decode cX13_line 235 = .ok (.getfield 62, 3) := by decide +kernel
theorem dX13_line_238 : decode cX13_line 238 = .ok (.aload_n 0, 1) := by decide +kernel
theorem dX13_line_239 : decode cX13_line 239 = .ok (.getfield 214, 3) := by decide +kernel
theorem dX13_line_242 : decode cX13_line 242 = .ok (.aload_n 0, 1) := by decide +kernel
theorem dX13_line_243 : decode cX13_line 243 = .ok (.aload_n 0, 1) := by decide +kernel
theorem dX13_line_244 : decode cX13_line 244 = .ok (.getfield 65, 3) := by decide +kernel
theorem dX13_line_247 : decode cX13_line 247 = .ok (.iconst 5, 1) := by decide +kernel
theorem dX13_line_248 : decode cX13_line 248 = .ok (.aload_n 0, 1) := by decide +kernel
theorem dX13_line_249 : decode cX13_line 249 = .ok (.getfield 214, 3) := by decide +kernel
theorem dX13_line_252 : decode cX13_line 252 = .ok (.imul, 1) := by decide +kernel
theorem dX13_line_253 : decode cX13_line 253 = .ok (.invokevirtual 220, 3) := by decide +kernel
theorem dX13_line_256 : decode cX13_line 256 = .ok (.iastore, 1) := by decide +kernel
theorem dX13_line_257 : decode cX13_line 257 = .ok (.aload_n 0, 1) := by decide +kernel
theorem dX13_line_258 : decode cX13_line 258 = .ok (.invokevirtual 191, 3) := by decide +kernel
theorem dX13_line_261 : decode cX13_line 261 = .ok (.ifCond .eq 123, 3) := by decide +kernel
theorem dX13_line_264 : decode cX13_line 264 = .ok (.aload_n 0, 1) := by decide +kernel
theorem dX13_line_265 : decode cX13_line 265 = .ok (.dup, 1) := by decide +kernel
theorem dX13_line_266 : decode cX13_line 266 = .ok (.getfield 214, 3) := by decide +kernel
theorem dX13_line_269 : decode cX13_line 269 = .ok (.iconst 1, 1) := by decide +kernel
theorem dX13_line_270 : decode cX13_line 270 = .ok (.iadd, 1) := by decide +kernel
theorem dX13_line_271 : decode cX13_line 271 = .ok (.putfield 214, 3) := by decide +kernel
theorem dX13_line_274 : decode cX13_line 274 = .ok (.goto 110, 3) := by decide +kernel
theorem dX13_line_277 : decode cX13_line 277 = .ok (.aload_n 0, 1) := by decide +kernel
theorem dX13_line_278 : decode cX13_line 278 = .ok (.bipush 11, 2) := by decide +kernel
theorem dX13_line_280 : decode cX13_line 280 = .ok (.invokevirtual 201, 3) := by decide +kernel
theorem dX13_line_283 : decode cX13_line 283 = .ok (.ifCond .eq 96, 3) := by decide +kernel
theorem dX13_line_286 : decode cX13_line 286 = .ok (.aload_n 0, 1) := by decide +kernel
theorem dX13_line_287 : decode cX13_line 287 = .ok (.getfield 224, 3) := by decide +kernel
theorem dX13_line_290 : decode cX13_line 290 = .ok (.ifCond .eq 8, 3) := by decide +kernel
theorem dX13_line_293 : decode cX13_line 293 = .ok (.aload_n 0, 1) := by decide +kernel
theorem dX13_line_294 : decode cX13_line 294 = .ok (.iconst 4, 1) := by decide +kernel
theorem dX13_line_295 : decode cX13_line 295 = .ok (.invokevirtual 198, 3) := by decide +kernel
theorem dX13_line_298 : decode cX13_line 298 = .ok (.aload_n 0, 1) := by decide +kernel
theorem dX13_line_299 : decode cX13_line 299 = .ok (.invokevirtual 191, 3) := by decide +kernel
theorem dX13_line_302 : decode cX13_line 302 = .ok (.ifCond .ne 4, 3) := by decide +kernel
theorem dX13_line_305 : decode cX13_line 305 = .ok (.return_, 1) := by decide +kernel
theorem dX13_line_306 : decode cX13_line 306 = .ok (.aload_n 0, 1) := by decide +kernel
theorem dX13_line_307 : decode cX13_line 307 = .ok (.iconst 1, 1) := by decide +kernel
theorem dX13_line_308 : decode cX13_line 308 = .ok (.putfield 224, 3) := by decide +kernel
theorem dX13_line_311 : decode cX13_line 311 = .ok (.aload_n 0, 1) := by decide +kernel
theorem dX13_line_312 : decode cX13_line 312 = .ok (.invokevirtual 195, 3) := by decide +kernel
theorem dX13_line_315 : decode cX13_line 315 = .ok (.aload_n 0, 1) := by decide +kernel
theorem dX13_line_316 : decode cX13_line 316 = .ok (.aload_n 0, 1) := by decide +kernel
theorem dX13_line_317 : decode cX13_line 317 = .ok (.bipush 12, 2) := by decide +kernel
theorem dX13_line_319 : decode cX13_line 319 = .ok (.invokevirtual 201, 3) := by decide +kernel
theorem dX13_line_322 : decode cX13_line 322 = .ok (.ifCond .eq 7, 3) := by decide +kernel
theorem dX13_line_325 : decode cX13_line 325 = .ok (.iconst 0, 1) := by decide +kernel
theorem dX13_line_326 : decode cX13_line 326 = .ok (.goto 30, 3) := by decide +kernel
theorem dX13_line_329 : decode cX13_line 329 = .ok (.aload_n 0, 1) := by decide +kernel
theorem dX13_line_330 : decode cX13_line 330 = .ok (.bipush 13, 2) := by decide +kernel
theorem dX13_line_332 : decode cX13_line 332 = .ok (.invokevirtual 201, 3) := by decide +kernel
theorem dX13_line_335 : decode cX13_line 335 = .ok (.ifCond .eq 7, 3) := by decide +kernel
theorem dX13_line_338 : decode cX13_line 338 = .ok (.iconst 1, 1) := by decide +kernel
theorem dX13_line_339 : decode cX13_line 339 = .ok (.goto 17, 3) := by decide +kernel
theorem dX13_line_342 : decode cX13_line 342 = .ok (.aload_n 0, 1) := by decide +kernel
theorem dX13_line_343 : decode cX13_line 343 = .ok (.bipush 14, 2) := by decide +kernel
theorem dX13_line_345 : decode cX13_line 345 = .ok (.invokevirtual 201, 3) := by decide +kernel
theorem dX13_line_348 : decode cX13_line 348 = .ok (.ifCond .eq 7, 3) := by decide +kernel
theorem dX13_line_351 : decode cX13_line 351 = .ok (.iconst 2, 1) := by decide +kernel
theorem dX13_line_352 : decode cX13_line 352 = .ok (.goto 4, 3) := by decide +kernel
theorem dX13_line_355 : decode cX13_line 355 = .ok (.iconst (-1), 1) := by decide +kernel
theorem dX13_line_356 : decode cX13_line 356 = .ok (.putfield 228, 3) := by decide +kernel
theorem dX13_line_359 : decode cX13_line 359 = .ok (.aload_n 0, 1) := by decide +kernel
theorem dX13_line_360 : decode cX13_line 360 = .ok (.aload_n 0, 1) := by decide +kernel
theorem dX13_line_361 : decode cX13_line 361 = .ok (.getfield 228, 3) := by decide +kernel
theorem dX13_line_364 : decode cX13_line 364 = .ok (.iconst (-1), 1) := by decide +kernel
theorem dX13_line_365 : decode cX13_line 365 = .ok (.if_icmp .eq 7, 3) := by decide +kernel
theorem dX13_line_368 : decode cX13_line 368 = .ok (.iconst 1, 1) := by decide +kernel
theorem dX13_line_369 : decode cX13_line 369 = .ok (.goto 4, 3) := by decide +kernel
theorem dX13_line_372 : decode cX13_line 372 = .ok (.iconst 0, 1) := by decide +kernel
theorem dX13_line_373 : decode cX13_line 373 = .ok (.invokevirtual 231, 3) := by decide +kernel
theorem dX13_line_376 : decode cX13_line 376 = .ok (.goto 8, 3) := by decide +kernel
theorem dX13_line_379 : decode cX13_line 379 = .ok (.aload_n 0, 1) := by decide +kernel
theorem dX13_line_380 : decode cX13_line 380 = .ok (.iconst 1, 1) := by decide +kernel
theorem dX13_line_381 : decode cX13_line 381 = .ok (.invokevirtual 198, 3) := by decide +kernel
theorem dX13_line_384 : decode cX13_line 384 = .ok (.aload_n 0, 1) := by decide +kernel
theorem dX13_line_385 : decode cX13_line 385 = .ok (.aload_n 0, 1) := by decide +kernel
theorem dX13_line_386 : decode cX13_line 386 = .ok (.getfield 165, 3) := by decide +kernel
theorem dX13_line_389 : decode cX13_line 389 = .ok (.iconst 4, 1) := by decide +kernel
theorem dX13_line_390 : decode cX13_line 390 = .ok (.if_icmp .ne 7, 3) := by decide +kernel
theorem dX13_line_393 : decode cX13_line 393 = .ok (.iconst 1, 1) := by decide +kernel
theorem dX13_line_394 : decode cX13_line 394 = .ok (.goto 4, 3) := by decide +kernel
theorem dX13_line_397 : decode cX13_line 397 = .ok (.iconst 0, 1) := by decide +kernel
theorem dX13_line_398 : decode cX13_line 398 = .ok (.invokevirtual 231, 3) := by decide +kernel
theorem dX13_line_401 : decode cX13_line 401 = .ok (.return_, 1) := by decide +kernel
theorem dX13_opens_0 : decode cX13_opens 0 = .ok (.aload_n 0, 1) := by decide +kernel
theorem dX13_opens_1 : decode cX13_opens 1 = .ok (.iconst 0, 1) := by decide +kernel
theorem dX13_opens_2 : decode cX13_opens 2 = .ok (.putfield 138, 3) := by decide +kernel
theorem dX13_opens_5 : decode cX13_opens 5 = .ok (.aload_n 0, 1) := by decide +kernel
theorem dX13_opens_6 : decode cX13_opens 6 = .ok (.iconst (-1), 1) := by decide +kernel
theorem dX13_opens_7 : decode cX13_opens 7 = .ok (.putfield 40, 3) := by decide +kernel
theorem dX13_opens_10 : decode cX13_opens 10 = .ok (.aload_n 0, 1) := by decide +kernel
theorem dX13_opens_11 : decode cX13_opens 11 = .ok (.iconst 0, 1) := by decide +kernel
theorem dX13_opens_12 : decode cX13_opens 12 = .ok (.putfield 188, 3) := by decide +kernel
theorem dX13_opens_15 : decode cX13_opens 15 = .ok (.aload_n 0, 1) := by decide +kernel
theorem dX13_opens_16 : decode cX13_opens 16 = .ok (.iload_n 1, 1) := by decide +kernel
theorem dX13_opens_17 : decode cX13_opens 17 = .ok (.putfield 145, 3) := by decide +kernel
theorem dX13_opens_20 : decode cX13_opens 20 = .ok (.aload_n 0, 1) := by decide +kernel
theorem dX13_opens_21 : decode cX13_opens 21 = .ok (.iconst 0, 1) := by decide +kernel
theorem dX13_opens_22 : decode cX13_opens 22 = .ok (.putfield 148, 3) := by decide +kernel
theorem dX13_opens_25 : decode cX13_opens 25 = .ok (.aload_n 0, 1) := by decide +kernel
theorem dX13_opens_26 : decode cX13_opens 26 = .ok (.invokevirtual 195, 3) := by decide +kernel
theorem dX13_opens_29 : decode cX13_opens 29 = .ok (.return_, 1) := by decide +kernel
theorem dX13_village_0 : decode cX13_village 0 = .ok (.aload_n 0, 1) := by decide +kernel
theorem dX13_village_1 : decode cX13_village 1 = .ok (.iconst 0, 1) := by decide +kernel
theorem dX13_village_2 : decode cX13_village 2 = .ok (.putfield 135, 3) := by decide +kernel
theorem dX13_village_5 : decode cX13_village 5 = .ok (.aload_n 0, 1) := by decide +kernel
theorem dX13_village_6 : decode cX13_village 6 = .ok (.iload_n 1, 1) := by decide +kernel
theorem dX13_village_7 : decode cX13_village 7 = .ok (.ifCond .lt 15, 3) := by decide +kernel
theorem dX13_village_10 : decode cX13_village 10 = .ok (.iload_n 1, 1) := by decide +kernel
theorem dX13_village_11 : decode cX13_village 11 = .ok (.aload_n 0, 1) := by decide +kernel
theorem dX13_village_12 : decode cX13_village 12 = .ok (.getfield 138, 3) := by decide +kernel
theorem dX13_village_15 : decode cX13_village 15 = .ok (.if_icmp .gt 7, 3) := by decide +kernel
theorem dX13_village_18 : decode cX13_village 18 = .ok (.iconst 1, 1) := by decide +kernel
theorem dX13_village_19 : decode cX13_village 19 = .ok (.goto 4, 3) := by decide +kernel
theorem dX13_village_22 : decode cX13_village 22 = .ok (.iconst 0, 1) := by decide +kernel
theorem dX13_village_23 : decode cX13_village 23 = .ok (.iconst 1, 1) := by decide +kernel
theorem dX13_village_24 : decode cX13_village 24 = .ok (.invokevirtual 235, 3) := by decide +kernel
theorem dX13_village_27 : decode cX13_village 27 = .ok (.ifCond .ne 5, 3) := by decide +kernel
theorem dX13_village_30 : decode cX13_village 30 = .ok (.iconst 0, 1) := by decide +kernel
theorem dX13_village_31 : decode cX13_village 31 = .ok (.ireturn, 1) := by decide +kernel
theorem dX13_village_32 : decode cX13_village 32 = .ok (.aload_n 0, 1) := by decide +kernel
theorem dX13_village_33 : decode cX13_village 33 = .ok (.iconst 0, 1) := by decide +kernel
theorem dX13_village_34 : decode cX13_village 34 = .ok (.putfield 204, 3) := by decide +kernel
theorem dX13_village_37 : decode cX13_village 37 = .ok (.aload_n 0, 1) := by decide +kernel
theorem dX13_village_38 : decode cX13_village 38 = .ok (.iconst 0, 1) := by decide +kernel
theorem dX13_village_39 : decode cX13_village 39 = .ok (.putfield 214, 3) := by decide +kernel
theorem dX13_village_42 : decode cX13_village 42 = .ok (.aload_n 0, 1) := by decide +kernel
theorem dX13_village_43 : decode cX13_village 43 = .ok (.iconst 0, 1) := by decide +kernel
theorem dX13_village_44 : decode cX13_village 44 = .ok (.putfield 228, 3) := by decide +kernel
theorem dX13_village_47 : decode cX13_village 47 = .ok (.aload_n 0, 1) := by decide +kernel
theorem dX13_village_48 : decode cX13_village 48 = .ok (.iconst 0, 1) := by decide +kernel
theorem dX13_village_49 : decode cX13_village 49 = .ok (.putfield 207, 3) := by decide +kernel
theorem dX13_village_52 : decode cX13_village 52 = .ok (.aload_n 0, 1) := by decide +kernel
theorem dX13_village_53 : decode cX13_village 53 = .ok (.iconst 0, 1) := by decide +kernel
theorem dX13_village_54 : decode cX13_village 54 = .ok (.putfield 224, 3) := by decide +kernel
theorem dX13_village_57 : decode cX13_village 57 = .ok (.aload_n 0, 1) := by decide +kernel
theorem dX13_village_58 : decode cX13_village 58 = .ok (.iload_n 1, 1) := by decide +kernel
theorem dX13_village_59 : decode cX13_village 59 = .ok (.invokevirtual 239, 3) := by decide +kernel
theorem dX13_village_62 : decode cX13_village 62 = .ok (.aload_n 0, 1) := by decide +kernel
theorem dX13_village_63 : decode cX13_village 63 = .ok (.invokevirtual 191, 3) := by decide +kernel
theorem dX13_village_66 : decode cX13_village 66 = .ok (.ifCond .eq 17, 3) := by decide +kernel
theorem dX13_village_69 : decode cX13_village 69 = .ok (.aload_n 0, 1) := by decide +kernel
theorem dX13_village_70 : decode cX13_village 70 = .ok (.getfield 165, 3) := by decide +kernel
theorem dX13_village_73 : decode cX13_village 73 = .ok (.ifCond .eq 10, 3) := by decide +kernel
theorem dX13_village_76 : decode cX13_village 76 = .ok (.aload_n 0, 1) := by decide +kernel
theorem dX13_village_77 : decode cX13_village 77 = .ok (.invokevirtual 242, 3) := by decide +kernel
theorem dX13_village_80 : decode cX13_village 80 = .ok (.goto (-18), 3) := by decide +kernel
theorem dX13_village_83 : decode cX13_village 83 = .ok (.aload_n 0, 1) := by decide +kernel
theorem dX13_village_84 : decode cX13_village 84 = .ok (.invokevirtual 191, 3) := by decide +kernel
theorem dX13_village_87 : decode cX13_village 87 = .ok (.ifCond .ne 18, 3) := by decide +kernel
theorem dX13_village_90 : decode cX13_village 90 = .ok (.aload_n 0, 1) := by decide +kernel
theorem dX13_village_91 : decode cX13_village 91 = .ok (.getfield 44, 3) := by decide +kernel
theorem dX13_village_94 : decode cX13_village 94 = .ok (.iconst 0, 1) := by decide +kernel
theorem dX13_village_95 : decode cX13_village 95 = .ok (.dup2, 1) := by decide +kernel
theorem dX13_village_96 : decode cX13_village 96 = .ok (.iaload, 1) := by decide +kernel
theorem dX13_village_97 : decode cX13_village 97 = .ok (.iconst 1, 1) := by decide +kernel
theorem dX13_village_98 : decode cX13_village 98 = .ok (.iadd, 1) := by decide +kernel
theorem dX13_village_99 : decode cX13_village 99 = .ok (.iastore, 1) := by decide +kernel
theorem dX13_village_100 : decode cX13_village 100 = .ok (.aload_n 0, 1) := by decide +kernel
theorem dX13_village_101 : decode cX13_village 101 = .ok (.getfield 188, 3) := by decide +kernel
theorem dX13_village_104 : decode cX13_village 104 = .ok (.ireturn, 1) := by decide +kernel
theorem dX13_village_105 : decode cX13_village 105 = .ok (.aload_n 0, 1) := by decide +kernel
theorem dX13_village_106 : decode cX13_village 106 = .ok (.aload_n 0, 1) := by decide +kernel
theorem dX13_village_107 : decode cX13_village 107 = .ok (.getfield 204, 3) := by decide +kernel
theorem dX13_village_110 : decode cX13_village 110 = .ok (.putfield 245, 3) := by decide +kernel
theorem dX13_village_113 : decode cX13_village 113 = .ok (.aload_n 0, 1) := by decide +kernel
theorem dX13_village_114 : decode cX13_village 114 = .ok (.aload_n 0, 1) := by decide +kernel
theorem dX13_village_115 : decode cX13_village 115 = .ok (.getfield 228, 3) := by decide +kernel
theorem dX13_village_118 : decode cX13_village 118 = .ok (.putfield 248, 3) := by decide +kernel
theorem dX13_village_121 : decode cX13_village 121 = .ok (.aload_n 0, 1) := by decide +kernel
theorem dX13_village_122 : decode cX13_village 122 = .ok (.aload_n 0, 1) := by decide +kernel
theorem dX13_village_123 : decode cX13_village 123 = .ok (.getfield 207, 3) := by decide +kernel
theorem dX13_village_126 : decode cX13_village 126 = .ok (.putfield 251, 3) := by decide +kernel
theorem dX13_village_129 : decode cX13_village 129 = .ok (.aload_n 0, 1) := by decide +kernel
theorem dX13_village_130 : decode cX13_village 130 = .ok (.aload_n 0, 1) := by decide +kernel
theorem dX13_village_131 : decode cX13_village 131 = .ok (.getfield 50, 3) := by decide +kernel
theorem dX13_village_134 : decode cX13_village 134 = .ok (.aload_n 0, 1) := by decide +kernel
theorem dX13_village_135 : decode cX13_village 135 = .ok (.getfield 7, 3) := by decide +kernel
theorem dX13_village_138 : decode cX13_village 138 = .ok (.invokevirtual 254, 3) := by decide +kernel
theorem dX13_village_141 : decode cX13_village 141 = .ok (.aload_n 0, 1) := by decide +kernel
theorem dX13_village_142 : decode cX13_village 142 = .ok (.aload_n 0, 1) := by decide +kernel
theorem dX13_village_143 : decode cX13_village 143 = .ok (.getfield 53, 3) := by decide +kernel
theorem dX13_village_146 : decode cX13_village 146 = .ok (.aload_n 0, 1) := by decide +kernel
theorem dX13_village_147 : decode cX13_village 147 = .ok (.getfield 13, 3) := by decide +kernel
theorem dX13_village_150 : decode cX13_village 150 = .ok (.invokevirtual 254, 3) := by decide +kernel
theorem dX13_village_153 : decode cX13_village 153 = .ok (.aload_n 0, 1) := by decide +kernel
theorem dX13_village_154 : decode cX13_village 154 = .ok (.aload_n 0, 1) := by decide +kernel
theorem dX13_village_155 : decode cX13_village 155 = .ok (.getfield 56, 3) := by decide +kernel
theorem dX13_village_158 : decode cX13_village 158 = .ok (.aload_n 0, 1) := by decide +kernel
theorem dX13_village_159 : decode cX13_village 159 = .ok (.getfield 25, 3) := by decide +kernel
theorem dX13_village_162 : decode cX13_village 162 = .ok (.invokevirtual 254, 3) := by decide +kernel
theorem dX13_village_165 : decode cX13_village 165 = .ok (.aload_n 0, 1) := by decide +kernel
theorem dX13_village_166 : decode cX13_village 166 = .ok (.aload_n 0, 1) := by decide +kernel
theorem dX13_village_167 : decode cX13_village 167 = .ok (.getfield 59, 3) := by decide +kernel
theorem dX13_village_170 : decode cX13_village 170 = .ok (.aload_n 0, 1) := by decide +kernel
theorem dX13_village_171 : decode cX13_village 171 = .ok (.getfield 28, 3) := by decide +kernel
theorem dX13_village_174 : decode cX13_village 174 = .ok (.invokevirtual 254, 3) := by decide +kernel
theorem dX13_village_177 : decode cX13_village 177 = .ok (.aload_n 0, 1) := by decide +kernel
theorem dX13_village_178 : decode cX13_village 178 = .ok (.aload_n 0, 1) := by decide +kernel
theorem dX13_village_179 : decode cX13_village 179 = .ok (.getfield 62, 3) := by decide +kernel
theorem dX13_village_182 : decode cX13_village 182 = .ok (.aload_n 0, 1) := by decide +kernel
theorem dX13_village_183 : decode cX13_village 183 = .ok (.getfield 31, 3) := by decide +kernel
theorem dX13_village_186 : decode cX13_village 186 = .ok (.invokevirtual 254, 3) := by decide +kernel
theorem dX13_village_189 : decode cX13_village 189 = .ok (.aload_n 0, 1) := by decide +kernel
theorem dX13_village_190 : decode cX13_village 190 = .ok (.aload_n 0, 1) := by decide +kernel
theorem dX13_village_191 : decode cX13_village 191 = .ok (.getfield 65, 3) := by decide +kernel
theorem dX13_village_194 : decode cX13_village 194 = .ok (.aload_n 0, 1) := by decide +kernel
theorem dX13_village_195 : decode cX13_village 195 = .ok (.getfield 34, 3) := by decide +kernel
theorem dX13_village_198 : decode cX13_village 198 = .ok (.invokevirtual 254, 3) := by decide +kernel
theorem dX13_village_201 : decode cX13_village 201 = .ok (.iconst 0, 1) := by decide +kernel
theorem dX13_village_202 : decode cX13_village 202 = .ok (.istore_n 2, 1) := by decide +kernel
theorem dX13_village_203 : decode cX13_village 203 = .ok (.iload_n 2, 1) := by decide +kernel
theorem dX13_village_204 : decode cX13_village 204 = .ok (.bipush 10, 2) := by decide +kernel
theorem dX13_village_206 : decode cX13_village 206 = .ok (.if_icmp .ge 28, 3) := by decide +kernel
theorem dX13_village_209 : decode cX13_village 209 = .ok (.aload_n 0, 1) := by decide +kernel
theorem dX13_village_210 : decode cX13_village 210 = .ok (.getfield 22, 3) := by decide +kernel
theorem dX13_village_213 : decode cX13_village 213 = .ok (.iload_n 2, 1) := by decide +kernel
theorem dX13_village_214 : decode cX13_village 214 = .ok (.iload_n 2, 1) := by decide +kernel
theorem dX13_village_215 : decode cX13_village 215 = .ok (.aload_n 0, 1) := by decide +kernel
theorem dX13_village_216 : decode cX13_village 216 = .ok (.getfield 214, 3) := by decide +kernel
theorem dX13_village_219 : decode cX13_village 219 = .ok (.if_icmp .ge 7, 3) := by decide +kernel
theorem dX13_village_222 : decode cX13_village 222 = .ok (.iconst 1, 1) := by decide +kernel
theorem dX13_village_223 : decode cX13_village 223 = .ok (.goto 4, 3) := by decide +kernel
theorem dX13_village_226 : decode cX13_village 226 = .ok (.iconst 0, 1) := by decide +kernel
theorem dX13_village_227 : decode cX13_village 227 = .ok (.iastore, 1) := by decide +kernel
theorem dX13_village_228 : decode cX13_village 228 = .ok (.iinc 2 1, 3) := by decide +kernel
theorem dX13_village_231 : decode cX13_village 231 = .ok (.goto (-28), 3) := by decide +kernel
theorem dX13_village_234 : decode cX13_village 234 = .ok (.aload_n 0, 1) := by decide +kernel
theorem dX13_village_235 : decode cX13_village 235 = .ok (.invokevirtual 258, 3) := by decide +kernel
theorem dX13_village_238 : decode cX13_village 238 = .ok (.aload_n 0, 1) := by decide +kernel
theorem dX13_village_239 : decode cX13_village 239 = .ok (.iconst 0, 1) := by decide +kernel
theorem dX13_village_240 : decode cX13_village 240 = .ok (.putfield 261, 3) := by decide +kernel
theorem dX13_village_243 : decode cX13_village 243 = .ok (.aload_n 0, 1) := by decide +kernel
theorem dX13_village_244 : decode cX13_village 244 = .ok (.iconst 0, 1) := by decide +kernel
theorem dX13_village_245 : decode cX13_village 245 = .ok (.putfield 264, 3) := by decide +kernel
theorem dX13_village_248 : decode cX13_village 248 = .ok (.iconst 0, 1) := by decide +kernel
theorem dX13_village_249 : decode cX13_village 249 = .ok (.ireturn, 1) := by decide +kernel
theorem dX13_clears_0 : decode cX13_clears 0 = .ok (.iconst 0, 1) := by decide +kernel
theorem dX13_clears_1 : decode cX13_clears 1 = .ok (.istore_n 1, 1) := by decide +kernel
theorem dX13_clears_2 : decode cX13_clears 2 = .ok (.iload_n 1, 1) := by decide +kernel
theorem dX13_clears_3 : decode cX13_clears 3 = .ok (.iconst 5, 1) := by decide +kernel
theorem dX13_clears_4 : decode cX13_clears 4 = .ok (.if_icmp .ge 16, 3) := by decide +kernel
theorem dX13_clears_7 : decode cX13_clears 7 = .ok (.aload_n 0, 1) := by decide +kernel
theorem dX13_clears_8 : decode cX13_clears 8 = .ok (.getfield 16, 3) := by decide +kernel
theorem dX13_clears_11 : decode cX13_clears 11 = .ok (.iload_n 1, 1) := by decide +kernel
theorem dX13_clears_12 : decode cX13_clears 12 = .ok (.iconst 0, 1) := by decide +kernel
theorem dX13_clears_13 : decode cX13_clears 13 = .ok (.iastore, 1) := by decide +kernel
theorem dX13_clears_14 : decode cX13_clears 14 = .ok (.iinc 1 1, 3) := by decide +kernel
theorem dX13_clears_17 : decode cX13_clears 17 = .ok (.goto (-15), 3) := by decide +kernel
theorem dX13_clears_20 : decode cX13_clears 20 = .ok (.iconst 0, 1) := by decide +kernel
theorem dX13_clears_21 : decode cX13_clears 21 = .ok (.istore_n 1, 1) := by decide +kernel
theorem dX13_clears_22 : decode cX13_clears 22 = .ok (.iload_n 1, 1) := by decide +kernel
theorem dX13_clears_23 : decode cX13_clears 23 = .ok (.bipush 25, 2) := by decide +kernel
theorem dX13_clears_25 : decode cX13_clears 25 = .ok (.if_icmp .ge 16, 3) := by decide +kernel
theorem dX13_clears_28 : decode cX13_clears 28 = .ok (.aload_n 0, 1) := by decide +kernel
theorem dX13_clears_29 : decode cX13_clears 29 = .ok (.getfield 19, 3) := by decide +kernel
theorem dX13_clears_32 : decode cX13_clears 32 = .ok (.iload_n 1, 1) := by decide +kernel
theorem dX13_clears_33 : decode cX13_clears 33 = .ok (.iconst 0, 1) := by decide +kernel
theorem dX13_clears_34 : decode cX13_clears 34 = .ok (.iastore, 1) := by decide +kernel
theorem dX13_clears_35 : decode cX13_clears 35 = .ok (.iinc 1 1, 3) := by decide +kernel
theorem dX13_clears_38 : decode cX13_clears 38 = .ok (.goto (-16), 3) := by decide +kernel
theorem dX13_clears_41 : decode cX13_clears 41 = .ok (.return_, 1) := by decide +kernel
theorem dX13_fault_0 : decode cX13_fault 0 = .ok (.aload_n 0, 1) := by decide +kernel
theorem dX13_fault_1 : decode cX13_fault 1 = .ok (.iconst 0, 1) := by decide +kernel
theorem dX13_fault_2 : decode cX13_fault 2 = .ok (.putfield 135, 3) := by decide +kernel
theorem dX13_fault_5 : decode cX13_fault 5 = .ok (.aload_n 0, 1) := by decide +kernel
theorem dX13_fault_6 : decode cX13_fault 6 = .ok (.getfield 40, 3) := by decide +kernel
theorem dX13_fault_9 : decode cX13_fault 9 = .ok (.ireturn, 1) := by decide +kernel
theorem dX13_readsDay_0 : decode cX13_readsDay 0 = .ok (.iconst (-1), 1) := by decide +kernel
theorem dX13_readsDay_1 : decode cX13_readsDay 1 = .ok (.istore_n 1, 1) := by decide +kernel
theorem dX13_readsDay_2 : decode cX13_readsDay 2 = .ok (.iconst 0, 1) := by decide +kernel
theorem dX13_readsDay_3 : decode cX13_readsDay 3 = .ok (.istore_n 2, 1) := by decide +kernel
theorem dX13_readsDay_4 : decode cX13_readsDay 4 = .ok (.iload_n 2, 1) := by decide +kernel
theorem dX13_readsDay_5 : decode cX13_readsDay 5 = .ok (.bipush 7, 2) := by decide +kernel
theorem dX13_readsDay_7 : decode cX13_readsDay 7 = .ok (.if_icmp .gt 19, 3) := by decide +kernel
theorem dX13_readsDay_10 : decode cX13_readsDay 10 = .ok (.aload_n 0, 1) := by decide +kernel
theorem dX13_readsDay_11 : decode cX13_readsDay 11 = .ok (.iload_n 2, 1) := by decide +kernel
theorem dX13_readsDay_12 : decode cX13_readsDay 12 = .ok (.invokevirtual 201, 3) := by decide +kernel
theorem dX13_readsDay_15 : decode cX13_readsDay 15 = .ok (.ifCond .eq 5, 3) := by decide +kernel
theorem dX13_readsDay_18 : decode cX13_readsDay 18 = .ok (.iload_n 2, 1) := by decide +kernel
theorem dX13_readsDay_19 : decode cX13_readsDay 19 = .ok (.istore_n 1, 1) := by decide +kernel
theorem dX13_readsDay_20 : decode cX13_readsDay 20 = .ok (.iinc 2 1, 3) := by decide +kernel
theorem dX13_readsDay_23 : decode cX13_readsDay 23 = .ok (.goto (-19), 3) := by decide +kernel
theorem dX13_readsDay_26 : decode cX13_readsDay 26 = .ok (.aload_n 0, 1) := by decide +kernel
theorem dX13_readsDay_27 : decode cX13_readsDay 27 = .ok (.iload_n 1, 1) := by decide +kernel
theorem dX13_readsDay_28 : decode cX13_readsDay 28 = .ok (.iconst (-1), 1) := by decide +kernel
theorem dX13_readsDay_29 : decode cX13_readsDay 29 = .ok (.if_icmp .eq 7, 3) := by decide +kernel
theorem dX13_readsDay_32 : decode cX13_readsDay 32 = .ok (.iconst 1, 1) := by decide +kernel
theorem dX13_readsDay_33 : decode cX13_readsDay 33 = .ok (.goto 4, 3) := by decide +kernel
theorem dX13_readsDay_36 : decode cX13_readsDay 36 = .ok (.iconst 0, 1) := by decide +kernel
theorem dX13_readsDay_37 : decode cX13_readsDay 37 = .ok (.invokevirtual 231, 3) := by decide +kernel
theorem dX13_readsDay_40 : decode cX13_readsDay 40 = .ok (.iconst 5, 1) := by decide +kernel
theorem dX13_readsDay_41 : decode cX13_readsDay 41 = .ok (.aload_n 0, 1) := by decide +kernel
theorem dX13_readsDay_42 : decode cX13_readsDay 42 = .ok (.getfield 267, 3) := by decide +kernel
theorem dX13_readsDay_45 : decode cX13_readsDay 45 = .ok (.imul, 1) := by decide +kernel
theorem dX13_readsDay_46 : decode cX13_readsDay 46 = .ok (.istore_n 2, 1) := by decide +kernel
theorem dX13_readsDay_47 : decode cX13_readsDay 47 = .ok (.aload_n 0, 1) := by decide +kernel
theorem dX13_readsDay_48 : decode cX13_readsDay 48 = .ok (.getfield 68, 3) := by decide +kernel
theorem dX13_readsDay_51 : decode cX13_readsDay 51 = .ok (.iload_n 2, 1) := by decide +kernel
theorem dX13_readsDay_52 : decode cX13_readsDay 52 = .ok (.iload_n 1, 1) := by decide +kernel
theorem dX13_readsDay_53 : decode cX13_readsDay 53 = .ok (.iastore, 1) := by decide +kernel
theorem dX13_readsDay_54 : decode cX13_readsDay 54 = .ok (.aload_n 0, 1) := by decide +kernel
theorem dX13_readsDay_55 : decode cX13_readsDay 55 = .ok (.getfield 68, 3) := by decide +kernel
theorem dX13_readsDay_58 : decode cX13_readsDay 58 = .ok (.iload_n 2, 1) := by decide +kernel
theorem dX13_readsDay_59 : decode cX13_readsDay 59 = .ok (.iconst 1, 1) := by decide +kernel
theorem dX13_readsDay_60 : decode cX13_readsDay 60 = .ok (.iadd, 1) := by decide +kernel
theorem dX13_readsDay_61 : decode cX13_readsDay 61 = .ok (.iconst 0, 1) := by decide +kernel
theorem dX13_readsDay_62 : decode cX13_readsDay 62 = .ok (.iastore, 1) := by decide +kernel
theorem dX13_readsDay_63 : decode cX13_readsDay 63 = .ok (.aload_n 0, 1) := by decide +kernel
theorem dX13_readsDay_64 : decode cX13_readsDay 64 = .ok (.getfield 68, 3) := by decide +kernel
theorem dX13_readsDay_67 : decode cX13_readsDay 67 = .ok (.iload_n 2, 1) := by decide +kernel
theorem dX13_readsDay_68 : decode cX13_readsDay 68 = .ok (.iconst 2, 1) := by decide +kernel
theorem dX13_readsDay_69 : decode cX13_readsDay 69 = .ok (.iadd, 1) := by decide +kernel
theorem dX13_readsDay_70 : decode cX13_readsDay 70 = .ok (.iconst 0, 1) := by decide +kernel
theorem dX13_readsDay_71 : decode cX13_readsDay 71 = .ok (.iastore, 1) := by decide +kernel
theorem dX13_readsDay_72 : decode cX13_readsDay 72 = .ok (.aload_n 0, 1) := by decide +kernel
theorem dX13_readsDay_73 : decode cX13_readsDay 73 = .ok (.getfield 68, 3) := by decide +kernel
theorem dX13_readsDay_76 : decode cX13_readsDay 76 = .ok (.iload_n 2, 1) := by decide +kernel
theorem dX13_readsDay_77 : decode cX13_readsDay 77 = .ok (.iconst 3, 1) := by decide +kernel
theorem dX13_readsDay_78 : decode cX13_readsDay 78 = .ok (.iadd, 1) := by decide +kernel
theorem dX13_readsDay_79 : decode cX13_readsDay 79 = .ok (.iconst 0, 1) := by decide +kernel
theorem dX13_readsDay_80 : decode cX13_readsDay 80 = .ok (.iastore, 1) := by decide +kernel
theorem dX13_readsDay_81 : decode cX13_readsDay 81 = .ok (.aload_n 0, 1) := by decide +kernel
theorem dX13_readsDay_82 : decode cX13_readsDay 82 = .ok (.getfield 68, 3) := by decide +kernel
theorem dX13_readsDay_85 : decode cX13_readsDay 85 = .ok (.iload_n 2, 1) := by decide +kernel
theorem dX13_readsDay_86 : decode cX13_readsDay 86 = .ok (.iconst 4, 1) := by decide +kernel
theorem dX13_readsDay_87 : decode cX13_readsDay 87 = .ok (.iadd, 1) := by decide +kernel
theorem dX13_readsDay_88 : decode cX13_readsDay 88 = .ok (.iconst 0, 1) := by decide +kernel
theorem dX13_readsDay_89 : decode cX13_readsDay 89 = .ok (.iastore, 1) := by decide +kernel
theorem dX13_readsDay_90 : decode cX13_readsDay 90 = .ok (.iload_n 1, 1) := by decide +kernel
theorem dX13_readsDay_91 : decode cX13_readsDay 91 = .ok (.iconst 5, 1) := by decide +kernel
theorem dX13_readsDay_92 : decode cX13_readsDay 92 = .ok (.if_icmp .eq 9, 3) := by decide +kernel
theorem dX13_readsDay_95 : decode cX13_readsDay 95 = .ok (.iload_n 1, 1) := by decide +kernel
theorem dX13_readsDay_96 : decode cX13_readsDay 96 = .ok (.bipush 7, 2) := by decide +kernel
theorem dX13_readsDay_98 : decode cX13_readsDay 98 = .ok (.if_icmp .ne 49, 3) := by decide +kernel
theorem dX13_readsDay_101 : decode cX13_readsDay 101 = .ok (.aload_n 0, 1) := by decide +kernel
theorem dX13_readsDay_102 : decode cX13_readsDay 102 = .ok (.getfield 68, 3) := by decide +kernel
theorem dX13_readsDay_105 : decode cX13_readsDay 105 = .ok (.iload_n 2, 1) := by decide +kernel
theorem dX13_readsDay_106 : decode cX13_readsDay 106 = .ok (.iconst 1, 1) := by decide +kernel
theorem dX13_readsDay_107 : decode cX13_readsDay 107 = .ok (.iadd, 1) := by decide +kernel
theorem dX13_readsDay_108 : decode cX13_readsDay 108 = .ok (.aload_n 0, 1) := by decide +kernel
theorem dX13_readsDay_109 : decode cX13_readsDay 109 = .ok (.bipush 10, 2) := by decide +kernel
theorem dX13_readsDay_111 : decode cX13_readsDay 111 = .ok (.iconst (-1), 1) := by decide +kernel
theorem dX13_readsDay_112 : decode cX13_readsDay 112 = .ok (.invokevirtual 217, 3) := by decide +kernel
theorem dX13_readsDay_115 : decode cX13_readsDay 115 = .ok (.iastore, 1) := by decide +kernel
theorem dX13_readsDay_116 : decode cX13_readsDay 116 = .ok (.iload_n 1, 1) := by decide +kernel
theorem dX13_readsDay_117 : decode cX13_readsDay 117 = .ok (.bipush 7, 2) := by decide +kernel
theorem dX13_readsDay_119 : decode cX13_readsDay 119 = .ok (.if_icmp .ne 140, 3) := by decide +kernel
theorem dX13_readsDay_122 : decode cX13_readsDay 122 = .ok (.aload_n 0, 1) := by decide +kernel
theorem dX13_readsDay_123 : decode cX13_readsDay 123 = .ok (.getfield 68, 3) := by decide +kernel
theorem dX13_readsDay_126 : decode cX13_readsDay 126 = .ok (.iload_n 2, 1) := by decide +kernel
theorem dX13_readsDay_127 : decode cX13_readsDay 127 = .ok (.iconst 2, 1) := by decide +kernel
theorem dX13_readsDay_128 : decode cX13_readsDay 128 = .ok (.iadd, 1) := by decide +kernel
theorem dX13_readsDay_129 : decode cX13_readsDay 129 = .ok (.aload_n 0, 1) := by decide +kernel
theorem dX13_readsDay_130 : decode cX13_readsDay 130 = .ok (.bipush 10, 2) := by decide +kernel
theorem dX13_readsDay_132 : decode cX13_readsDay 132 = .ok (.aload_n 0, 1) := by decide +kernel
theorem dX13_readsDay_133 : decode cX13_readsDay 133 = .ok (.getfield 68, 3) := by decide +kernel
theorem dX13_readsDay_136 : decode cX13_readsDay 136 = .ok (.iload_n 2, 1) := by decide +kernel
theorem dX13_readsDay_137 : decode cX13_readsDay 137 = .ok (.iconst 1, 1) := by decide +kernel
theorem dX13_readsDay_138 : decode cX13_readsDay 138 = .ok (.iadd, 1) := by decide +kernel
theorem dX13_readsDay_139 : decode cX13_readsDay 139 = .ok (.iaload, 1) := by decide +kernel
theorem dX13_readsDay_140 : decode cX13_readsDay 140 = .ok (.invokevirtual 217, 3) := by decide +kernel
theorem dX13_readsDay_143 : decode cX13_readsDay 143 = .ok (.iastore, 1) := by decide +kernel
theorem dX13_readsDay_144 : decode cX13_readsDay 144 = .ok (.goto 115, 3) := by decide +kernel
theorem dX13_readsDay_147 : decode cX13_readsDay 147 = .ok (.iload_n 1, 1) := by decide +kernel
theorem dX13_readsDay_148 : decode cX13_readsDay 148 = .ok (.iconst 4, 1) := by decide +kernel
theorem dX13_readsDay_149 : decode cX13_readsDay 149 = .ok (.if_icmp .eq 110, 3) := by decide +kernel
theorem dX13_readsDay_152 : decode cX13_readsDay 152 = .ok (.aload_n 0, 1) := by decide +kernel
theorem dX13_readsDay_153 : decode cX13_readsDay 153 = .ok (.getfield 68, 3) := by decide +kernel
theorem dX13_readsDay_156 : decode cX13_readsDay 156 = .ok (.iload_n 2, 1) := by decide +kernel
theorem dX13_readsDay_157 : decode cX13_readsDay 157 = .ok (.iconst 1, 1) := by decide +kernel
theorem dX13_readsDay_158 : decode cX13_readsDay 158 = .ok (.iadd, 1) := by decide +kernel
theorem dX13_readsDay_159 : decode cX13_readsDay 159 = .ok (.aload_n 0, 1) := by decide +kernel
theorem dX13_readsDay_160 : decode cX13_readsDay 160 = .ok (.aload_n 0, 1) := by decide +kernel
theorem dX13_readsDay_161 : decode cX13_readsDay 161 = .ok (.getfield 245, 3) := by decide +kernel
theorem dX13_readsDay_164 : decode cX13_readsDay 164 = .ok (.iconst (-1), 1) := by decide +kernel
theorem dX13_readsDay_165 : decode cX13_readsDay 165 = .ok (.invokevirtual 217, 3) := by decide +kernel
theorem dX13_readsDay_168 : decode cX13_readsDay 168 = .ok (.iastore, 1) := by decide +kernel
theorem dX13_readsDay_169 : decode cX13_readsDay 169 = .ok (.iload_n 1, 1) := by decide +kernel
theorem dX13_readsDay_170 : decode cX13_readsDay 170 = .ok (.iconst 2, 1) := by decide +kernel
theorem dX13_readsDay_171 : decode cX13_readsDay 171 = .ok (.if_icmp .eq 9, 3) := by decide +kernel
theorem dX13_readsDay_174 : decode cX13_readsDay 174 = .ok (.iload_n 1, 1) := by decide +kernel
theorem dX13_readsDay_175 : decode cX13_readsDay 175 = .ok (.bipush 6, 2) := by decide +kernel
theorem dX13_readsDay_177 : decode cX13_readsDay 177 = .ok (.if_icmp .ne 27, 3) := by decide +kernel
theorem dX13_readsDay_180 : decode cX13_readsDay 180 = .ok (.aload_n 0, 1) := by decide +kernel
theorem dX13_readsDay_181 : decode cX13_readsDay 181 = .ok (.getfield 68, 3) := by decide +kernel
theorem dX13_readsDay_184 : decode cX13_readsDay 184 = .ok (.iload_n 2, 1) := by decide +kernel
theorem dX13_readsDay_185 : decode cX13_readsDay 185 = .ok (.iconst 2, 1) := by decide +kernel
theorem dX13_readsDay_186 : decode cX13_readsDay 186 = .ok (.iadd, 1) := by decide +kernel
theorem dX13_readsDay_187 : decode cX13_readsDay 187 = .ok (.aload_n 0, 1) := by decide +kernel
theorem dX13_readsDay_188 : decode cX13_readsDay 188 = .ok (.aload_n 0, 1) := by decide +kernel
theorem dX13_readsDay_189 : decode cX13_readsDay 189 = .ok (.getfield 245, 3) := by decide +kernel
theorem dX13_readsDay_192 : decode cX13_readsDay 192 = .ok (.aload_n 0, 1) := by decide +kernel
theorem dX13_readsDay_193 : decode cX13_readsDay 193 = .ok (.getfield 68, 3) := by decide +kernel
theorem dX13_readsDay_196 : decode cX13_readsDay 196 = .ok (.iload_n 2, 1) := by decide +kernel
theorem dX13_readsDay_197 : decode cX13_readsDay 197 = .ok (.iconst 1, 1) := by decide +kernel
theorem dX13_readsDay_198 : decode cX13_readsDay 198 = .ok (.iadd, 1) := by decide +kernel
theorem dX13_readsDay_199 : decode cX13_readsDay 199 = .ok (.iaload, 1) := by decide +kernel
theorem dX13_readsDay_200 : decode cX13_readsDay 200 = .ok (.invokevirtual 217, 3) := by decide +kernel
theorem dX13_readsDay_203 : decode cX13_readsDay 203 = .ok (.iastore, 1) := by decide +kernel
theorem dX13_readsDay_204 : decode cX13_readsDay 204 = .ok (.iload_n 1, 1) := by decide +kernel
theorem dX13_readsDay_205 : decode cX13_readsDay 205 = .ok (.bipush 6, 2) := by decide +kernel
theorem dX13_readsDay_207 : decode cX13_readsDay 207 = .ok (.if_icmp .ne 28, 3) := by decide +kernel
theorem dX13_readsDay_210 : decode cX13_readsDay 210 = .ok (.aload_n 0, 1) := by decide +kernel
theorem dX13_readsDay_211 : decode cX13_readsDay 211 = .ok (.getfield 68, 3) := by decide +kernel
theorem dX13_readsDay_214 : decode cX13_readsDay 214 = .ok (.iload_n 2, 1) := by decide +kernel
theorem dX13_readsDay_215 : decode cX13_readsDay 215 = .ok (.iconst 4, 1) := by decide +kernel
theorem dX13_readsDay_216 : decode cX13_readsDay 216 = .ok (.iadd, 1) := by decide +kernel
theorem dX13_readsDay_217 : decode cX13_readsDay 217 = .ok (.aload_n 0, 1) := by decide +kernel
theorem dX13_readsDay_218 : decode cX13_readsDay 218 = .ok (.aload_n 0, 1) := by decide +kernel
theorem dX13_readsDay_219 : decode cX13_readsDay 219 = .ok (.getfield 71, 3) := by decide +kernel
theorem dX13_readsDay_222 : decode cX13_readsDay 222 = .ok (.iconst 5, 1) := by decide +kernel
theorem dX13_readsDay_223 : decode cX13_readsDay 223 = .ok (.aload_n 0, 1) := by decide +kernel
theorem dX13_readsDay_224 : decode cX13_readsDay 224 = .ok (.getfield 267, 3) := by decide +kernel
theorem dX13_readsDay_227 : decode cX13_readsDay 227 = .ok (.imul, 1) := by decide +kernel
theorem dX13_readsDay_228 : decode cX13_readsDay 228 = .ok (.invokevirtual 220, 3) := by decide +kernel
theorem dX13_readsDay_231 : decode cX13_readsDay 231 = .ok (.iastore, 1) := by decide +kernel
theorem dX13_readsDay_232 : decode cX13_readsDay 232 = .ok (.goto 27, 3) := by decide +kernel
theorem dX13_readsDay_235 : decode cX13_readsDay 235 = .ok (.aload_n 0, 1) := by decide +kernel
theorem dX13_readsDay_236 : decode cX13_readsDay 236 = .ok (.getfield 68, 3) := by decide +kernel
theorem dX13_readsDay_239 : decode cX13_readsDay 239 = .ok (.iload_n 2, 1) := by decide +kernel
theorem dX13_readsDay_240 : decode cX13_readsDay 240 = .ok (.iconst 3, 1) := by decide +kernel
theorem dX13_readsDay_241 : decode cX13_readsDay 241 = .ok (.iadd, 1) := by decide +kernel
theorem dX13_readsDay_242 : decode cX13_readsDay 242 = .ok (.aload_n 0, 1) := by decide +kernel
theorem dX13_readsDay_243 : decode cX13_readsDay 243 = .ok (.iload_n 1, 1) := by decide +kernel
theorem dX13_readsDay_244 : decode cX13_readsDay 244 = .ok (.iconst 3, 1) := by decide +kernel
theorem dX13_readsDay_245 : decode cX13_readsDay 245 = .ok (.if_icmp .ne 7, 3) := by decide +kernel
theorem dX13_readsDay_248 : decode cX13_readsDay 248 = .ok (.iconst 0, 1) := by decide +kernel
theorem dX13_readsDay_249 : decode cX13_readsDay 249 = .ok (.goto 4, 3) := by decide +kernel
theorem dX13_readsDay_252 : decode cX13_readsDay 252 = .ok (.iconst 1, 1) := by decide +kernel
theorem dX13_readsDay_253 : decode cX13_readsDay 253 = .ok (.bipush 20, 2) := by decide +kernel
theorem dX13_readsDay_255 : decode cX13_readsDay 255 = .ok (.invokevirtual 210, 3) := by decide +kernel
theorem dX13_readsDay_258 : decode cX13_readsDay 258 = .ok (.iastore, 1) := by decide +kernel
theorem dX13_readsDay_259 : decode cX13_readsDay 259 = .ok (.aload_n 0, 1) := by decide +kernel
theorem dX13_readsDay_260 : decode cX13_readsDay 260 = .ok (.aload_n 0, 1) := by decide +kernel
theorem dX13_readsDay_261 : decode cX13_readsDay 261 = .ok (.getfield 165, 3) := by decide +kernel
theorem dX13_readsDay_264 : decode cX13_readsDay 264 = .ok (.iconst 4, 1) := by decide +kernel
theorem dX13_readsDay_265 : decode cX13_readsDay 265 = .ok (.if_icmp .ne 7, 3) := by decide +kernel
theorem dX13_readsDay_268 : decode cX13_readsDay 268 = .ok (.iconst 1, 1) := by decide +kernel
theorem dX13_readsDay_269 : decode cX13_readsDay 269 = .ok (.goto 4, 3) := by decide +kernel
theorem dX13_readsDay_272 : decode cX13_readsDay 272 = .ok (.iconst 0, 1) := by decide +kernel
theorem dX13_readsDay_273 : decode cX13_readsDay 273 = .ok (.invokevirtual 231, 3) := by decide +kernel
theorem dX13_readsDay_276 : decode cX13_readsDay 276 = .ok (.aload_n 0, 1) := by decide +kernel
theorem dX13_readsDay_277 : decode cX13_readsDay 277 = .ok (.invokevirtual 191, 3) := by decide +kernel
theorem dX13_readsDay_280 : decode cX13_readsDay 280 = .ok (.ifCond .eq 13, 3) := by decide +kernel
theorem dX13_readsDay_283 : decode cX13_readsDay 283 = .ok (.aload_n 0, 1) := by decide +kernel
theorem dX13_readsDay_284 : decode cX13_readsDay 284 = .ok (.dup, 1) := by decide +kernel
theorem dX13_readsDay_285 : decode cX13_readsDay 285 = .ok (.getfield 267, 3) := by decide +kernel
theorem dX13_readsDay_288 : decode cX13_readsDay 288 = .ok (.iconst 1, 1) := by decide +kernel
theorem dX13_readsDay_289 : decode cX13_readsDay 289 = .ok (.iadd, 1) := by decide +kernel
theorem dX13_readsDay_290 : decode cX13_readsDay 290 = .ok (.putfield 267, 3) := by decide +kernel
theorem dX13_readsDay_293 : decode cX13_readsDay 293 = .ok (.return_, 1) := by decide +kernel
theorem dX13_all_0 : decode cX13_all 0 = .ok (.iconst 0, 1) := by decide +kernel
theorem dX13_all_1 : decode cX13_all 1 = .ok (.istore_n 1, 1) := by decide +kernel
theorem dX13_all_2 : decode cX13_all 2 = .ok (.iconst 0, 1) := by decide +kernel
theorem dX13_all_3 : decode cX13_all 3 = .ok (.istore_n 2, 1) := by decide +kernel
theorem dX13_all_4 : decode cX13_all 4 = .ok (.iload_n 2, 1) := by decide +kernel
theorem dX13_all_5 : decode cX13_all 5 = .ok (.aload_n 0, 1) := by decide +kernel
theorem dX13_all_6 : decode cX13_all 6 = .ok (.getfield 245, 3) := by decide +kernel
theorem dX13_all_9 : decode cX13_all 9 = .ok (.if_icmp .ge 18, 3) := by decide +kernel
theorem dX13_all_12 : decode cX13_all 12 = .ok (.iload_n 1, 1) := by decide +kernel
theorem dX13_all_13 : decode cX13_all 13 = .ok (.aload_n 0, 1) := by decide +kernel
theorem dX13_all_14 : decode cX13_all 14 = .ok (.getfield 7, 3) := by decide +kernel
theorem dX13_all_17 : decode cX13_all 17 = .ok (.iload_n 2, 1) := by decide +kernel
theorem dX13_all_18 : decode cX13_all 18 = .ok (.iaload, 1) := by decide +kernel
theorem dX13_all_19 : decode cX13_all 19 = .ok (.iadd, 1) := by decide +kernel
theorem dX13_all_20 : decode cX13_all 20 = .ok (.istore_n 1, 1) := by decide +kernel
theorem dX13_all_21 : decode cX13_all 21 = .ok (.iinc 2 1, 3) := by decide +kernel
theorem dX13_all_24 : decode cX13_all 24 = .ok (.goto (-20), 3) := by decide +kernel
theorem dX13_all_27 : decode cX13_all 27 = .ok (.iload_n 1, 1) := by decide +kernel
theorem dX13_all_28 : decode cX13_all 28 = .ok (.ireturn, 1) := by decide +kernel
theorem dX13_lentBy_0 : decode cX13_lentBy 0 = .ok (.iconst 0, 1) := by decide +kernel
theorem dX13_lentBy_1 : decode cX13_lentBy 1 = .ok (.istore_n 2, 1) := by decide +kernel
theorem dX13_lentBy_2 : decode cX13_lentBy 2 = .ok (.iconst 0, 1) := by decide +kernel
theorem dX13_lentBy_3 : decode cX13_lentBy 3 = .ok (.istore_n 3, 1) := by decide +kernel
theorem dX13_lentBy_4 : decode cX13_lentBy 4 = .ok (.iload_n 3, 1) := by decide +kernel
theorem dX13_lentBy_5 : decode cX13_lentBy 5 = .ok (.iconst 5, 1) := by decide +kernel
theorem dX13_lentBy_6 : decode cX13_lentBy 6 = .ok (.if_icmp .ge 22, 3) := by decide +kernel
theorem dX13_lentBy_9 : decode cX13_lentBy 9 = .ok (.iload_n 2, 1) := by decide +kernel
theorem dX13_lentBy_10 : decode cX13_lentBy 10 = .ok (.aload_n 0, 1) := by decide +kernel
theorem dX13_lentBy_11 : decode cX13_lentBy 11 = .ok (.getfield 19, 3) := by decide +kernel
theorem dX13_lentBy_14 : decode cX13_lentBy 14 = .ok (.iconst 5, 1) := by decide +kernel
theorem dX13_lentBy_15 : decode cX13_lentBy 15 = .ok (.iload_n 1, 1) := by decide +kernel
theorem dX13_lentBy_16 : decode cX13_lentBy 16 = .ok (.imul, 1) := by decide +kernel
theorem dX13_lentBy_17 : decode cX13_lentBy 17 = .ok (.iload_n 3, 1) := by decide +kernel
theorem dX13_lentBy_18 : decode cX13_lentBy 18 = .ok (.iadd, 1) := by decide +kernel
theorem dX13_lentBy_19 : decode cX13_lentBy 19 = .ok (.iaload, 1) := by decide +kernel
theorem dX13_lentBy_20 : decode cX13_lentBy 20 = .ok (.iadd, 1) := by decide +kernel
