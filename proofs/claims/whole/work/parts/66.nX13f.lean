theorem dX13_voids_124 : decode cX13_voids 124 = .ok (.aload_n 0, 1) := by decide +kernel
theorem dX13_voids_125 : decode cX13_voids 125 = .ok (.getfield 251, 3) := by decide +kernel
theorem dX13_voids_128 : decode cX13_voids 128 = .ok (.iload_n 3, 1) := by decide +kernel
theorem dX13_voids_129 : decode cX13_voids 129 = .ok (.isub, 1) := by decide +kernel
theorem dX13_voids_130 : decode cX13_voids 130 = .ok (.goto 5, 3) := by decide +kernel
theorem dX13_voids_133 : decode cX13_voids 133 = .ok (.iload 4, 2) := by decide +kernel
theorem dX13_voids_135 : decode cX13_voids 135 = .ok (.ireturn, 1) := by decide +kernel
theorem dX13_voids_136 : decode cX13_voids 136 = .ok (.iinc 3 (-1), 3) := by decide +kernel
theorem dX13_voids_139 : decode cX13_voids 139 = .ok (.goto (-86), 3) := by decide +kernel
theorem dX13_voids_142 : decode cX13_voids 142 = .ok (.iconst (-1), 1) := by decide +kernel
theorem dX13_voids_143 : decode cX13_voids 143 = .ok (.ireturn, 1) := by decide +kernel
theorem dX13_meanOf_0 : decode cX13_meanOf 0 = .ok (.iconst 0, 1) := by decide +kernel
theorem dX13_meanOf_1 : decode cX13_meanOf 1 = .ok (.istore 5, 2) := by decide +kernel
theorem dX13_meanOf_3 : decode cX13_meanOf 3 = .ok (.iload 5, 2) := by decide +kernel
theorem dX13_meanOf_5 : decode cX13_meanOf 5 = .ok (.bipush 62, 2) := by decide +kernel
theorem dX13_meanOf_7 : decode cX13_meanOf 7 = .ok (.if_icmp .ge 30, 3) := by decide +kernel
theorem dX13_meanOf_10 : decode cX13_meanOf 10 = .ok (.aload_n 0, 1) := by decide +kernel
theorem dX13_meanOf_11 : decode cX13_meanOf 11 = .ok (.getfield 98, 3) := by decide +kernel
theorem dX13_meanOf_14 : decode cX13_meanOf 14 = .ok (.iload 5, 2) := by decide +kernel
theorem dX13_meanOf_16 : decode cX13_meanOf 16 = .ok (.iload 5, 2) := by decide +kernel
theorem dX13_meanOf_18 : decode cX13_meanOf 18 = .ok (.aload_n 0, 1) := by decide +kernel
theorem dX13_meanOf_19 : decode cX13_meanOf 19 = .ok (.getfield 251, 3) := by decide +kernel
theorem dX13_meanOf_22 : decode cX13_meanOf 22 = .ok (.if_icmp .ne 7, 3) := by decide +kernel
theorem dX13_meanOf_25 : decode cX13_meanOf 25 = .ok (.lconst 1, 1) := by decide +kernel
theorem dX13_meanOf_26 : decode cX13_meanOf 26 = .ok (.goto 4, 3) := by decide +kernel
theorem dX13_meanOf_29 : decode cX13_meanOf 29 = .ok (.lconst 0, 1) := by decide +kernel
theorem dX13_meanOf_30 : decode cX13_meanOf 30 = .ok (.lastore, 1) := by decide +kernel
theorem dX13_meanOf_31 : decode cX13_meanOf 31 = .ok (.iinc 5 1, 3) := by decide +kernel
theorem dX13_meanOf_34 : decode cX13_meanOf 34 = .ok (.goto (-31), 3) := by decide +kernel
theorem dX13_meanOf_37 : decode cX13_meanOf 37 = .ok (.lconst 1, 1) := by decide +kernel
theorem dX13_meanOf_38 : decode cX13_meanOf 38 = .ok (.lstore 5, 2) := by decide +kernel
theorem dX13_meanOf_40 : decode cX13_meanOf 40 = .ok (.iconst 0, 1) := by decide +kernel
theorem dX13_meanOf_41 : decode cX13_meanOf 41 = .ok (.istore 7, 2) := by decide +kernel
theorem dX13_meanOf_43 : decode cX13_meanOf 43 = .ok (.iload 7, 2) := by decide +kernel
theorem dX13_meanOf_45 : decode cX13_meanOf 45 = .ok (.iload_n 2, 1) := by decide +kernel
theorem dX13_meanOf_46 : decode cX13_meanOf 46 = .ok (.if_icmp .ge 167, 3) := by decide +kernel
theorem dX13_meanOf_49 : decode cX13_meanOf 49 = .ok (.iconst 0, 1) := by decide +kernel
theorem dX13_meanOf_50 : decode cX13_meanOf 50 = .ok (.istore 8, 2) := by decide +kernel
theorem dX13_meanOf_52 : decode cX13_meanOf 52 = .ok (.iload 8, 2) := by decide +kernel
theorem dX13_meanOf_54 : decode cX13_meanOf 54 = .ok (.bipush 62, 2) := by decide +kernel
theorem dX13_meanOf_56 : decode cX13_meanOf 56 = .ok (.if_icmp .ge 17, 3) := by decide +kernel
theorem dX13_meanOf_59 : decode cX13_meanOf 59 = .ok (.aload_n 0, 1) := by decide +kernel
theorem dX13_meanOf_60 : decode cX13_meanOf 60 = .ok (.getfield 102, 3) := by decide +kernel
theorem dX13_meanOf_63 : decode cX13_meanOf 63 = .ok (.iload 8, 2) := by decide +kernel
theorem dX13_meanOf_65 : decode cX13_meanOf 65 = .ok (.lconst 0, 1) := by decide +kernel
theorem dX13_meanOf_66 : decode cX13_meanOf 66 = .ok (.lastore, 1) := by decide +kernel
theorem dX13_meanOf_67 : decode cX13_meanOf 67 = .ok (.iinc 8 1, 3) := by decide +kernel
theorem dX13_meanOf_70 : decode cX13_meanOf 70 = .ok (.goto (-18), 3) := by decide +kernel
theorem dX13_meanOf_73 : decode cX13_meanOf 73 = .ok (.iconst 0, 1) := by decide +kernel
theorem dX13_meanOf_74 : decode cX13_meanOf 74 = .ok (.istore 8, 2) := by decide +kernel
theorem dX13_meanOf_76 : decode cX13_meanOf 76 = .ok (.iload 8, 2) := by decide +kernel
theorem dX13_meanOf_78 : decode cX13_meanOf 78 = .ok (.bipush 61, 2) := by decide +kernel
theorem dX13_meanOf_80 : decode cX13_meanOf 80 = .ok (.if_icmp .ge 89, 3) := by decide +kernel
theorem dX13_meanOf_83 : decode cX13_meanOf 83 = .ok (.aload_n 0, 1) := by decide +kernel
theorem dX13_meanOf_84 : decode cX13_meanOf 84 = .ok (.getfield 102, 3) := by decide +kernel
theorem dX13_meanOf_87 : decode cX13_meanOf 87 = .ok (.iload 8, 2) := by decide +kernel
theorem dX13_meanOf_89 : decode cX13_meanOf 89 = .ok (.iconst 1, 1) := by decide +kernel
theorem dX13_meanOf_90 : decode cX13_meanOf 90 = .ok (.iadd, 1) := by decide +kernel
theorem dX13_meanOf_91 : decode cX13_meanOf 91 = .ok (.dup2, 1) := by decide +kernel
theorem dX13_meanOf_92 : decode cX13_meanOf 92 = .ok (.laload, 1) := by decide +kernel
theorem dX13_meanOf_93 : decode cX13_meanOf 93 = .ok (.aload_n 0, 1) := by decide +kernel
theorem dX13_meanOf_94 : decode cX13_meanOf 94 = .ok (.getfield 98, 3) := by decide +kernel
theorem dX13_meanOf_97 : decode cX13_meanOf 97 = .ok (.iload 8, 2) := by decide +kernel
theorem dX13_meanOf_99 : decode cX13_meanOf 99 = .ok (.laload, 1) := by decide +kernel
theorem dX13_meanOf_100 : decode cX13_meanOf 100 = .ok (.iload_n 3, 1) := by decide +kernel
theorem dX13_meanOf_101 : decode cX13_meanOf 101 = .ok (.i2l, 1) := by decide +kernel
theorem dX13_meanOf_102 : decode cX13_meanOf 102 = .ok (.lmul, 1) := by decide +kernel
theorem dX13_meanOf_103 : decode cX13_meanOf 103 = .ok (.ladd, 1) := by decide +kernel
theorem dX13_meanOf_104 : decode cX13_meanOf 104 = .ok (.lastore, 1) := by decide +kernel
theorem dX13_meanOf_105 : decode cX13_meanOf 105 = .ok (.aload_n 0, 1) := by decide +kernel
theorem dX13_meanOf_106 : decode cX13_meanOf 106 = .ok (.getfield 102, 3) := by decide +kernel
theorem dX13_meanOf_109 : decode cX13_meanOf 109 = .ok (.iload 8, 2) := by decide +kernel
theorem dX13_meanOf_111 : decode cX13_meanOf 111 = .ok (.ifCond .le 10, 3) := by decide +kernel
theorem dX13_meanOf_114 : decode cX13_meanOf 114 = .ok (.iload 8, 2) := by decide +kernel
theorem dX13_meanOf_116 : decode cX13_meanOf 116 = .ok (.iconst 1, 1) := by decide +kernel
theorem dX13_meanOf_117 : decode cX13_meanOf 117 = .ok (.isub, 1) := by decide +kernel
theorem dX13_meanOf_118 : decode cX13_meanOf 118 = .ok (.goto 4, 3) := by decide +kernel
theorem dX13_meanOf_121 : decode cX13_meanOf 121 = .ok (.iconst 0, 1) := by decide +kernel
theorem dX13_meanOf_122 : decode cX13_meanOf 122 = .ok (.dup2, 1) := by decide +kernel
theorem dX13_meanOf_123 : decode cX13_meanOf 123 = .ok (.laload, 1) := by decide +kernel
theorem dX13_meanOf_124 : decode cX13_meanOf 124 = .ok (.aload_n 0, 1) := by decide +kernel
theorem dX13_meanOf_125 : decode cX13_meanOf 125 = .ok (.getfield 98, 3) := by decide +kernel
theorem dX13_meanOf_128 : decode cX13_meanOf 128 = .ok (.iload 8, 2) := by decide +kernel
theorem dX13_meanOf_130 : decode cX13_meanOf 130 = .ok (.laload, 1) := by decide +kernel
theorem dX13_meanOf_131 : decode cX13_meanOf 131 = .ok (.iload 4, 2) := by decide +kernel
theorem dX13_meanOf_133 : decode cX13_meanOf 133 = .ok (.i2l, 1) := by decide +kernel
theorem dX13_meanOf_134 : decode cX13_meanOf 134 = .ok (.lmul, 1) := by decide +kernel
theorem dX13_meanOf_135 : decode cX13_meanOf 135 = .ok (.ladd, 1) := by decide +kernel
theorem dX13_meanOf_136 : decode cX13_meanOf 136 = .ok (.lastore, 1) := by decide +kernel
theorem dX13_meanOf_137 : decode cX13_meanOf 137 = .ok (.aload_n 0, 1) := by decide +kernel
theorem dX13_meanOf_138 : decode cX13_meanOf 138 = .ok (.getfield 102, 3) := by decide +kernel
theorem dX13_meanOf_141 : decode cX13_meanOf 141 = .ok (.iload 8, 2) := by decide +kernel
theorem dX13_meanOf_143 : decode cX13_meanOf 143 = .ok (.dup2, 1) := by decide +kernel
theorem dX13_meanOf_144 : decode cX13_meanOf 144 = .ok (.laload, 1) := by decide +kernel
theorem dX13_meanOf_145 : decode cX13_meanOf 145 = .ok (.aload_n 0, 1) := by decide +kernel
theorem dX13_meanOf_146 : decode cX13_meanOf 146 = .ok (.getfield 98, 3) := by decide +kernel
theorem dX13_meanOf_149 : decode cX13_meanOf 149 = .ok (.iload 8, 2) := by decide +kernel
theorem dX13_meanOf_151 : decode cX13_meanOf 151 = .ok (.laload, 1) := by decide +kernel
theorem dX13_meanOf_152 : decode cX13_meanOf 152 = .ok (.bipush 10, 2) := by decide +kernel
theorem dX13_meanOf_154 : decode cX13_meanOf 154 = .ok (.iload_n 3, 1) := by decide +kernel
theorem dX13_meanOf_155 : decode cX13_meanOf 155 = .ok (.isub, 1) := by decide +kernel
theorem dX13_meanOf_156 : decode cX13_meanOf 156 = .ok (.iload 4, 2) := by decide +kernel
theorem dX13_meanOf_158 : decode cX13_meanOf 158 = .ok (.isub, 1) := by decide +kernel
theorem dX13_meanOf_159 : decode cX13_meanOf 159 = .ok (.i2l, 1) := by decide +kernel
theorem dX13_meanOf_160 : decode cX13_meanOf 160 = .ok (.lmul, 1) := by decide +kernel
theorem dX13_meanOf_161 : decode cX13_meanOf 161 = .ok (.ladd, 1) := by decide +kernel
theorem dX13_meanOf_162 : decode cX13_meanOf 162 = .ok (.lastore, 1) := by decide +kernel
theorem dX13_meanOf_163 : decode cX13_meanOf 163 = .ok (.iinc 8 1, 3) := by decide +kernel
theorem dX13_meanOf_166 : decode cX13_meanOf 166 = .ok (.goto (-90), 3) := by decide +kernel
theorem dX13_meanOf_169 : decode cX13_meanOf 169 = .ok (.iconst 0, 1) := by decide +kernel
theorem dX13_meanOf_170 : decode cX13_meanOf 170 = .ok (.istore 8, 2) := by decide +kernel
theorem dX13_meanOf_172 : decode cX13_meanOf 172 = .ok (.iload 8, 2) := by decide +kernel
theorem dX13_meanOf_174 : decode cX13_meanOf 174 = .ok (.bipush 62, 2) := by decide +kernel
theorem dX13_meanOf_176 : decode cX13_meanOf 176 = .ok (.if_icmp .ge 23, 3) := by decide +kernel
theorem dX13_meanOf_179 : decode cX13_meanOf 179 = .ok (.aload_n 0, 1) := by decide +kernel
theorem dX13_meanOf_180 : decode cX13_meanOf 180 = .ok (.getfield 98, 3) := by decide +kernel
theorem dX13_meanOf_183 : decode cX13_meanOf 183 = .ok (.iload 8, 2) := by decide +kernel
theorem dX13_meanOf_185 : decode cX13_meanOf 185 = .ok (.aload_n 0, 1) := by decide +kernel
theorem dX13_meanOf_186 : decode cX13_meanOf 186 = .ok (.getfield 102, 3) := by decide +kernel
theorem dX13_meanOf_189 : decode cX13_meanOf 189 = .ok (.iload 8, 2) := by decide +kernel
theorem dX13_meanOf_191 : decode cX13_meanOf 191 = .ok (.laload, 1) := by decide +kernel
theorem dX13_meanOf_192 : decode cX13_meanOf 192 = .ok (.lastore, 1) := by decide +kernel
theorem dX13_meanOf_193 : decode cX13_meanOf 193 = .ok (.iinc 8 1, 3) := by decide +kernel
theorem dX13_meanOf_196 : decode cX13_meanOf 196 = .ok (.goto (-24), 3) := by decide +kernel
theorem dX13_meanOf_199 : decode cX13_meanOf 199 = .ok (.lload 5, 2) := by decide +kernel
theorem dX13_meanOf_201 : decode cX13_meanOf 201 = .ok (.ldc2_w 362, 3) := by decide +kernel
theorem dX13_meanOf_204 : decode cX13_meanOf 204 = .ok (.lmul, 1) := by decide +kernel
theorem dX13_meanOf_205 : decode cX13_meanOf 205 = .ok (.lstore 5, 2) := by decide +kernel
theorem dX13_meanOf_207 : decode cX13_meanOf 207 = .ok (.iinc 7 1, 3) := by decide +kernel
theorem dX13_meanOf_210 : decode cX13_meanOf 210 = .ok (.goto (-167), 3) := by decide +kernel
theorem dX13_meanOf_213 : decode cX13_meanOf 213 = .ok (.lconst 0, 1) := by decide +kernel
theorem dX13_meanOf_214 : decode cX13_meanOf 214 = .ok (.lstore 7, 2) := by decide +kernel
theorem dX13_meanOf_216 : decode cX13_meanOf 216 = .ok (.iconst 0, 1) := by decide +kernel
theorem dX13_meanOf_217 : decode cX13_meanOf 217 = .ok (.istore 9, 2) := by decide +kernel
theorem dX13_meanOf_219 : decode cX13_meanOf 219 = .ok (.iload 9, 2) := by decide +kernel
theorem dX13_meanOf_221 : decode cX13_meanOf 221 = .ok (.bipush 62, 2) := by decide +kernel
theorem dX13_meanOf_223 : decode cX13_meanOf 223 = .ok (.if_icmp .ge 42, 3) := by decide +kernel
theorem dX13_meanOf_226 : decode cX13_meanOf 226 = .ok (.aload_n 0, 1) := by decide +kernel
theorem dX13_meanOf_227 : decode cX13_meanOf 227 = .ok (.getfield 98, 3) := by decide +kernel
theorem dX13_meanOf_230 : decode cX13_meanOf 230 = .ok (.iload 9, 2) := by decide +kernel
theorem dX13_meanOf_232 : decode cX13_meanOf 232 = .ok (.laload, 1) := by decide +kernel
theorem dX13_meanOf_233 : decode cX13_meanOf 233 = .ok (.lconst 0, 1) := by decide +kernel
theorem dX13_meanOf_234 : decode cX13_meanOf 234 = .ok (.lcmp, 1) := by decide +kernel
theorem dX13_meanOf_235 : decode cX13_meanOf 235 = .ok (.ifCond .le 24, 3) := by decide +kernel
theorem dX13_meanOf_238 : decode cX13_meanOf 238 = .ok (.lload 7, 2) := by decide +kernel
theorem dX13_meanOf_240 : decode cX13_meanOf 240 = .ok (.aload_n 0, 1) := by decide +kernel
theorem dX13_meanOf_241 : decode cX13_meanOf 241 = .ok (.getfield 98, 3) := by decide +kernel
theorem dX13_meanOf_244 : decode cX13_meanOf 244 = .ok (.iload 9, 2) := by decide +kernel
theorem dX13_meanOf_246 : decode cX13_meanOf 246 = .ok (.laload, 1) := by decide +kernel
theorem dX13_meanOf_247 : decode cX13_meanOf 247 = .ok (.aload_n 0, 1) := by decide +kernel
theorem dX13_meanOf_248 : decode cX13_meanOf 248 = .ok (.iload_n 1, 1) := by decide +kernel
theorem dX13_meanOf_249 : decode cX13_meanOf 249 = .ok (.iload 9, 2) := by decide +kernel
theorem dX13_meanOf_251 : decode cX13_meanOf 251 = .ok (.invokevirtual 294, 3) := by decide +kernel
theorem dX13_meanOf_254 : decode cX13_meanOf 254 = .ok (.i2l, 1) := by decide +kernel
theorem dX13_meanOf_255 : decode cX13_meanOf 255 = .ok (.lmul, 1) := by decide +kernel
theorem dX13_meanOf_256 : decode cX13_meanOf 256 = .ok (.ladd, 1) := by decide +kernel
theorem dX13_meanOf_257 : decode cX13_meanOf 257 = .ok (.lstore 7, 2) := by decide +kernel
theorem dX13_meanOf_259 : decode cX13_meanOf 259 = .ok (.iinc 9 1, 3) := by decide +kernel
theorem dX13_meanOf_262 : decode cX13_meanOf 262 = .ok (.goto (-43), 3) := by decide +kernel
theorem dX13_meanOf_265 : decode cX13_meanOf 265 = .ok (.lload 7, 2) := by decide +kernel
theorem dX13_meanOf_267 : decode cX13_meanOf 267 = .ok (.lload 5, 2) := by decide +kernel
theorem dX13_meanOf_269 : decode cX13_meanOf 269 = .ok (.ldiv, 1) := by decide +kernel
theorem dX13_meanOf_270 : decode cX13_meanOf 270 = .ok (.l2i, 1) := by decide +kernel
theorem dX13_meanOf_271 : decode cX13_meanOf 271 = .ok (.ireturn, 1) := by decide +kernel
theorem dX13_isTenths_0 : decode cX13_isTenths 0 = .ok (.aload_n 0, 1) := by decide +kernel
theorem dX13_isTenths_1 : decode cX13_isTenths 1 = .ok (.iload_n 1, 1) := by decide +kernel
theorem dX13_isTenths_2 : decode cX13_isTenths 2 = .ok (.iconst 0, 1) := by decide +kernel
theorem dX13_isTenths_3 : decode cX13_isTenths 3 = .ok (.bipush 10, 2) := by decide +kernel
theorem dX13_isTenths_5 : decode cX13_isTenths 5 = .ok (.invokestatic 290, 3) := by decide +kernel
theorem dX13_isTenths_8 : decode cX13_isTenths 8 = .ok (.ifCond .eq 25, 3) := by decide +kernel
theorem dX13_isTenths_11 : decode cX13_isTenths 11 = .ok (.iload_n 2, 1) := by decide +kernel
theorem dX13_isTenths_12 : decode cX13_isTenths 12 = .ok (.iconst 0, 1) := by decide +kernel
theorem dX13_isTenths_13 : decode cX13_isTenths 13 = .ok (.bipush 10, 2) := by decide +kernel
theorem dX13_isTenths_15 : decode cX13_isTenths 15 = .ok (.invokestatic 290, 3) := by decide +kernel
theorem dX13_isTenths_18 : decode cX13_isTenths 18 = .ok (.ifCond .eq 15, 3) := by decide +kernel
theorem dX13_isTenths_21 : decode cX13_isTenths 21 = .ok (.iload_n 1, 1) := by decide +kernel
theorem dX13_isTenths_22 : decode cX13_isTenths 22 = .ok (.iload_n 2, 1) := by decide +kernel
theorem dX13_isTenths_23 : decode cX13_isTenths 23 = .ok (.iadd, 1) := by decide +kernel
theorem dX13_isTenths_24 : decode cX13_isTenths 24 = .ok (.bipush 10, 2) := by decide +kernel
theorem dX13_isTenths_26 : decode cX13_isTenths 26 = .ok (.if_icmp .gt 7, 3) := by decide +kernel
theorem dX13_isTenths_29 : decode cX13_isTenths 29 = .ok (.iconst 1, 1) := by decide +kernel
theorem dX13_isTenths_30 : decode cX13_isTenths 30 = .ok (.goto 4, 3) := by decide +kernel
theorem dX13_isTenths_33 : decode cX13_isTenths 33 = .ok (.iconst 0, 1) := by decide +kernel
theorem dX13_isTenths_34 : decode cX13_isTenths 34 = .ok (.iconst 2, 1) := by decide +kernel
theorem dX13_isTenths_35 : decode cX13_isTenths 35 = .ok (.invokevirtual 235, 3) := by decide +kernel
theorem dX13_isTenths_38 : decode cX13_isTenths 38 = .ok (.ireturn, 1) := by decide +kernel
theorem dX13_mean_0 : decode cX13_mean 0 = .ok (.aload_n 0, 1) := by decide +kernel
theorem dX13_mean_1 : decode cX13_mean 1 = .ok (.iconst 0, 1) := by decide +kernel
theorem dX13_mean_2 : decode cX13_mean 2 = .ok (.putfield 135, 3) := by decide +kernel
theorem dX13_mean_5 : decode cX13_mean 5 = .ok (.aload_n 0, 1) := by decide +kernel
theorem dX13_mean_6 : decode cX13_mean 6 = .ok (.iload_n 1, 1) := by decide +kernel
theorem dX13_mean_7 : decode cX13_mean 7 = .ok (.invokevirtual 312, 3) := by decide +kernel
theorem dX13_mean_10 : decode cX13_mean 10 = .ok (.ifCond .eq 28, 3) := by decide +kernel
theorem dX13_mean_13 : decode cX13_mean 13 = .ok (.aload_n 0, 1) := by decide +kernel
theorem dX13_mean_14 : decode cX13_mean 14 = .ok (.iload_n 2, 1) := by decide +kernel
theorem dX13_mean_15 : decode cX13_mean 15 = .ok (.iconst 0, 1) := by decide +kernel
theorem dX13_mean_16 : decode cX13_mean 16 = .ok (.bipush 8, 2) := by decide +kernel
theorem dX13_mean_18 : decode cX13_mean 18 = .ok (.invokestatic 290, 3) := by decide +kernel
theorem dX13_mean_21 : decode cX13_mean 21 = .ok (.iconst 2, 1) := by decide +kernel
theorem dX13_mean_22 : decode cX13_mean 22 = .ok (.invokevirtual 235, 3) := by decide +kernel
theorem dX13_mean_25 : decode cX13_mean 25 = .ok (.ifCond .eq 13, 3) := by decide +kernel
theorem dX13_mean_28 : decode cX13_mean 28 = .ok (.aload_n 0, 1) := by decide +kernel
theorem dX13_mean_29 : decode cX13_mean 29 = .ok (.iload_n 3, 1) := by decide +kernel
theorem dX13_mean_30 : decode cX13_mean 30 = .ok (.iload 4, 2) := by decide +kernel
theorem dX13_mean_32 : decode cX13_mean 32 = .ok (.invokevirtual 364, 3) := by decide +kernel
theorem dX13_mean_35 : decode cX13_mean 35 = .ok (.ifCond .ne 5, 3) := by decide +kernel
theorem dX13_mean_38 : decode cX13_mean 38 = .ok (.iconst 0, 1) := by decide +kernel
theorem dX13_mean_39 : decode cX13_mean 39 = .ok (.ireturn, 1) := by decide +kernel
theorem dX13_mean_40 : decode cX13_mean 40 = .ok (.aload_n 0, 1) := by decide +kernel
theorem dX13_mean_41 : decode cX13_mean 41 = .ok (.iload_n 1, 1) := by decide +kernel
theorem dX13_mean_42 : decode cX13_mean 42 = .ok (.iload_n 2, 1) := by decide +kernel
theorem dX13_mean_43 : decode cX13_mean 43 = .ok (.iload_n 3, 1) := by decide +kernel
theorem dX13_mean_44 : decode cX13_mean 44 = .ok (.iload 4, 2) := by decide +kernel
theorem dX13_mean_46 : decode cX13_mean 46 = .ok (.invokevirtual 367, 3) := by decide +kernel
theorem dX13_mean_49 : decode cX13_mean 49 = .ok (.ireturn, 1) := by decide +kernel
theorem dX13_pay_0 : decode cX13_pay 0 = .ok (.aload_n 0, 1) := by decide +kernel
theorem dX13_pay_1 : decode cX13_pay 1 = .ok (.iconst 0, 1) := by decide +kernel
theorem dX13_pay_2 : decode cX13_pay 2 = .ok (.putfield 135, 3) := by decide +kernel
theorem dX13_pay_5 : decode cX13_pay 5 = .ok (.aload_n 0, 1) := by decide +kernel
theorem dX13_pay_6 : decode cX13_pay 6 = .ok (.iload_n 1, 1) := by decide +kernel
theorem dX13_pay_7 : decode cX13_pay 7 = .ok (.invokevirtual 312, 3) := by decide +kernel
theorem dX13_pay_10 : decode cX13_pay 10 = .ok (.ifCond .eq 12, 3) := by decide +kernel
theorem dX13_pay_13 : decode cX13_pay 13 = .ok (.aload_n 0, 1) := by decide +kernel
theorem dX13_pay_14 : decode cX13_pay 14 = .ok (.iload_n 2, 1) := by decide +kernel
theorem dX13_pay_15 : decode cX13_pay 15 = .ok (.iload_n 3, 1) := by decide +kernel
theorem dX13_pay_16 : decode cX13_pay 16 = .ok (.invokevirtual 364, 3) := by decide +kernel
theorem dX13_pay_19 : decode cX13_pay 19 = .ok (.ifCond .ne 5, 3) := by decide +kernel
theorem dX13_pay_22 : decode cX13_pay 22 = .ok (.iconst 0, 1) := by decide +kernel
theorem dX13_pay_23 : decode cX13_pay 23 = .ok (.ireturn, 1) := by decide +kernel
theorem dX13_pay_24 : decode cX13_pay 24 = .ok (.iconst 0, 1) := by decide +kernel
theorem dX13_pay_25 : decode cX13_pay 25 = .ok (.istore 4, 2) := by decide +kernel
theorem dX13_pay_27 : decode cX13_pay 27 = .ok (.aload_n 0, 1) := by decide +kernel
theorem dX13_pay_28 : decode cX13_pay 28 = .ok (.iload_n 1, 1) := by decide +kernel
theorem dX13_pay_29 : decode cX13_pay 29 = .ok (.iconst 0, 1) := by decide +kernel
theorem dX13_pay_30 : decode cX13_pay 30 = .ok (.iload_n 2, 1) := by decide +kernel
theorem dX13_pay_31 : decode cX13_pay 31 = .ok (.iload_n 3, 1) := by decide +kernel
theorem dX13_pay_32 : decode cX13_pay 32 = .ok (.invokevirtual 367, 3) := by decide +kernel
theorem dX13_pay_35 : decode cX13_pay 35 = .ok (.istore 5, 2) := by decide +kernel
theorem dX13_pay_37 : decode cX13_pay 37 = .ok (.iconst 1, 1) := by decide +kernel
theorem dX13_pay_38 : decode cX13_pay 38 = .ok (.istore 6, 2) := by decide +kernel
theorem dX13_pay_40 : decode cX13_pay 40 = .ok (.iload 6, 2) := by decide +kernel
theorem dX13_pay_42 : decode cX13_pay 42 = .ok (.bipush 8, 2) := by decide +kernel
theorem dX13_pay_44 : decode cX13_pay 44 = .ok (.if_icmp .gt 38, 3) := by decide +kernel
theorem dX13_pay_47 : decode cX13_pay 47 = .ok (.aload_n 0, 1) := by decide +kernel
theorem dX13_pay_48 : decode cX13_pay 48 = .ok (.iload_n 1, 1) := by decide +kernel
theorem dX13_pay_49 : decode cX13_pay 49 = .ok (.iload 6, 2) := by decide +kernel
theorem dX13_pay_51 : decode cX13_pay 51 = .ok (.iload_n 2, 1) := by decide +kernel
theorem dX13_pay_52 : decode cX13_pay 52 = .ok (.iload_n 3, 1) := by decide +kernel
theorem dX13_pay_53 : decode cX13_pay 53 = .ok (.invokevirtual 367, 3) := by decide +kernel
theorem dX13_pay_56 : decode cX13_pay 56 = .ok (.istore 7, 2) := by decide +kernel
theorem dX13_pay_58 : decode cX13_pay 58 = .ok (.iload 7, 2) := by decide +kernel
theorem dX13_pay_60 : decode cX13_pay 60 = .ok (.iload 5, 2) := by decide +kernel
theorem dX13_pay_62 : decode cX13_pay 62 = .ok (.if_icmp .lt 6, 3) := by decide +kernel
theorem dX13_pay_65 : decode cX13_pay 65 = .ok (.goto 11, 3) := by decide +kernel
theorem dX13_pay_68 : decode cX13_pay 68 = .ok (.iload 6, 2) := by decide +kernel
theorem dX13_pay_70 : decode cX13_pay 70 = .ok (.istore 4, 2) := by decide +kernel
theorem dX13_pay_72 : decode cX13_pay 72 = .ok (.iload 7, 2) := by decide +kernel
theorem dX13_pay_74 : decode cX13_pay 74 = .ok (.istore 5, 2) := by decide +kernel
theorem dX13_pay_76 : decode cX13_pay 76 = .ok (.iinc 6 1, 3) := by decide +kernel
theorem dX13_pay_79 : decode cX13_pay 79 = .ok (.goto (-39), 3) := by decide +kernel
theorem dX13_pay_82 : decode cX13_pay 82 = .ok (.iload 4, 2) := by decide +kernel
theorem dX13_pay_84 : decode cX13_pay 84 = .ok (.ireturn, 1) := by decide +kernel
theorem dX13_off_0 : decode cX13_off 0 = .ok (.iload_n 0, 1) := by decide +kernel
theorem dX13_off_1 : decode cX13_off 1 = .ok (.iload_n 1, 1) := by decide +kernel
theorem dX13_off_2 : decode cX13_off 2 = .ok (.if_icmp .ge 9, 3) := by decide +kernel
theorem dX13_off_5 : decode cX13_off 5 = .ok (.iload_n 1, 1) := by decide +kernel
theorem dX13_off_6 : decode cX13_off 6 = .ok (.iload_n 0, 1) := by decide +kernel
theorem dX13_off_7 : decode cX13_off 7 = .ok (.isub, 1) := by decide +kernel
theorem dX13_off_8 : decode cX13_off 8 = .ok (.goto 6, 3) := by decide +kernel
theorem dX13_off_11 : decode cX13_off 11 = .ok (.iload_n 0, 1) := by decide +kernel
theorem dX13_off_12 : decode cX13_off 12 = .ok (.iload_n 1, 1) := by decide +kernel
theorem dX13_off_13 : decode cX13_off 13 = .ok (.isub, 1) := by decide +kernel
theorem dX13_off_14 : decode cX13_off 14 = .ok (.ireturn, 1) := by decide +kernel
theorem dX13_misread_0 : decode cX13_misread 0 = .ok (.iconst 0, 1) := by decide +kernel
theorem dX13_misread_1 : decode cX13_misread 1 = .ok (.istore_n 3, 1) := by decide +kernel
theorem dX13_misread_2 : decode cX13_misread 2 = .ok (.iconst 0, 1) := by decide +kernel
theorem dX13_misread_3 : decode cX13_misread 3 = .ok (.istore 4, 2) := by decide +kernel
theorem dX13_misread_5 : decode cX13_misread 5 = .ok (.iload 4, 2) := by decide +kernel
theorem dX13_misread_7 : decode cX13_misread 7 = .ok (.bipush 10, 2) := by decide +kernel
theorem dX13_misread_9 : decode cX13_misread 9 = .ok (.if_icmp .ge 96, 3) := by decide +kernel
theorem dX13_misread_12 : decode cX13_misread 12 = .ok (.aload_n 0, 1) := by decide +kernel
theorem dX13_misread_13 : decode cX13_misread 13 = .ok (.getfield 74, 3) := by decide +kernel
theorem dX13_misread_16 : decode cX13_misread 16 = .ok (.bipush 62, 2) := by decide +kernel
theorem dX13_misread_18 : decode cX13_misread 18 = .ok (.iload 4, 2) := by decide +kernel
theorem dX13_misread_20 : decode cX13_misread 20 = .ok (.imul, 1) := by decide +kernel
theorem dX13_misread_21 : decode cX13_misread 21 = .ok (.iload_n 1, 1) := by decide +kernel
theorem dX13_misread_22 : decode cX13_misread 22 = .ok (.iadd, 1) := by decide +kernel
theorem dX13_misread_23 : decode cX13_misread 23 = .ok (.iaload, 1) := by decide +kernel
theorem dX13_misread_24 : decode cX13_misread 24 = .ok (.aload_n 0, 1) := by decide +kernel
theorem dX13_misread_25 : decode cX13_misread 25 = .ok (.getfield 74, 3) := by decide +kernel
theorem dX13_misread_28 : decode cX13_misread 28 = .ok (.bipush 62, 2) := by decide +kernel
theorem dX13_misread_30 : decode cX13_misread 30 = .ok (.iload 4, 2) := by decide +kernel
theorem dX13_misread_32 : decode cX13_misread 32 = .ok (.imul, 1) := by decide +kernel
theorem dX13_misread_33 : decode cX13_misread 33 = .ok (.aload_n 0, 1) := by decide +kernel
theorem dX13_misread_34 : decode cX13_misread 34 = .ok (.getfield 251, 3) := by decide +kernel
theorem dX13_misread_37 : decode cX13_misread 37 = .ok (.iadd, 1) := by decide +kernel
theorem dX13_misread_38 : decode cX13_misread 38 = .ok (.iaload, 1) := by decide +kernel
theorem dX13_misread_39 : decode cX13_misread 39 = .ok (.invokestatic 371, 3) := by decide +kernel
theorem dX13_misread_42 : decode cX13_misread 42 = .ok (.istore 5, 2) := by decide +kernel
theorem dX13_misread_44 : decode cX13_misread 44 = .ok (.aload_n 0, 1) := by decide +kernel
theorem dX13_misread_45 : decode cX13_misread 45 = .ok (.getfield 74, 3) := by decide +kernel
theorem dX13_misread_48 : decode cX13_misread 48 = .ok (.bipush 62, 2) := by decide +kernel
theorem dX13_misread_50 : decode cX13_misread 50 = .ok (.iload 4, 2) := by decide +kernel
theorem dX13_misread_52 : decode cX13_misread 52 = .ok (.imul, 1) := by decide +kernel
theorem dX13_misread_53 : decode cX13_misread 53 = .ok (.iload_n 1, 1) := by decide +kernel
theorem dX13_misread_54 : decode cX13_misread 54 = .ok (.iadd, 1) := by decide +kernel
theorem dX13_misread_55 : decode cX13_misread 55 = .ok (.iaload, 1) := by decide +kernel
theorem dX13_misread_56 : decode cX13_misread 56 = .ok (.aload_n 0, 1) := by decide +kernel
theorem dX13_misread_57 : decode cX13_misread 57 = .ok (.getfield 74, 3) := by decide +kernel
theorem dX13_misread_60 : decode cX13_misread 60 = .ok (.bipush 62, 2) := by decide +kernel
theorem dX13_misread_62 : decode cX13_misread 62 = .ok (.iload 4, 2) := by decide +kernel
theorem dX13_misread_64 : decode cX13_misread 64 = .ok (.imul, 1) := by decide +kernel
theorem dX13_misread_65 : decode cX13_misread 65 = .ok (.iload_n 2, 1) := by decide +kernel
theorem dX13_misread_66 : decode cX13_misread 66 = .ok (.iadd, 1) := by decide +kernel
theorem dX13_misread_67 : decode cX13_misread 67 = .ok (.iaload, 1) := by decide +kernel
theorem dX13_misread_68 : decode cX13_misread 68 = .ok (.invokestatic 371, 3) := by decide +kernel
theorem dX13_misread_71 : decode cX13_misread 71 = .ok (.istore 6, 2) := by decide +kernel
theorem dX13_misread_73 : decode cX13_misread 73 = .ok (.iload 5, 2) := by decide +kernel
theorem dX13_misread_75 : decode cX13_misread 75 = .ok (.iload_n 3, 1) := by decide +kernel
theorem dX13_misread_76 : decode cX13_misread 76 = .ok (.if_icmp .le 8, 3) := by decide +kernel
theorem dX13_misread_79 : decode cX13_misread 79 = .ok (.iload 5, 2) := by decide +kernel
theorem dX13_misread_81 : decode cX13_misread 81 = .ok (.goto 4, 3) := by decide +kernel
theorem dX13_misread_84 : decode cX13_misread 84 = .ok (.iload_n 3, 1) := by decide +kernel
theorem dX13_misread_85 : decode cX13_misread 85 = .ok (.istore_n 3, 1) := by decide +kernel
theorem dX13_misread_86 : decode cX13_misread 86 = .ok (.iload 6, 2) := by decide +kernel
theorem dX13_misread_88 : decode cX13_misread 88 = .ok (.iload_n 3, 1) := by decide +kernel
theorem dX13_misread_89 : decode cX13_misread 89 = .ok (.if_icmp .le 8, 3) := by decide +kernel
theorem dX13_misread_92 : decode cX13_misread 92 = .ok (.iload 6, 2) := by decide +kernel
theorem dX13_misread_94 : decode cX13_misread 94 = .ok (.goto 4, 3) := by decide +kernel
theorem dX13_misread_97 : decode cX13_misread 97 = .ok (.iload_n 3, 1) := by decide +kernel
theorem dX13_misread_98 : decode cX13_misread 98 = .ok (.istore_n 3, 1) := by decide +kernel
theorem dX13_misread_99 : decode cX13_misread 99 = .ok (.iinc 4 1, 3) := by decide +kernel
theorem dX13_misread_102 : decode cX13_misread 102 = .ok (.goto (-97), 3) := by decide +kernel
theorem dX13_misread_105 : decode cX13_misread 105 = .ok (.iload_n 3, 1) := by decide +kernel
theorem dX13_misread_106 : decode cX13_misread 106 = .ok (.ireturn, 1) := by decide +kernel
theorem dX13_trade_0 : decode cX13_trade 0 = .ok (.aload_n 0, 1) := by decide +kernel
theorem dX13_trade_1 : decode cX13_trade 1 = .ok (.iconst 0, 1) := by decide +kernel
theorem dX13_trade_2 : decode cX13_trade 2 = .ok (.putfield 135, 3) := by decide +kernel
theorem dX13_trade_5 : decode cX13_trade 5 = .ok (.aload_n 0, 1) := by decide +kernel
theorem dX13_trade_6 : decode cX13_trade 6 = .ok (.iload_n 2, 1) := by decide +kernel
theorem dX13_trade_7 : decode cX13_trade 7 = .ok (.ifCond .eq 8, 3) := by decide +kernel
theorem dX13_trade_10 : decode cX13_trade 10 = .ok (.iload_n 2, 1) := by decide +kernel
theorem dX13_trade_11 : decode cX13_trade 11 = .ok (.iconst 1, 1) := by decide +kernel
theorem dX13_trade_12 : decode cX13_trade 12 = .ok (.if_icmp .ne 7, 3) := by decide +kernel
theorem dX13_trade_15 : decode cX13_trade 15 = .ok (.iconst 1, 1) := by decide +kernel
theorem dX13_trade_16 : decode cX13_trade 16 = .ok (.goto 4, 3) := by decide +kernel
theorem dX13_trade_19 : decode cX13_trade 19 = .ok (.iconst 0, 1) := by decide +kernel
theorem dX13_trade_20 : decode cX13_trade 20 = .ok (.iconst 1, 1) := by decide +kernel
theorem dX13_trade_21 : decode cX13_trade 21 = .ok (.invokevirtual 235, 3) := by decide +kernel
theorem dX13_trade_24 : decode cX13_trade 24 = .ok (.ifCond .eq 12, 3) := by decide +kernel
theorem dX13_trade_27 : decode cX13_trade 27 = .ok (.aload_n 0, 1) := by decide +kernel
theorem dX13_trade_28 : decode cX13_trade 28 = .ok (.iload_n 1, 1) := by decide +kernel
theorem dX13_trade_29 : decode cX13_trade 29 = .ok (.iconst 2, 1) := by decide +kernel
theorem dX13_trade_30 : decode cX13_trade 30 = .ok (.invokevirtual 315, 3) := by decide +kernel
theorem dX13_trade_33 : decode cX13_trade 33 = .ok (.ifCond .ne 5, 3) := by decide +kernel
theorem dX13_trade_36 : decode cX13_trade 36 = .ok (.iconst 0, 1) := by decide +kernel
theorem dX13_trade_37 : decode cX13_trade 37 = .ok (.ireturn, 1) := by decide +kernel
theorem dX13_trade_38 : decode cX13_trade 38 = .ok (.aload_n 0, 1) := by decide +kernel
theorem dX13_trade_39 : decode cX13_trade 39 = .ok (.invokevirtual 306, 3) := by decide +kernel
theorem dX13_trade_42 : decode cX13_trade 42 = .ok (.iconst 0, 1) := by decide +kernel
theorem dX13_trade_43 : decode cX13_trade 43 = .ok (.istore_n 3, 1) := by decide +kernel
theorem dX13_trade_44 : decode cX13_trade 44 = .ok (.iconst 1, 1) := by decide +kernel
theorem dX13_trade_45 : decode cX13_trade 45 = .ok (.istore 4, 2) := by decide +kernel
theorem dX13_trade_47 : decode cX13_trade 47 = .ok (.iload 4, 2) := by decide +kernel
theorem dX13_trade_49 : decode cX13_trade 49 = .ok (.bipush 40, 2) := by decide +kernel
theorem dX13_trade_51 : decode cX13_trade 51 = .ok (.if_icmp .gt 28, 3) := by decide +kernel
theorem dX13_trade_54 : decode cX13_trade 54 = .ok (.aload_n 0, 1) := by decide +kernel
theorem dX13_trade_55 : decode cX13_trade 55 = .ok (.iload 4, 2) := by decide +kernel
theorem dX13_trade_57 : decode cX13_trade 57 = .ok (.iload_n 1, 1) := by decide +kernel
theorem dX13_trade_58 : decode cX13_trade 58 = .ok (.invokevirtual 374, 3) := by decide +kernel
theorem dX13_trade_61 : decode cX13_trade 61 = .ok (.aload_n 0, 1) := by decide +kernel
theorem dX13_trade_62 : decode cX13_trade 62 = .ok (.iload_n 3, 1) := by decide +kernel
theorem dX13_trade_63 : decode cX13_trade 63 = .ok (.iload_n 1, 1) := by decide +kernel
theorem dX13_trade_64 : decode cX13_trade 64 = .ok (.invokevirtual 374, 3) := by decide +kernel
theorem dX13_trade_67 : decode cX13_trade 67 = .ok (.if_icmp .ge 6, 3) := by decide +kernel
theorem dX13_trade_70 : decode cX13_trade 70 = .ok (.iload 4, 2) := by decide +kernel
theorem dX13_trade_72 : decode cX13_trade 72 = .ok (.istore_n 3, 1) := by decide +kernel
theorem dX13_trade_73 : decode cX13_trade 73 = .ok (.iinc 4 1, 3) := by decide +kernel
theorem dX13_trade_76 : decode cX13_trade 76 = .ok (.goto (-29), 3) := by decide +kernel
theorem dX13_trade_79 : decode cX13_trade 79 = .ok (.iload_n 2, 1) := by decide +kernel
theorem dX13_trade_80 : decode cX13_trade 80 = .ok (.ifCond .ne 7, 3) := by decide +kernel
theorem dX13_trade_83 : decode cX13_trade 83 = .ok (.iload_n 3, 1) := by decide +kernel
theorem dX13_trade_84 : decode cX13_trade 84 = .ok (.goto 9, 3) := by decide +kernel
theorem dX13_trade_87 : decode cX13_trade 87 = .ok (.aload_n 0, 1) := by decide +kernel
theorem dX13_trade_88 : decode cX13_trade 88 = .ok (.iload_n 3, 1) := by decide +kernel
theorem dX13_trade_89 : decode cX13_trade 89 = .ok (.iload_n 1, 1) := by decide +kernel
theorem dX13_trade_90 : decode cX13_trade 90 = .ok (.invokevirtual 374, 3) := by decide +kernel
theorem dX13_trade_93 : decode cX13_trade 93 = .ok (.ireturn, 1) := by decide +kernel
theorem dX13_tax_0 : decode cX13_tax 0 = .ok (.aload_n 0, 1) := by decide +kernel
theorem dX13_tax_1 : decode cX13_tax 1 = .ok (.iconst 0, 1) := by decide +kernel
theorem dX13_tax_2 : decode cX13_tax 2 = .ok (.putfield 135, 3) := by decide +kernel
theorem dX13_tax_5 : decode cX13_tax 5 = .ok (.aload_n 0, 1) := by decide +kernel
theorem dX13_tax_6 : decode cX13_tax 6 = .ok (.iload_n 1, 1) := by decide +kernel
theorem dX13_tax_7 : decode cX13_tax 7 = .ok (.invokevirtual 312, 3) := by decide +kernel
theorem dX13_tax_10 : decode cX13_tax 10 = .ok (.ifCond .eq 19, 3) := by decide +kernel
theorem dX13_tax_13 : decode cX13_tax 13 = .ok (.aload_n 0, 1) := by decide +kernel
theorem dX13_tax_14 : decode cX13_tax 14 = .ok (.iload_n 1, 1) := by decide +kernel
theorem dX13_tax_15 : decode cX13_tax 15 = .ok (.bipush 10, 2) := by decide +kernel
theorem dX13_tax_17 : decode cX13_tax 17 = .ok (.invokevirtual 294, 3) := by decide +kernel
theorem dX13_tax_20 : decode cX13_tax 20 = .ok (.bipush 9, 2) := by decide +kernel
theorem dX13_tax_22 : decode cX13_tax 22 = .ok (.iadd, 1) := by decide +kernel
theorem dX13_tax_23 : decode cX13_tax 23 = .ok (.bipush 10, 2) := by decide +kernel
theorem dX13_tax_25 : decode cX13_tax 25 = .ok (.idiv, 1) := by decide +kernel
theorem dX13_tax_26 : decode cX13_tax 26 = .ok (.goto 4, 3) := by decide +kernel
theorem dX13_tax_29 : decode cX13_tax 29 = .ok (.iconst 0, 1) := by decide +kernel
theorem dX13_tax_30 : decode cX13_tax 30 = .ok (.ireturn, 1) := by decide +kernel
theorem dX13_lastOf_0 : decode cX13_lastOf 0 = .ok (.iload_n 2, 1) := by decide +kernel
theorem dX13_lastOf_1 : decode cX13_lastOf 1 = .ok (.aload_n 0, 1) := by decide +kernel
theorem dX13_lastOf_2 : decode cX13_lastOf 2 = .ok (.getfield 31, 3) := by decide +kernel
theorem dX13_lastOf_5 : decode cX13_lastOf 5 = .ok (.iload_n 1, 1) := by decide +kernel
theorem dX13_lastOf_6 : decode cX13_lastOf 6 = .ok (.iaload, 1) := by decide +kernel
theorem dX13_lastOf_7 : decode cX13_lastOf 7 = .ok (.if_icmp .lt 5, 3) := by decide +kernel
theorem dX13_lastOf_10 : decode cX13_lastOf 10 = .ok (.iconst 0, 1) := by decide +kernel
theorem dX13_lastOf_11 : decode cX13_lastOf 11 = .ok (.ireturn, 1) := by decide +kernel
theorem dX13_lastOf_12 : decode cX13_lastOf 12 = .ok (.aload_n 0, 1) := by decide +kernel
theorem dX13_lastOf_13 : decode cX13_lastOf 13 = .ok (.getfield 34, 3) := by decide +kernel
theorem dX13_lastOf_16 : decode cX13_lastOf 16 = .ok (.iconst 5, 1) := by decide +kernel
theorem dX13_lastOf_17 : decode cX13_lastOf 17 = .ok (.iload_n 1, 1) := by decide +kernel
theorem dX13_lastOf_18 : decode cX13_lastOf 18 = .ok (.imul, 1) := by decide +kernel
theorem dX13_lastOf_19 : decode cX13_lastOf 19 = .ok (.aload_n 0, 1) := by decide +kernel
theorem dX13_lastOf_20 : decode cX13_lastOf 20 = .ok (.getfield 31, 3) := by decide +kernel
theorem dX13_lastOf_23 : decode cX13_lastOf 23 = .ok (.iload_n 1, 1) := by decide +kernel
theorem dX13_lastOf_24 : decode cX13_lastOf 24 = .ok (.iaload, 1) := by decide +kernel
theorem dX13_lastOf_25 : decode cX13_lastOf 25 = .ok (.iadd, 1) := by decide +kernel
theorem dX13_lastOf_26 : decode cX13_lastOf 26 = .ok (.iconst 1, 1) := by decide +kernel
theorem dX13_lastOf_27 : decode cX13_lastOf 27 = .ok (.isub, 1) := by decide +kernel
theorem dX13_lastOf_28 : decode cX13_lastOf 28 = .ok (.iload_n 2, 1) := by decide +kernel
theorem dX13_lastOf_29 : decode cX13_lastOf 29 = .ok (.isub, 1) := by decide +kernel
theorem dX13_lastOf_30 : decode cX13_lastOf 30 = .ok (.iaload, 1) := by decide +kernel
theorem dX13_lastOf_31 : decode cX13_lastOf 31 = .ok (.istore_n 3, 1) := by decide +kernel
theorem dX13_lastOf_32 : decode cX13_lastOf 32 = .ok (.iload_n 3, 1) := by decide +kernel
theorem dX13_lastOf_33 : decode cX13_lastOf 33 = .ok (.aload_n 0, 1) := by decide +kernel
theorem dX13_lastOf_34 : decode cX13_lastOf 34 = .ok (.getfield 251, 3) := by decide +kernel
theorem dX13_lastOf_37 : decode cX13_lastOf 37 = .ok (.if_icmp .ge 7, 3) := by decide +kernel
theorem dX13_lastOf_40 : decode cX13_lastOf 40 = .ok (.iload_n 3, 1) := by decide +kernel
theorem dX13_lastOf_41 : decode cX13_lastOf 41 = .ok (.goto 9, 3) := by decide +kernel
theorem dX13_lastOf_44 : decode cX13_lastOf 44 = .ok (.aload_n 0, 1) := by decide +kernel
theorem dX13_lastOf_45 : decode cX13_lastOf 45 = .ok (.getfield 251, 3) := by decide +kernel
theorem dX13_lastOf_48 : decode cX13_lastOf 48 = .ok (.iconst 1, 1) := by decide +kernel
theorem dX13_lastOf_49 : decode cX13_lastOf 49 = .ok (.isub, 1) := by decide +kernel
theorem dX13_lastOf_50 : decode cX13_lastOf 50 = .ok (.ireturn, 1) := by decide +kernel
theorem dX13_sum_0 : decode cX13_sum 0 = .ok (.aload_n 0, 1) := by decide +kernel
theorem dX13_sum_1 : decode cX13_sum 1 = .ok (.iconst 0, 1) := by decide +kernel
theorem dX13_sum_2 : decode cX13_sum 2 = .ok (.putfield 135, 3) := by decide +kernel
theorem dX13_sum_5 : decode cX13_sum 5 = .ok (.aload_n 0, 1) := by decide +kernel
theorem dX13_sum_6 : decode cX13_sum 6 = .ok (.iload_n 1, 1) := by decide +kernel
theorem dX13_sum_7 : decode cX13_sum 7 = .ok (.invokevirtual 312, 3) := by decide +kernel
theorem dX13_sum_10 : decode cX13_sum 10 = .ok (.ifCond .eq 32, 3) := by decide +kernel
theorem dX13_sum_13 : decode cX13_sum 13 = .ok (.aload_n 0, 1) := by decide +kernel
theorem dX13_sum_14 : decode cX13_sum 14 = .ok (.iload_n 2, 1) := by decide +kernel
theorem dX13_sum_15 : decode cX13_sum 15 = .ok (.invokevirtual 312, 3) := by decide +kernel
theorem dX13_sum_18 : decode cX13_sum 18 = .ok (.ifCond .eq 24, 3) := by decide +kernel
theorem dX13_sum_21 : decode cX13_sum 21 = .ok (.aload_n 0, 1) := by decide +kernel
theorem dX13_sum_22 : decode cX13_sum 22 = .ok (.aload_n 0, 1) := by decide +kernel
theorem dX13_sum_23 : decode cX13_sum 23 = .ok (.getfield 251, 3) := by decide +kernel
theorem dX13_sum_26 : decode cX13_sum 26 = .ok (.iconst 2, 1) := by decide +kernel
theorem dX13_sum_27 : decode cX13_sum 27 = .ok (.if_icmp .lt 7, 3) := by decide +kernel
theorem dX13_sum_30 : decode cX13_sum 30 = .ok (.iconst 1, 1) := by decide +kernel
theorem dX13_sum_31 : decode cX13_sum 31 = .ok (.goto 4, 3) := by decide +kernel
theorem dX13_sum_34 : decode cX13_sum 34 = .ok (.iconst 0, 1) := by decide +kernel
theorem dX13_sum_35 : decode cX13_sum 35 = .ok (.iconst 2, 1) := by decide +kernel
theorem dX13_sum_36 : decode cX13_sum 36 = .ok (.invokevirtual 235, 3) := by decide +kernel
theorem dX13_sum_39 : decode cX13_sum 39 = .ok (.ifCond .ne 5, 3) := by decide +kernel
theorem dX13_sum_42 : decode cX13_sum 42 = .ok (.iconst 0, 1) := by decide +kernel
theorem dX13_sum_43 : decode cX13_sum 43 = .ok (.ireturn, 1) := by decide +kernel
theorem dX13_sum_44 : decode cX13_sum 44 = .ok (.iconst 0, 1) := by decide +kernel
theorem dX13_sum_45 : decode cX13_sum 45 = .ok (.istore 4, 2) := by decide +kernel
theorem dX13_sum_47 : decode cX13_sum 47 = .ok (.iconst 0, 1) := by decide +kernel
theorem dX13_sum_48 : decode cX13_sum 48 = .ok (.istore 5, 2) := by decide +kernel
theorem dX13_sum_50 : decode cX13_sum 50 = .ok (.iconst 1, 1) := by decide +kernel
theorem dX13_sum_51 : decode cX13_sum 51 = .ok (.istore 6, 2) := by decide +kernel
theorem dX13_sum_53 : decode cX13_sum 53 = .ok (.iconst 0, 1) := by decide +kernel
theorem dX13_sum_54 : decode cX13_sum 54 = .ok (.istore 7, 2) := by decide +kernel
theorem dX13_sum_56 : decode cX13_sum 56 = .ok (.iload 7, 2) := by decide +kernel
theorem dX13_sum_58 : decode cX13_sum 58 = .ok (.iconst 5, 1) := by decide +kernel
theorem dX13_sum_59 : decode cX13_sum 59 = .ok (.if_icmp .gt 85, 3) := by decide +kernel
theorem dX13_sum_62 : decode cX13_sum 62 = .ok (.aload_n 0, 1) := by decide +kernel
theorem dX13_sum_63 : decode cX13_sum 63 = .ok (.iload_n 1, 1) := by decide +kernel
theorem dX13_sum_64 : decode cX13_sum 64 = .ok (.iload 7, 2) := by decide +kernel
theorem dX13_sum_66 : decode cX13_sum 66 = .ok (.invokevirtual 377, 3) := by decide +kernel
theorem dX13_sum_69 : decode cX13_sum 69 = .ok (.aload_n 0, 1) := by decide +kernel
theorem dX13_sum_70 : decode cX13_sum 70 = .ok (.iload_n 2, 1) := by decide +kernel
theorem dX13_sum_71 : decode cX13_sum 71 = .ok (.iload 7, 2) := by decide +kernel
theorem dX13_sum_73 : decode cX13_sum 73 = .ok (.invokevirtual 377, 3) := by decide +kernel
theorem dX13_sum_76 : decode cX13_sum 76 = .ok (.iadd, 1) := by decide +kernel
theorem dX13_sum_77 : decode cX13_sum 77 = .ok (.iload 4, 2) := by decide +kernel
theorem dX13_sum_79 : decode cX13_sum 79 = .ok (.iadd, 1) := by decide +kernel
theorem dX13_sum_80 : decode cX13_sum 80 = .ok (.istore 8, 2) := by decide +kernel
theorem dX13_sum_82 : decode cX13_sum 82 = .ok (.iload 8, 2) := by decide +kernel
theorem dX13_sum_84 : decode cX13_sum 84 = .ok (.aload_n 0, 1) := by decide +kernel
theorem dX13_sum_85 : decode cX13_sum 85 = .ok (.getfield 251, 3) := by decide +kernel
theorem dX13_sum_88 : decode cX13_sum 88 = .ok (.if_icmp .lt 7, 3) := by decide +kernel
theorem dX13_sum_91 : decode cX13_sum 91 = .ok (.iconst 1, 1) := by decide +kernel
theorem dX13_sum_92 : decode cX13_sum 92 = .ok (.goto 4, 3) := by decide +kernel
theorem dX13_sum_95 : decode cX13_sum 95 = .ok (.iconst 0, 1) := by decide +kernel
theorem dX13_sum_96 : decode cX13_sum 96 = .ok (.istore 4, 2) := by decide +kernel
theorem dX13_sum_98 : decode cX13_sum 98 = .ok (.iload 5, 2) := by decide +kernel
theorem dX13_sum_100 : decode cX13_sum 100 = .ok (.iload 4, 2) := by decide +kernel
theorem dX13_sum_102 : decode cX13_sum 102 = .ok (.iadd, 1) := by decide +kernel
theorem dX13_sum_103 : decode cX13_sum 103 = .ok (.istore 5, 2) := by decide +kernel
theorem dX13_sum_105 : decode cX13_sum 105 = .ok (.aload_n 0, 1) := by decide +kernel
theorem dX13_sum_106 : decode cX13_sum 106 = .ok (.getfield 105, 3) := by decide +kernel
theorem dX13_sum_109 : decode cX13_sum 109 = .ok (.iload 7, 2) := by decide +kernel
theorem dX13_sum_111 : decode cX13_sum 111 = .ok (.iload 8, 2) := by decide +kernel
theorem dX13_sum_113 : decode cX13_sum 113 = .ok (.iload 4, 2) := by decide +kernel
theorem dX13_sum_115 : decode cX13_sum 115 = .ok (.aload_n 0, 1) := by decide +kernel
theorem dX13_sum_116 : decode cX13_sum 116 = .ok (.getfield 251, 3) := by decide +kernel
theorem dX13_sum_119 : decode cX13_sum 119 = .ok (.imul, 1) := by decide +kernel
theorem dX13_sum_120 : decode cX13_sum 120 = .ok (.isub, 1) := by decide +kernel
theorem dX13_sum_121 : decode cX13_sum 121 = .ok (.iastore, 1) := by decide +kernel
theorem dX13_sum_122 : decode cX13_sum 122 = .ok (.aload_n 0, 1) := by decide +kernel
theorem dX13_sum_123 : decode cX13_sum 123 = .ok (.getfield 105, 3) := by decide +kernel
theorem dX13_sum_126 : decode cX13_sum 126 = .ok (.iload 7, 2) := by decide +kernel
theorem dX13_sum_128 : decode cX13_sum 128 = .ok (.iaload, 1) := by decide +kernel
theorem dX13_sum_129 : decode cX13_sum 129 = .ok (.ifCond .le 9, 3) := by decide +kernel
theorem dX13_sum_132 : decode cX13_sum 132 = .ok (.iload 7, 2) := by decide +kernel
theorem dX13_sum_134 : decode cX13_sum 134 = .ok (.iconst 1, 1) := by decide +kernel
theorem dX13_sum_135 : decode cX13_sum 135 = .ok (.iadd, 1) := by decide +kernel
theorem dX13_sum_136 : decode cX13_sum 136 = .ok (.istore 6, 2) := by decide +kernel
theorem dX13_sum_138 : decode cX13_sum 138 = .ok (.iinc 7 1, 3) := by decide +kernel
theorem dX13_sum_141 : decode cX13_sum 141 = .ok (.goto (-85), 3) := by decide +kernel
theorem dX13_sum_144 : decode cX13_sum 144 = .ok (.iload_n 3, 1) := by decide +kernel
theorem dX13_sum_145 : decode cX13_sum 145 = .ok (.iconst (-1), 1) := by decide +kernel
theorem dX13_sum_146 : decode cX13_sum 146 = .ok (.if_icmp .ne 6, 3) := by decide +kernel
theorem dX13_sum_149 : decode cX13_sum 149 = .ok (.iload 6, 2) := by decide +kernel
theorem dX13_sum_151 : decode cX13_sum 151 = .ok (.ireturn, 1) := by decide +kernel
theorem dX13_sum_152 : decode cX13_sum 152 = .ok (.iload_n 3, 1) := by decide +kernel
theorem dX13_sum_153 : decode cX13_sum 153 = .ok (.bipush (-2), 2) := by decide +kernel
theorem dX13_sum_155 : decode cX13_sum 155 = .ok (.if_icmp .ne 6, 3) := by decide +kernel
theorem dX13_sum_158 : decode cX13_sum 158 = .ok (.iload 5, 2) := by decide +kernel
theorem dX13_sum_160 : decode cX13_sum 160 = .ok (.ireturn, 1) := by decide +kernel
theorem dX13_sum_161 : decode cX13_sum 161 = .ok (.aload_n 0, 1) := by decide +kernel
theorem dX13_sum_162 : decode cX13_sum 162 = .ok (.iload_n 3, 1) := by decide +kernel
theorem dX13_sum_163 : decode cX13_sum 163 = .ok (.ifCond .lt 13, 3) := by decide +kernel
theorem dX13_sum_166 : decode cX13_sum 166 = .ok (.iload_n 3, 1) := by decide +kernel
theorem dX13_sum_167 : decode cX13_sum 167 = .ok (.iload 6, 2) := by decide +kernel
theorem dX13_sum_169 : decode cX13_sum 169 = .ok (.if_icmp .ge 7, 3) := by decide +kernel
theorem dX13_sum_172 : decode cX13_sum 172 = .ok (.iconst 1, 1) := by decide +kernel
theorem dX13_sum_173 : decode cX13_sum 173 = .ok (.goto 4, 3) := by decide +kernel
theorem dX13_sum_176 : decode cX13_sum 176 = .ok (.iconst 0, 1) := by decide +kernel
theorem dX13_sum_177 : decode cX13_sum 177 = .ok (.iconst 1, 1) := by decide +kernel
theorem dX13_sum_178 : decode cX13_sum 178 = .ok (.invokevirtual 235, 3) := by decide +kernel
theorem dX13_sum_181 : decode cX13_sum 181 = .ok (.ifCond .eq 17, 3) := by decide +kernel
theorem dX13_sum_184 : decode cX13_sum 184 = .ok (.aload_n 0, 1) := by decide +kernel
theorem dX13_sum_185 : decode cX13_sum 185 = .ok (.getfield 105, 3) := by decide +kernel
theorem dX13_sum_188 : decode cX13_sum 188 = .ok (.iload 6, 2) := by decide +kernel
theorem dX13_sum_190 : decode cX13_sum 190 = .ok (.iconst 1, 1) := by decide +kernel
theorem dX13_sum_191 : decode cX13_sum 191 = .ok (.isub, 1) := by decide +kernel
theorem dX13_sum_192 : decode cX13_sum 192 = .ok (.iload_n 3, 1) := by decide +kernel
theorem dX13_sum_193 : decode cX13_sum 193 = .ok (.isub, 1) := by decide +kernel
theorem dX13_sum_194 : decode cX13_sum 194 = .ok (.iaload, 1) := by decide +kernel
theorem dX13_sum_195 : decode cX13_sum 195 = .ok (.goto 4, 3) := by decide +kernel
theorem dX13_sum_198 : decode cX13_sum 198 = .ok (.iconst 0, 1) := by decide +kernel
theorem dX13_sum_199 : decode cX13_sum 199 = .ok (.ireturn, 1) := by decide +kernel
theorem dX13_image_0 : decode cX13_image 0 = .ok (.aload_n 0, 1) := by decide +kernel
theorem dX13_image_1 : decode cX13_image 1 = .ok (.iconst 0, 1) := by decide +kernel
theorem dX13_image_2 : decode cX13_image 2 = .ok (.putfield 135, 3) := by decide +kernel
theorem dX13_image_5 : decode cX13_image 5 = .ok (.aload_n 0, 1) := by decide +kernel
theorem dX13_image_6 : decode cX13_image 6 = .ok (.iconst 1, 1) := by decide +kernel
theorem dX13_image_7 : decode cX13_image 7 = .ok (.putfield 264, 3) := by decide +kernel
theorem dX13_image_10 : decode cX13_image 10 = .ok (.aload_n 0, 1) := by decide +kernel
theorem dX13_image_11 : decode cX13_image 11 = .ok (.aload_n 0, 1) := by decide +kernel
theorem dX13_image_12 : decode cX13_image 12 = .ok (.getfield 251, 3) := by decide +kernel
theorem dX13_image_15 : decode cX13_image 15 = .ok (.putfield 380, 3) := by decide +kernel
theorem dX13_image_18 : decode cX13_image 18 = .ok (.aload_n 0, 1) := by decide +kernel
theorem dX13_image_19 : decode cX13_image 19 = .ok (.aload_n 0, 1) := by decide +kernel
theorem dX13_image_20 : decode cX13_image 20 = .ok (.getfield 261, 3) := by decide +kernel
theorem dX13_image_23 : decode cX13_image 23 = .ok (.putfield 383, 3) := by decide +kernel
theorem dX13_image_26 : decode cX13_image 26 = .ok (.aload_n 0, 1) := by decide +kernel
theorem dX13_image_27 : decode cX13_image 27 = .ok (.aload_n 0, 1) := by decide +kernel
theorem dX13_image_28 : decode cX13_image 28 = .ok (.getfield 7, 3) := by decide +kernel
theorem dX13_image_31 : decode cX13_image 31 = .ok (.aload_n 0, 1) := by decide +kernel
theorem dX13_image_32 : decode cX13_image 32 = .ok (.getfield 108, 3) := by decide +kernel
theorem dX13_image_35 : decode cX13_image 35 = .ok (.invokevirtual 254, 3) := by decide +kernel
theorem dX13_image_38 : decode cX13_image 38 = .ok (.aload_n 0, 1) := by decide +kernel
theorem dX13_image_39 : decode cX13_image 39 = .ok (.aload_n 0, 1) := by decide +kernel
theorem dX13_image_40 : decode cX13_image 40 = .ok (.getfield 16, 3) := by decide +kernel
theorem dX13_image_43 : decode cX13_image 43 = .ok (.aload_n 0, 1) := by decide +kernel
theorem dX13_image_44 : decode cX13_image 44 = .ok (.getfield 111, 3) := by decide +kernel
theorem dX13_image_47 : decode cX13_image 47 = .ok (.invokevirtual 254, 3) := by decide +kernel
theorem dX13_image_50 : decode cX13_image 50 = .ok (.aload_n 0, 1) := by decide +kernel
theorem dX13_image_51 : decode cX13_image 51 = .ok (.aload_n 0, 1) := by decide +kernel
theorem dX13_image_52 : decode cX13_image 52 = .ok (.getfield 19, 3) := by decide +kernel
theorem dX13_image_55 : decode cX13_image 55 = .ok (.aload_n 0, 1) := by decide +kernel
theorem dX13_image_56 : decode cX13_image 56 = .ok (.getfield 114, 3) := by decide +kernel
theorem dX13_image_59 : decode cX13_image 59 = .ok (.invokevirtual 254, 3) := by decide +kernel
theorem dX13_image_62 : decode cX13_image 62 = .ok (.aload_n 0, 1) := by decide +kernel
theorem dX13_image_63 : decode cX13_image 63 = .ok (.aload_n 0, 1) := by decide +kernel
theorem dX13_image_64 : decode cX13_image 64 = .ok (.getfield 22, 3) := by decide +kernel
theorem dX13_image_67 : decode cX13_image 67 = .ok (.aload_n 0, 1) := by decide +kernel
theorem dX13_image_68 : decode cX13_image 68 = .ok (.getfield 117, 3) := by decide +kernel
theorem dX13_image_71 : decode cX13_image 71 = .ok (.invokevirtual 254, 3) := by decide +kernel
theorem dX13_image_74 : decode cX13_image 74 = .ok (.aload_n 0, 1) := by decide +kernel
theorem dX13_image_75 : decode cX13_image 75 = .ok (.aload_n 0, 1) := by decide +kernel
theorem dX13_image_76 : decode cX13_image 76 = .ok (.getfield 25, 3) := by decide +kernel
theorem dX13_image_79 : decode cX13_image 79 = .ok (.aload_n 0, 1) := by decide +kernel
theorem dX13_image_80 : decode cX13_image 80 = .ok (.getfield 120, 3) := by decide +kernel
theorem dX13_image_83 : decode cX13_image 83 = .ok (.invokevirtual 254, 3) := by decide +kernel
theorem dX13_image_86 : decode cX13_image 86 = .ok (.aload_n 0, 1) := by decide +kernel
theorem dX13_image_87 : decode cX13_image 87 = .ok (.aload_n 0, 1) := by decide +kernel
theorem dX13_image_88 : decode cX13_image 88 = .ok (.getfield 28, 3) := by decide +kernel
theorem dX13_image_91 : decode cX13_image 91 = .ok (.aload_n 0, 1) := by decide +kernel
theorem dX13_image_92 : decode cX13_image 92 = .ok (.getfield 123, 3) := by decide +kernel
theorem dX13_image_95 : decode cX13_image 95 = .ok (.invokevirtual 254, 3) := by decide +kernel
theorem dX13_image_98 : decode cX13_image 98 = .ok (.aload_n 0, 1) := by decide +kernel
theorem dX13_image_99 : decode cX13_image 99 = .ok (.aload_n 0, 1) := by decide +kernel
theorem dX13_image_100 : decode cX13_image 100 = .ok (.getfield 31, 3) := by decide +kernel
theorem dX13_image_103 : decode cX13_image 103 = .ok (.aload_n 0, 1) := by decide +kernel
theorem dX13_image_104 : decode cX13_image 104 = .ok (.getfield 126, 3) := by decide +kernel
theorem dX13_image_107 : decode cX13_image 107 = .ok (.invokevirtual 254, 3) := by decide +kernel
theorem dX13_image_110 : decode cX13_image 110 = .ok (.aload_n 0, 1) := by decide +kernel
theorem dX13_image_111 : decode cX13_image 111 = .ok (.aload_n 0, 1) := by decide +kernel
theorem dX13_image_112 : decode cX13_image 112 = .ok (.getfield 34, 3) := by decide +kernel
theorem dX13_image_115 : decode cX13_image 115 = .ok (.aload_n 0, 1) := by decide +kernel
theorem dX13_image_116 : decode cX13_image 116 = .ok (.getfield 129, 3) := by decide +kernel
theorem dX13_image_119 : decode cX13_image 119 = .ok (.invokevirtual 254, 3) := by decide +kernel
theorem dX13_image_122 : decode cX13_image 122 = .ok (.aload_n 0, 1) := by decide +kernel
theorem dX13_image_123 : decode cX13_image 123 = .ok (.aload_n 0, 1) := by decide +kernel
theorem dX13_image_124 : decode cX13_image 124 = .ok (.getfield 95, 3) := by decide +kernel
theorem dX13_image_127 : decode cX13_image 127 = .ok (.aload_n 0, 1) := by decide +kernel
theorem dX13_image_128 : decode cX13_image 128 = .ok (.getfield 132, 3) := by decide +kernel
theorem dX13_image_131 : decode cX13_image 131 = .ok (.invokevirtual 254, 3) := by decide +kernel
theorem dX13_image_134 : decode cX13_image 134 = .ok (.return_, 1) := by decide +kernel
theorem dX13_restore_0 : decode cX13_restore 0 = .ok (.aload_n 0, 1) := by decide +kernel
theorem dX13_restore_1 : decode cX13_restore 1 = .ok (.iconst 0, 1) := by decide +kernel
theorem dX13_restore_2 : decode cX13_restore 2 = .ok (.putfield 135, 3) := by decide +kernel
theorem dX13_restore_5 : decode cX13_restore 5 = .ok (.aload_n 0, 1) := by decide +kernel
theorem dX13_restore_6 : decode cX13_restore 6 = .ok (.getfield 264, 3) := by decide +kernel
theorem dX13_restore_9 : decode cX13_restore 9 = .ok (.ifCond .ne 5, 3) := by decide +kernel
theorem dX13_restore_12 : decode cX13_restore 12 = .ok (.iconst 0, 1) := by decide +kernel
theorem dX13_restore_13 : decode cX13_restore 13 = .ok (.ireturn, 1) := by decide +kernel
theorem dX13_restore_14 : decode cX13_restore 14 = .ok (.aload_n 0, 1) := by decide +kernel
theorem dX13_restore_15 : decode cX13_restore 15 = .ok (.aload_n 0, 1) := by decide +kernel
theorem dX13_restore_16 : decode cX13_restore 16 = .ok (.getfield 380, 3) := by decide +kernel
theorem dX13_restore_19 : decode cX13_restore 19 = .ok (.putfield 251, 3) := by decide +kernel
theorem dX13_restore_22 : decode cX13_restore 22 = .ok (.aload_n 0, 1) := by decide +kernel
theorem dX13_restore_23 : decode cX13_restore 23 = .ok (.aload_n 0, 1) := by decide +kernel
theorem dX13_restore_24 : decode cX13_restore 24 = .ok (.getfield 383, 3) := by decide +kernel
theorem dX13_restore_27 : decode cX13_restore 27 = .ok (.putfield 261, 3) := by decide +kernel
theorem dX13_restore_30 : decode cX13_restore 30 = .ok (.aload_n 0, 1) := by decide +kernel
theorem dX13_restore_31 : decode cX13_restore 31 = .ok (.aload_n 0, 1) := by decide +kernel
theorem dX13_restore_32 : decode cX13_restore 32 = .ok (.getfield 108, 3) := by decide +kernel
theorem dX13_restore_35 : decode cX13_restore 35 = .ok (.aload_n 0, 1) := by decide +kernel
theorem dX13_restore_36 : decode cX13_restore 36 = .ok (.getfield 7, 3) := by decide +kernel
theorem dX13_restore_39 : decode cX13_restore 39 = .ok (.invokevirtual 254, 3) := by decide +kernel
theorem dX13_restore_42 : decode cX13_restore 42 = .ok (.aload_n 0, 1) := by decide +kernel
theorem dX13_restore_43 : decode cX13_restore 43 = .ok (.aload_n 0, 1) := by decide +kernel
theorem dX13_restore_44 : decode cX13_restore 44 = .ok (.getfield 111, 3) := by decide +kernel
theorem dX13_restore_47 : decode cX13_restore 47 = .ok (.aload_n 0, 1) := by decide +kernel
theorem dX13_restore_48 : decode cX13_restore 48 = .ok (.getfield 16, 3) := by decide +kernel
theorem dX13_restore_51 : decode cX13_restore 51 = .ok (.invokevirtual 254, 3) := by decide +kernel
theorem dX13_restore_54 : decode cX13_restore 54 = .ok (.aload_n 0, 1) := by decide +kernel
theorem dX13_restore_55 : decode cX13_restore 55 = .ok (.aload_n 0, 1) := by decide +kernel
theorem dX13_restore_56 : decode cX13_restore 56 = .ok (.getfield 114, 3) := by decide +kernel
theorem dX13_restore_59 : decode cX13_restore 59 = .ok (.aload_n 0, 1) := by decide +kernel
theorem dX13_restore_60 : decode cX13_restore 60 = .ok (.getfield 19, 3) := by decide +kernel
theorem dX13_restore_63 : decode cX13_restore 63 = .ok (.invokevirtual 254, 3) := by decide +kernel
theorem dX13_restore_66 : decode cX13_restore 66 = .ok (.aload_n 0, 1) := by decide +kernel
theorem dX13_restore_67 : decode cX13_restore 67 = .ok (.aload_n 0, 1) := by decide +kernel
theorem dX13_restore_68 : decode cX13_restore 68 = .ok (.getfield 117, 3) := by decide +kernel
theorem dX13_restore_71 : decode cX13_restore 71 = .ok (.aload_n 0, 1) := by decide +kernel
theorem dX13_restore_72 : decode cX13_restore 72 = .ok (.getfield 22, 3) := by decide +kernel
theorem dX13_restore_75 : decode cX13_restore 75 = .ok (.invokevirtual 254, 3) := by decide +kernel
theorem dX13_restore_78 : decode cX13_restore 78 = .ok (.aload_n 0, 1) := by decide +kernel
theorem dX13_restore_79 : decode cX13_restore 79 = .ok (.aload_n 0, 1) := by decide +kernel
theorem dX13_restore_80 : decode cX13_restore 80 = .ok (.getfield 120, 3) := by decide +kernel
theorem dX13_restore_83 : decode cX13_restore 83 = .ok (.aload_n 0, 1) := by decide +kernel
theorem dX13_restore_84 : decode cX13_restore 84 = .ok (.getfield 25, 3) := by decide +kernel
theorem dX13_restore_87 : decode cX13_restore 87 = .ok (.invokevirtual 254, 3) := by decide +kernel
theorem dX13_restore_90 : decode cX13_restore 90 = .ok (.aload_n 0, 1) := by decide +kernel
theorem dX13_restore_91 : decode cX13_restore 91 = .ok (.aload_n 0, 1) := by decide +kernel
theorem dX13_restore_92 : decode cX13_restore 92 = .ok (.getfield 123, 3) := by decide +kernel
theorem dX13_restore_95 : decode cX13_restore 95 = .ok (.aload_n 0, 1) := by decide +kernel
theorem dX13_restore_96 : decode cX13_restore 96 = .ok (.getfield 28, 3) := by decide +kernel
theorem dX13_restore_99 : decode cX13_restore 99 = .ok (.invokevirtual 254, 3) := by decide +kernel
theorem dX13_restore_102 : decode cX13_restore 102 = .ok (.aload_n 0, 1) := by decide +kernel
theorem dX13_restore_103 : decode cX13_restore 103 = .ok (.aload_n 0, 1) := by decide +kernel
theorem dX13_restore_104 : decode cX13_restore 104 = .ok (.getfield 126, 3) := by decide +kernel
theorem dX13_restore_107 : decode cX13_restore 107 = .ok (.aload_n 0, 1) := by decide +kernel
theorem dX13_restore_108 : decode cX13_restore 108 = .ok (.getfield 31, 3) := by decide +kernel
theorem dX13_restore_111 : decode cX13_restore 111 = .ok (.invokevirtual 254, 3) := by decide +kernel
theorem dX13_restore_114 : decode cX13_restore 114 = .ok (.aload_n 0, 1) := by decide +kernel
theorem dX13_restore_115 : decode cX13_restore 115 = .ok (.aload_n 0, 1) := by decide +kernel
theorem dX13_restore_116 : decode cX13_restore 116 = .ok (.getfield 129, 3) := by decide +kernel
theorem dX13_restore_119 : decode cX13_restore 119 = .ok (.aload_n 0, 1) := by decide +kernel
theorem dX13_restore_120 : decode cX13_restore 120 = .ok (.getfield 34, 3) := by decide +kernel
theorem dX13_restore_123 : decode cX13_restore 123 = .ok (.invokevirtual 254, 3) := by decide +kernel
theorem dX13_restore_126 : decode cX13_restore 126 = .ok (.aload_n 0, 1) := by decide +kernel
theorem dX13_restore_127 : decode cX13_restore 127 = .ok (.aload_n 0, 1) := by decide +kernel
theorem dX13_restore_128 : decode cX13_restore 128 = .ok (.getfield 132, 3) := by decide +kernel
theorem dX13_restore_131 : decode cX13_restore 131 = .ok (.aload_n 0, 1) := by decide +kernel
theorem dX13_restore_132 : decode cX13_restore 132 = .ok (.getfield 95, 3) := by decide +kernel
theorem dX13_restore_135 : decode cX13_restore 135 = .ok (.invokevirtual 254, 3) := by decide +kernel
theorem dX13_restore_138 : decode cX13_restore 138 = .ok (.iconst 1, 1) := by decide +kernel
theorem dX13_restore_139 : decode cX13_restore 139 = .ok (.ireturn, 1) := by decide +kernel
