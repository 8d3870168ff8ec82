theorem dX13_lentBy_21 : decode cX13_lentBy 21 = .ok (.istore_n 2, 1) := by decide +kernel
theorem dX13_lentBy_22 : decode cX13_lentBy 22 = .ok (.iinc 3 1, 3) := by decide +kernel
theorem dX13_lentBy_25 : decode cX13_lentBy 25 = .ok (.goto (-21), 3) := by decide +kernel
theorem dX13_lentBy_28 : decode cX13_lentBy 28 = .ok (.iload_n 2, 1) := by decide +kernel
theorem dX13_lentBy_29 : decode cX13_lentBy 29 = .ok (.ireturn, 1) := by decide +kernel
theorem dX13_isSwap_0 : decode cX13_isSwap 0 = .ok (.aload_n 0, 1) := by decide +kernel
theorem dX13_isSwap_1 : decode cX13_isSwap 1 = .ok (.getfield 22, 3) := by decide +kernel
theorem dX13_isSwap_4 : decode cX13_isSwap 4 = .ok (.iload_n 1, 1) := by decide +kernel
theorem dX13_isSwap_5 : decode cX13_isSwap 5 = .ok (.iaload, 1) := by decide +kernel
theorem dX13_isSwap_6 : decode cX13_isSwap 6 = .ok (.iconst 1, 1) := by decide +kernel
theorem dX13_isSwap_7 : decode cX13_isSwap 7 = .ok (.if_icmp .ne 47, 3) := by decide +kernel
theorem dX13_isSwap_10 : decode cX13_isSwap 10 = .ok (.aload_n 0, 1) := by decide +kernel
theorem dX13_isSwap_11 : decode cX13_isSwap 11 = .ok (.getfield 22, 3) := by decide +kernel
theorem dX13_isSwap_14 : decode cX13_isSwap 14 = .ok (.iload_n 2, 1) := by decide +kernel
theorem dX13_isSwap_15 : decode cX13_isSwap 15 = .ok (.iaload, 1) := by decide +kernel
theorem dX13_isSwap_16 : decode cX13_isSwap 16 = .ok (.iconst 1, 1) := by decide +kernel
theorem dX13_isSwap_17 : decode cX13_isSwap 17 = .ok (.if_icmp .ne 37, 3) := by decide +kernel
theorem dX13_isSwap_20 : decode cX13_isSwap 20 = .ok (.aload_n 0, 1) := by decide +kernel
theorem dX13_isSwap_21 : decode cX13_isSwap 21 = .ok (.getfield 25, 3) := by decide +kernel
theorem dX13_isSwap_24 : decode cX13_isSwap 24 = .ok (.iload_n 1, 1) := by decide +kernel
theorem dX13_isSwap_25 : decode cX13_isSwap 25 = .ok (.iaload, 1) := by decide +kernel
theorem dX13_isSwap_26 : decode cX13_isSwap 26 = .ok (.aload_n 0, 1) := by decide +kernel
theorem dX13_isSwap_27 : decode cX13_isSwap 27 = .ok (.getfield 28, 3) := by decide +kernel
theorem dX13_isSwap_30 : decode cX13_isSwap 30 = .ok (.iload_n 2, 1) := by decide +kernel
theorem dX13_isSwap_31 : decode cX13_isSwap 31 = .ok (.iaload, 1) := by decide +kernel
theorem dX13_isSwap_32 : decode cX13_isSwap 32 = .ok (.if_icmp .eq 22, 3) := by decide +kernel
theorem dX13_isSwap_35 : decode cX13_isSwap 35 = .ok (.aload_n 0, 1) := by decide +kernel
theorem dX13_isSwap_36 : decode cX13_isSwap 36 = .ok (.getfield 25, 3) := by decide +kernel
theorem dX13_isSwap_39 : decode cX13_isSwap 39 = .ok (.iload_n 2, 1) := by decide +kernel
theorem dX13_isSwap_40 : decode cX13_isSwap 40 = .ok (.iaload, 1) := by decide +kernel
theorem dX13_isSwap_41 : decode cX13_isSwap 41 = .ok (.aload_n 0, 1) := by decide +kernel
theorem dX13_isSwap_42 : decode cX13_isSwap 42 = .ok (.getfield 28, 3) := by decide +kernel
theorem dX13_isSwap_45 : decode cX13_isSwap 45 = .ok (.iload_n 1, 1) := by decide +kernel
theorem dX13_isSwap_46 : decode cX13_isSwap 46 = .ok (.iaload, 1) := by decide +kernel
theorem dX13_isSwap_47 : decode cX13_isSwap 47 = .ok (.if_icmp .eq 7, 3) := by decide +kernel
theorem dX13_isSwap_50 : decode cX13_isSwap 50 = .ok (.iconst 1, 1) := by decide +kernel
theorem dX13_isSwap_51 : decode cX13_isSwap 51 = .ok (.goto 4, 3) := by decide +kernel
theorem dX13_isSwap_54 : decode cX13_isSwap 54 = .ok (.iconst 0, 1) := by decide +kernel
theorem dX13_isSwap_55 : decode cX13_isSwap 55 = .ok (.ireturn, 1) := by decide +kernel
theorem dX13_freeDoor_0 : decode cX13_freeDoor 0 = .ok (.iconst 0, 1) := by decide +kernel
theorem dX13_freeDoor_1 : decode cX13_freeDoor 1 = .ok (.istore_n 1, 1) := by decide +kernel
theorem dX13_freeDoor_2 : decode cX13_freeDoor 2 = .ok (.iload_n 1, 1) := by decide +kernel
theorem dX13_freeDoor_3 : decode cX13_freeDoor 3 = .ok (.bipush 10, 2) := by decide +kernel
theorem dX13_freeDoor_5 : decode cX13_freeDoor 5 = .ok (.if_icmp .ge 20, 3) := by decide +kernel
theorem dX13_freeDoor_8 : decode cX13_freeDoor 8 = .ok (.aload_n 0, 1) := by decide +kernel
theorem dX13_freeDoor_9 : decode cX13_freeDoor 9 = .ok (.getfield 22, 3) := by decide +kernel
theorem dX13_freeDoor_12 : decode cX13_freeDoor 12 = .ok (.iload_n 1, 1) := by decide +kernel
theorem dX13_freeDoor_13 : decode cX13_freeDoor 13 = .ok (.iaload, 1) := by decide +kernel
theorem dX13_freeDoor_14 : decode cX13_freeDoor 14 = .ok (.ifCond .ne 5, 3) := by decide +kernel
theorem dX13_freeDoor_17 : decode cX13_freeDoor 17 = .ok (.iload_n 1, 1) := by decide +kernel
theorem dX13_freeDoor_18 : decode cX13_freeDoor 18 = .ok (.ireturn, 1) := by decide +kernel
theorem dX13_freeDoor_19 : decode cX13_freeDoor 19 = .ok (.iinc 1 1, 3) := by decide +kernel
theorem dX13_freeDoor_22 : decode cX13_freeDoor 22 = .ok (.goto (-20), 3) := by decide +kernel
theorem dX13_freeDoor_25 : decode cX13_freeDoor 25 = .ok (.iconst (-1), 1) := by decide +kernel
theorem dX13_freeDoor_26 : decode cX13_freeDoor 26 = .ok (.ireturn, 1) := by decide +kernel
theorem dX13_does_0 : decode cX13_does 0 = .ok (.iconst 5, 1) := by decide +kernel
theorem dX13_does_1 : decode cX13_does 1 = .ok (.iload_n 1, 1) := by decide +kernel
theorem dX13_does_2 : decode cX13_does 2 = .ok (.imul, 1) := by decide +kernel
theorem dX13_does_3 : decode cX13_does 3 = .ok (.istore_n 2, 1) := by decide +kernel
theorem dX13_does_4 : decode cX13_does 4 = .ok (.aload_n 0, 1) := by decide +kernel
theorem dX13_does_5 : decode cX13_does 5 = .ok (.getfield 68, 3) := by decide +kernel
theorem dX13_does_8 : decode cX13_does 8 = .ok (.iload_n 2, 1) := by decide +kernel
theorem dX13_does_9 : decode cX13_does 9 = .ok (.iconst 1, 1) := by decide +kernel
theorem dX13_does_10 : decode cX13_does 10 = .ok (.iadd, 1) := by decide +kernel
theorem dX13_does_11 : decode cX13_does 11 = .ok (.iaload, 1) := by decide +kernel
theorem dX13_does_12 : decode cX13_does 12 = .ok (.istore_n 3, 1) := by decide +kernel
theorem dX13_does_13 : decode cX13_does 13 = .ok (.aload_n 0, 1) := by decide +kernel
theorem dX13_does_14 : decode cX13_does 14 = .ok (.getfield 68, 3) := by decide +kernel
theorem dX13_does_17 : decode cX13_does 17 = .ok (.iload_n 2, 1) := by decide +kernel
theorem dX13_does_18 : decode cX13_does 18 = .ok (.iconst 2, 1) := by decide +kernel
theorem dX13_does_19 : decode cX13_does 19 = .ok (.iadd, 1) := by decide +kernel
theorem dX13_does_20 : decode cX13_does 20 = .ok (.iaload, 1) := by decide +kernel
theorem dX13_does_21 : decode cX13_does 21 = .ok (.istore 4, 2) := by decide +kernel
theorem dX13_does_23 : decode cX13_does 23 = .ok (.aload_n 0, 1) := by decide +kernel
theorem dX13_does_24 : decode cX13_does 24 = .ok (.getfield 68, 3) := by decide +kernel
theorem dX13_does_27 : decode cX13_does 27 = .ok (.iload_n 2, 1) := by decide +kernel
theorem dX13_does_28 : decode cX13_does 28 = .ok (.iconst 3, 1) := by decide +kernel
theorem dX13_does_29 : decode cX13_does 29 = .ok (.iadd, 1) := by decide +kernel
theorem dX13_does_30 : decode cX13_does 30 = .ok (.iaload, 1) := by decide +kernel
theorem dX13_does_31 : decode cX13_does 31 = .ok (.istore 5, 2) := by decide +kernel
theorem dX13_does_33 : decode cX13_does 33 = .ok (.aload_n 0, 1) := by decide +kernel
theorem dX13_does_34 : decode cX13_does 34 = .ok (.invokevirtual 270, 3) := by decide +kernel
theorem dX13_does_37 : decode cX13_does 37 = .ok (.istore 6, 2) := by decide +kernel
theorem dX13_does_39 : decode cX13_does 39 = .ok (.aload_n 0, 1) := by decide +kernel
theorem dX13_does_40 : decode cX13_does 40 = .ok (.getfield 68, 3) := by decide +kernel
theorem dX13_does_43 : decode cX13_does 43 = .ok (.iload_n 2, 1) := by decide +kernel
theorem dX13_does_44 : decode cX13_does 44 = .ok (.iaload, 1) := by decide +kernel
theorem dX13_does_45 : decode cX13_does 45 = .ok (.tableswitch 355 0 6 #[43, 70, 109, 153, 193, 241, 261], 43) := by decide +kernel
theorem dX13_does_88 : decode cX13_does 88 = .ok (.aload_n 0, 1) := by decide +kernel
theorem dX13_does_89 : decode cX13_does 89 = .ok (.invokevirtual 274, 3) := by decide +kernel
theorem dX13_does_92 : decode cX13_does 92 = .ok (.iload 5, 2) := by decide +kernel
theorem dX13_does_94 : decode cX13_does 94 = .ok (.iadd, 1) := by decide +kernel
theorem dX13_does_95 : decode cX13_does 95 = .ok (.bipush 40, 2) := by decide +kernel
theorem dX13_does_97 : decode cX13_does 97 = .ok (.if_icmp .le 5, 3) := by decide +kernel
theorem dX13_does_100 : decode cX13_does 100 = .ok (.iconst 0, 1) := by decide +kernel
theorem dX13_does_101 : decode cX13_does 101 = .ok (.ireturn, 1) := by decide +kernel
theorem dX13_does_102 : decode cX13_does 102 = .ok (.aload_n 0, 1) := by decide +kernel
theorem dX13_does_103 : decode cX13_does 103 = .ok (.getfield 7, 3) := by decide +kernel
theorem dX13_does_106 : decode cX13_does 106 = .ok (.iload_n 3, 1) := by decide +kernel
theorem dX13_does_107 : decode cX13_does 107 = .ok (.dup2, 1) := by decide +kernel
theorem dX13_does_108 : decode cX13_does 108 = .ok (.iaload, 1) := by decide +kernel
theorem dX13_does_109 : decode cX13_does 109 = .ok (.iload 5, 2) := by decide +kernel
theorem dX13_does_111 : decode cX13_does 111 = .ok (.iadd, 1) := by decide +kernel
theorem dX13_does_112 : decode cX13_does 112 = .ok (.iastore, 1) := by decide +kernel
theorem dX13_does_113 : decode cX13_does 113 = .ok (.iconst 1, 1) := by decide +kernel
theorem dX13_does_114 : decode cX13_does 114 = .ok (.ireturn, 1) := by decide +kernel
theorem dX13_does_115 : decode cX13_does 115 = .ok (.aload_n 0, 1) := by decide +kernel
theorem dX13_does_116 : decode cX13_does 116 = .ok (.getfield 7, 3) := by decide +kernel
theorem dX13_does_119 : decode cX13_does 119 = .ok (.iload_n 3, 1) := by decide +kernel
theorem dX13_does_120 : decode cX13_does 120 = .ok (.iaload, 1) := by decide +kernel
theorem dX13_does_121 : decode cX13_does 121 = .ok (.aload_n 0, 1) := by decide +kernel
theorem dX13_does_122 : decode cX13_does 122 = .ok (.iload_n 3, 1) := by decide +kernel
theorem dX13_does_123 : decode cX13_does 123 = .ok (.invokevirtual 277, 3) := by decide +kernel
theorem dX13_does_126 : decode cX13_does 126 = .ok (.isub, 1) := by decide +kernel
theorem dX13_does_127 : decode cX13_does 127 = .ok (.aload_n 0, 1) := by decide +kernel
theorem dX13_does_128 : decode cX13_does 128 = .ok (.getfield 16, 3) := by decide +kernel
theorem dX13_does_131 : decode cX13_does 131 = .ok (.iload_n 3, 1) := by decide +kernel
theorem dX13_does_132 : decode cX13_does 132 = .ok (.iaload, 1) := by decide +kernel
theorem dX13_does_133 : decode cX13_does 133 = .ok (.isub, 1) := by decide +kernel
theorem dX13_does_134 : decode cX13_does 134 = .ok (.iload 5, 2) := by decide +kernel
theorem dX13_does_136 : decode cX13_does 136 = .ok (.if_icmp .ge 5, 3) := by decide +kernel
theorem dX13_does_139 : decode cX13_does 139 = .ok (.iconst 0, 1) := by decide +kernel
theorem dX13_does_140 : decode cX13_does 140 = .ok (.ireturn, 1) := by decide +kernel
theorem dX13_does_141 : decode cX13_does 141 = .ok (.aload_n 0, 1) := by decide +kernel
theorem dX13_does_142 : decode cX13_does 142 = .ok (.getfield 7, 3) := by decide +kernel
theorem dX13_does_145 : decode cX13_does 145 = .ok (.iload_n 3, 1) := by decide +kernel
theorem dX13_does_146 : decode cX13_does 146 = .ok (.dup2, 1) := by decide +kernel
theorem dX13_does_147 : decode cX13_does 147 = .ok (.iaload, 1) := by decide +kernel
theorem dX13_does_148 : decode cX13_does 148 = .ok (.iload 5, 2) := by decide +kernel
theorem dX13_does_150 : decode cX13_does 150 = .ok (.isub, 1) := by decide +kernel
theorem dX13_does_151 : decode cX13_does 151 = .ok (.iastore, 1) := by decide +kernel
theorem dX13_does_152 : decode cX13_does 152 = .ok (.iconst 1, 1) := by decide +kernel
theorem dX13_does_153 : decode cX13_does 153 = .ok (.ireturn, 1) := by decide +kernel
theorem dX13_does_154 : decode cX13_does 154 = .ok (.aload_n 0, 1) := by decide +kernel
theorem dX13_does_155 : decode cX13_does 155 = .ok (.getfield 7, 3) := by decide +kernel
theorem dX13_does_158 : decode cX13_does 158 = .ok (.iload_n 3, 1) := by decide +kernel
theorem dX13_does_159 : decode cX13_does 159 = .ok (.iaload, 1) := by decide +kernel
theorem dX13_does_160 : decode cX13_does 160 = .ok (.aload_n 0, 1) := by decide +kernel
theorem dX13_does_161 : decode cX13_does 161 = .ok (.iload_n 3, 1) := by decide +kernel
theorem dX13_does_162 : decode cX13_does 162 = .ok (.invokevirtual 277, 3) := by decide +kernel
theorem dX13_does_165 : decode cX13_does 165 = .ok (.isub, 1) := by decide +kernel
theorem dX13_does_166 : decode cX13_does 166 = .ok (.aload_n 0, 1) := by decide +kernel
theorem dX13_does_167 : decode cX13_does 167 = .ok (.getfield 16, 3) := by decide +kernel
theorem dX13_does_170 : decode cX13_does 170 = .ok (.iload_n 3, 1) := by decide +kernel
theorem dX13_does_171 : decode cX13_does 171 = .ok (.iaload, 1) := by decide +kernel
theorem dX13_does_172 : decode cX13_does 172 = .ok (.isub, 1) := by decide +kernel
theorem dX13_does_173 : decode cX13_does 173 = .ok (.iload 5, 2) := by decide +kernel
theorem dX13_does_175 : decode cX13_does 175 = .ok (.if_icmp .ge 5, 3) := by decide +kernel
theorem dX13_does_178 : decode cX13_does 178 = .ok (.iconst 0, 1) := by decide +kernel
theorem dX13_does_179 : decode cX13_does 179 = .ok (.ireturn, 1) := by decide +kernel
theorem dX13_does_180 : decode cX13_does 180 = .ok (.aload_n 0, 1) := by decide +kernel
theorem dX13_does_181 : decode cX13_does 181 = .ok (.getfield 19, 3) := by decide +kernel
theorem dX13_does_184 : decode cX13_does 184 = .ok (.iconst 5, 1) := by decide +kernel
theorem dX13_does_185 : decode cX13_does 185 = .ok (.iload_n 3, 1) := by decide +kernel
theorem dX13_does_186 : decode cX13_does 186 = .ok (.imul, 1) := by decide +kernel
theorem dX13_does_187 : decode cX13_does 187 = .ok (.iload 4, 2) := by decide +kernel
theorem dX13_does_189 : decode cX13_does 189 = .ok (.iadd, 1) := by decide +kernel
theorem dX13_does_190 : decode cX13_does 190 = .ok (.dup2, 1) := by decide +kernel
theorem dX13_does_191 : decode cX13_does 191 = .ok (.iaload, 1) := by decide +kernel
theorem dX13_does_192 : decode cX13_does 192 = .ok (.iload 5, 2) := by decide +kernel
theorem dX13_does_194 : decode cX13_does 194 = .ok (.iadd, 1) := by decide +kernel
theorem dX13_does_195 : decode cX13_does 195 = .ok (.iastore, 1) := by decide +kernel
theorem dX13_does_196 : decode cX13_does 196 = .ok (.iconst 1, 1) := by decide +kernel
theorem dX13_does_197 : decode cX13_does 197 = .ok (.ireturn, 1) := by decide +kernel
theorem dX13_does_198 : decode cX13_does 198 = .ok (.iload 5, 2) := by decide +kernel
theorem dX13_does_200 : decode cX13_does 200 = .ok (.aload_n 0, 1) := by decide +kernel
theorem dX13_does_201 : decode cX13_does 201 = .ok (.getfield 13, 3) := by decide +kernel
theorem dX13_does_204 : decode cX13_does 204 = .ok (.iload_n 3, 1) := by decide +kernel
theorem dX13_does_205 : decode cX13_does 205 = .ok (.iaload, 1) := by decide +kernel
theorem dX13_does_206 : decode cX13_does 206 = .ok (.if_icmp .gt 20, 3) := by decide +kernel
theorem dX13_does_209 : decode cX13_does 209 = .ok (.iload 5, 2) := by decide +kernel
theorem dX13_does_211 : decode cX13_does 211 = .ok (.aload_n 0, 1) := by decide +kernel
theorem dX13_does_212 : decode cX13_does 212 = .ok (.getfield 7, 3) := by decide +kernel
theorem dX13_does_215 : decode cX13_does 215 = .ok (.iload_n 3, 1) := by decide +kernel
theorem dX13_does_216 : decode cX13_does 216 = .ok (.iaload, 1) := by decide +kernel
theorem dX13_does_217 : decode cX13_does 217 = .ok (.aload_n 0, 1) := by decide +kernel
theorem dX13_does_218 : decode cX13_does 218 = .ok (.iload_n 3, 1) := by decide +kernel
theorem dX13_does_219 : decode cX13_does 219 = .ok (.invokevirtual 277, 3) := by decide +kernel
theorem dX13_does_222 : decode cX13_does 222 = .ok (.isub, 1) := by decide +kernel
theorem dX13_does_223 : decode cX13_does 223 = .ok (.if_icmp .le 5, 3) := by decide +kernel
theorem dX13_does_226 : decode cX13_does 226 = .ok (.iconst 0, 1) := by decide +kernel
theorem dX13_does_227 : decode cX13_does 227 = .ok (.ireturn, 1) := by decide +kernel
theorem dX13_does_228 : decode cX13_does 228 = .ok (.aload_n 0, 1) := by decide +kernel
theorem dX13_does_229 : decode cX13_does 229 = .ok (.getfield 16, 3) := by decide +kernel
theorem dX13_does_232 : decode cX13_does 232 = .ok (.iload_n 3, 1) := by decide +kernel
theorem dX13_does_233 : decode cX13_does 233 = .ok (.iload 5, 2) := by decide +kernel
theorem dX13_does_235 : decode cX13_does 235 = .ok (.iastore, 1) := by decide +kernel
theorem dX13_does_236 : decode cX13_does 236 = .ok (.iconst 1, 1) := by decide +kernel
theorem dX13_does_237 : decode cX13_does 237 = .ok (.ireturn, 1) := by decide +kernel
theorem dX13_does_238 : decode cX13_does 238 = .ok (.aload_n 0, 1) := by decide +kernel
theorem dX13_does_239 : decode cX13_does 239 = .ok (.aload_n 0, 1) := by decide +kernel
theorem dX13_does_240 : decode cX13_does 240 = .ok (.invokevirtual 274, 3) := by decide +kernel
theorem dX13_does_243 : decode cX13_does 243 = .ok (.putfield 251, 3) := by decide +kernel
theorem dX13_does_246 : decode cX13_does 246 = .ok (.iconst 0, 1) := by decide +kernel
theorem dX13_does_247 : decode cX13_does 247 = .ok (.istore 7, 2) := by decide +kernel
theorem dX13_does_249 : decode cX13_does 249 = .ok (.iload 7, 2) := by decide +kernel
theorem dX13_does_251 : decode cX13_does 251 = .ok (.aload_n 0, 1) := by decide +kernel
theorem dX13_does_252 : decode cX13_does 252 = .ok (.getfield 245, 3) := by decide +kernel
theorem dX13_does_255 : decode cX13_does 255 = .ok (.if_icmp .ge 25, 3) := by decide +kernel
theorem dX13_does_258 : decode cX13_does 258 = .ok (.aload_n 0, 1) := by decide +kernel
theorem dX13_does_259 : decode cX13_does 259 = .ok (.dup, 1) := by decide +kernel
theorem dX13_does_260 : decode cX13_does 260 = .ok (.getfield 251, 3) := by decide +kernel
theorem dX13_does_263 : decode cX13_does 263 = .ok (.aload_n 0, 1) := by decide +kernel
theorem dX13_does_264 : decode cX13_does 264 = .ok (.getfield 16, 3) := by decide +kernel
theorem dX13_does_267 : decode cX13_does 267 = .ok (.iload 7, 2) := by decide +kernel
theorem dX13_does_269 : decode cX13_does 269 = .ok (.iaload, 1) := by decide +kernel
theorem dX13_does_270 : decode cX13_does 270 = .ok (.isub, 1) := by decide +kernel
theorem dX13_does_271 : decode cX13_does 271 = .ok (.putfield 251, 3) := by decide +kernel
theorem dX13_does_274 : decode cX13_does 274 = .ok (.iinc 7 1, 3) := by decide +kernel
theorem dX13_does_277 : decode cX13_does 277 = .ok (.goto (-28), 3) := by decide +kernel
theorem dX13_does_280 : decode cX13_does 280 = .ok (.aload_n 0, 1) := by decide +kernel
theorem dX13_does_281 : decode cX13_does 281 = .ok (.invokevirtual 258, 3) := by decide +kernel
theorem dX13_does_284 : decode cX13_does 284 = .ok (.iconst 1, 1) := by decide +kernel
theorem dX13_does_285 : decode cX13_does 285 = .ok (.ireturn, 1) := by decide +kernel
theorem dX13_does_286 : decode cX13_does 286 = .ok (.aload_n 0, 1) := by decide +kernel
theorem dX13_does_287 : decode cX13_does 287 = .ok (.getfield 22, 3) := by decide +kernel
theorem dX13_does_290 : decode cX13_does 290 = .ok (.iload_n 3, 1) := by decide +kernel
theorem dX13_does_291 : decode cX13_does 291 = .ok (.iaload, 1) := by decide +kernel
theorem dX13_does_292 : decode cX13_does 292 = .ok (.ifCond .ne 5, 3) := by decide +kernel
theorem dX13_does_295 : decode cX13_does 295 = .ok (.iconst 0, 1) := by decide +kernel
theorem dX13_does_296 : decode cX13_does 296 = .ok (.ireturn, 1) := by decide +kernel
theorem dX13_does_297 : decode cX13_does 297 = .ok (.aload_n 0, 1) := by decide +kernel
theorem dX13_does_298 : decode cX13_does 298 = .ok (.getfield 22, 3) := by decide +kernel
theorem dX13_does_301 : decode cX13_does 301 = .ok (.iload_n 3, 1) := by decide +kernel
theorem dX13_does_302 : decode cX13_does 302 = .ok (.iconst 0, 1) := by decide +kernel
theorem dX13_does_303 : decode cX13_does 303 = .ok (.iastore, 1) := by decide +kernel
theorem dX13_does_304 : decode cX13_does 304 = .ok (.iconst 1, 1) := by decide +kernel
theorem dX13_does_305 : decode cX13_does 305 = .ok (.ireturn, 1) := by decide +kernel
theorem dX13_does_306 : decode cX13_does 306 = .ok (.iload 6, 2) := by decide +kernel
theorem dX13_does_308 : decode cX13_does 308 = .ok (.iconst (-1), 1) := by decide +kernel
theorem dX13_does_309 : decode cX13_does 309 = .ok (.if_icmp .ne 5, 3) := by decide +kernel
theorem dX13_does_312 : decode cX13_does 312 = .ok (.iconst 0, 1) := by decide +kernel
theorem dX13_does_313 : decode cX13_does 313 = .ok (.ireturn, 1) := by decide +kernel
theorem dX13_does_314 : decode cX13_does 314 = .ok (.aload_n 0, 1) := by decide +kernel
theorem dX13_does_315 : decode cX13_does 315 = .ok (.getfield 22, 3) := by decide +kernel
theorem dX13_does_318 : decode cX13_does 318 = .ok (.iload 6, 2) := by decide +kernel
theorem dX13_does_320 : decode cX13_does 320 = .ok (.iconst 1, 1) := by decide +kernel
theorem dX13_does_321 : decode cX13_does 321 = .ok (.iastore, 1) := by decide +kernel
theorem dX13_does_322 : decode cX13_does 322 = .ok (.aload_n 0, 1) := by decide +kernel
theorem dX13_does_323 : decode cX13_does 323 = .ok (.getfield 25, 3) := by decide +kernel
theorem dX13_does_326 : decode cX13_does 326 = .ok (.iload 6, 2) := by decide +kernel
theorem dX13_does_328 : decode cX13_does 328 = .ok (.iload_n 3, 1) := by decide +kernel
theorem dX13_does_329 : decode cX13_does 329 = .ok (.iastore, 1) := by decide +kernel
theorem dX13_does_330 : decode cX13_does 330 = .ok (.aload_n 0, 1) := by decide +kernel
theorem dX13_does_331 : decode cX13_does 331 = .ok (.getfield 28, 3) := by decide +kernel
theorem dX13_does_334 : decode cX13_does 334 = .ok (.iload 6, 2) := by decide +kernel
theorem dX13_does_336 : decode cX13_does 336 = .ok (.iload 4, 2) := by decide +kernel
theorem dX13_does_338 : decode cX13_does 338 = .ok (.iastore, 1) := by decide +kernel
theorem dX13_does_339 : decode cX13_does 339 = .ok (.aload_n 0, 1) := by decide +kernel
theorem dX13_does_340 : decode cX13_does 340 = .ok (.getfield 31, 3) := by decide +kernel
theorem dX13_does_343 : decode cX13_does 343 = .ok (.iload 6, 2) := by decide +kernel
theorem dX13_does_345 : decode cX13_does 345 = .ok (.aload_n 0, 1) := by decide +kernel
theorem dX13_does_346 : decode cX13_does 346 = .ok (.getfield 68, 3) := by decide +kernel
theorem dX13_does_349 : decode cX13_does 349 = .ok (.iload_n 2, 1) := by decide +kernel
theorem dX13_does_350 : decode cX13_does 350 = .ok (.iconst 4, 1) := by decide +kernel
theorem dX13_does_351 : decode cX13_does 351 = .ok (.iadd, 1) := by decide +kernel
theorem dX13_does_352 : decode cX13_does 352 = .ok (.iaload, 1) := by decide +kernel
theorem dX13_does_353 : decode cX13_does 353 = .ok (.iastore, 1) := by decide +kernel
theorem dX13_does_354 : decode cX13_does 354 = .ok (.iconst 0, 1) := by decide +kernel
theorem dX13_does_355 : decode cX13_does 355 = .ok (.istore 7, 2) := by decide +kernel
theorem dX13_does_357 : decode cX13_does 357 = .ok (.iload 7, 2) := by decide +kernel
theorem dX13_does_359 : decode cX13_does 359 = .ok (.aload_n 0, 1) := by decide +kernel
theorem dX13_does_360 : decode cX13_does 360 = .ok (.getfield 31, 3) := by decide +kernel
theorem dX13_does_363 : decode cX13_does 363 = .ok (.iload 6, 2) := by decide +kernel
theorem dX13_does_365 : decode cX13_does 365 = .ok (.iaload, 1) := by decide +kernel
theorem dX13_does_366 : decode cX13_does 366 = .ok (.if_icmp .ge 32, 3) := by decide +kernel
theorem dX13_does_369 : decode cX13_does 369 = .ok (.aload_n 0, 1) := by decide +kernel
theorem dX13_does_370 : decode cX13_does 370 = .ok (.getfield 34, 3) := by decide +kernel
theorem dX13_does_373 : decode cX13_does 373 = .ok (.iconst 5, 1) := by decide +kernel
theorem dX13_does_374 : decode cX13_does 374 = .ok (.iload 6, 2) := by decide +kernel
theorem dX13_does_376 : decode cX13_does 376 = .ok (.imul, 1) := by decide +kernel
theorem dX13_does_377 : decode cX13_does 377 = .ok (.iload 7, 2) := by decide +kernel
theorem dX13_does_379 : decode cX13_does 379 = .ok (.iadd, 1) := by decide +kernel
theorem dX13_does_380 : decode cX13_does 380 = .ok (.aload_n 0, 1) := by decide +kernel
theorem dX13_does_381 : decode cX13_does 381 = .ok (.getfield 71, 3) := by decide +kernel
theorem dX13_does_384 : decode cX13_does 384 = .ok (.iconst 5, 1) := by decide +kernel
theorem dX13_does_385 : decode cX13_does 385 = .ok (.iload_n 1, 1) := by decide +kernel
theorem dX13_does_386 : decode cX13_does 386 = .ok (.imul, 1) := by decide +kernel
theorem dX13_does_387 : decode cX13_does 387 = .ok (.iload 7, 2) := by decide +kernel
theorem dX13_does_389 : decode cX13_does 389 = .ok (.iadd, 1) := by decide +kernel
theorem dX13_does_390 : decode cX13_does 390 = .ok (.iaload, 1) := by decide +kernel
theorem dX13_does_391 : decode cX13_does 391 = .ok (.iastore, 1) := by decide +kernel
theorem dX13_does_392 : decode cX13_does 392 = .ok (.iinc 7 1, 3) := by decide +kernel
theorem dX13_does_395 : decode cX13_does 395 = .ok (.goto (-38), 3) := by decide +kernel
theorem dX13_does_398 : decode cX13_does 398 = .ok (.iconst 1, 1) := by decide +kernel
theorem dX13_does_399 : decode cX13_does 399 = .ok (.ireturn, 1) := by decide +kernel
theorem dX13_does_400 : decode cX13_does 400 = .ok (.aload_n 0, 1) := by decide +kernel
theorem dX13_does_401 : decode cX13_does 401 = .ok (.iload_n 3, 1) := by decide +kernel
theorem dX13_does_402 : decode cX13_does 402 = .ok (.iload 4, 2) := by decide +kernel
theorem dX13_does_404 : decode cX13_does 404 = .ok (.invokevirtual 280, 3) := by decide +kernel
theorem dX13_does_407 : decode cX13_does 407 = .ok (.ifCond .ne 5, 3) := by decide +kernel
theorem dX13_does_410 : decode cX13_does 410 = .ok (.iconst 0, 1) := by decide +kernel
theorem dX13_does_411 : decode cX13_does 411 = .ok (.ireturn, 1) := by decide +kernel
theorem dX13_does_412 : decode cX13_does 412 = .ok (.aload_n 0, 1) := by decide +kernel
theorem dX13_does_413 : decode cX13_does 413 = .ok (.getfield 28, 3) := by decide +kernel
theorem dX13_does_416 : decode cX13_does 416 = .ok (.iload_n 3, 1) := by decide +kernel
theorem dX13_does_417 : decode cX13_does 417 = .ok (.iaload, 1) := by decide +kernel
theorem dX13_does_418 : decode cX13_does 418 = .ok (.istore 7, 2) := by decide +kernel
theorem dX13_does_420 : decode cX13_does 420 = .ok (.aload_n 0, 1) := by decide +kernel
theorem dX13_does_421 : decode cX13_does 421 = .ok (.getfield 28, 3) := by decide +kernel
theorem dX13_does_424 : decode cX13_does 424 = .ok (.iload_n 3, 1) := by decide +kernel
theorem dX13_does_425 : decode cX13_does 425 = .ok (.aload_n 0, 1) := by decide +kernel
theorem dX13_does_426 : decode cX13_does 426 = .ok (.getfield 28, 3) := by decide +kernel
theorem dX13_does_429 : decode cX13_does 429 = .ok (.iload 4, 2) := by decide +kernel
theorem dX13_does_431 : decode cX13_does 431 = .ok (.iaload, 1) := by decide +kernel
theorem dX13_does_432 : decode cX13_does 432 = .ok (.iastore, 1) := by decide +kernel
theorem dX13_does_433 : decode cX13_does 433 = .ok (.aload_n 0, 1) := by decide +kernel
theorem dX13_does_434 : decode cX13_does 434 = .ok (.getfield 28, 3) := by decide +kernel
theorem dX13_does_437 : decode cX13_does 437 = .ok (.iload 4, 2) := by decide +kernel
theorem dX13_does_439 : decode cX13_does 439 = .ok (.iload 7, 2) := by decide +kernel
theorem dX13_does_441 : decode cX13_does 441 = .ok (.iastore, 1) := by decide +kernel
theorem dX13_does_442 : decode cX13_does 442 = .ok (.iconst 1, 1) := by decide +kernel
theorem dX13_does_443 : decode cX13_does 443 = .ok (.ireturn, 1) := by decide +kernel
theorem dX13_days_0 : decode cX13_days 0 = .ok (.aload_n 0, 1) := by decide +kernel
theorem dX13_days_1 : decode cX13_days 1 = .ok (.iconst 0, 1) := by decide +kernel
theorem dX13_days_2 : decode cX13_days 2 = .ok (.putfield 135, 3) := by decide +kernel
theorem dX13_days_5 : decode cX13_days 5 = .ok (.aload_n 0, 1) := by decide +kernel
theorem dX13_days_6 : decode cX13_days 6 = .ok (.iload_n 1, 1) := by decide +kernel
theorem dX13_days_7 : decode cX13_days 7 = .ok (.ifCond .lt 15, 3) := by decide +kernel
theorem dX13_days_10 : decode cX13_days 10 = .ok (.iload_n 1, 1) := by decide +kernel
theorem dX13_days_11 : decode cX13_days 11 = .ok (.aload_n 0, 1) := by decide +kernel
theorem dX13_days_12 : decode cX13_days 12 = .ok (.getfield 138, 3) := by decide +kernel
theorem dX13_days_15 : decode cX13_days 15 = .ok (.if_icmp .gt 7, 3) := by decide +kernel
theorem dX13_days_18 : decode cX13_days 18 = .ok (.iconst 1, 1) := by decide +kernel
theorem dX13_days_19 : decode cX13_days 19 = .ok (.goto 4, 3) := by decide +kernel
theorem dX13_days_22 : decode cX13_days 22 = .ok (.iconst 0, 1) := by decide +kernel
theorem dX13_days_23 : decode cX13_days 23 = .ok (.iconst 1, 1) := by decide +kernel
theorem dX13_days_24 : decode cX13_days 24 = .ok (.invokevirtual 235, 3) := by decide +kernel
theorem dX13_days_27 : decode cX13_days 27 = .ok (.ifCond .ne 5, 3) := by decide +kernel
theorem dX13_days_30 : decode cX13_days 30 = .ok (.iconst 0, 1) := by decide +kernel
theorem dX13_days_31 : decode cX13_days 31 = .ok (.ireturn, 1) := by decide +kernel
theorem dX13_days_32 : decode cX13_days 32 = .ok (.aload_n 0, 1) := by decide +kernel
theorem dX13_days_33 : decode cX13_days 33 = .ok (.iconst 0, 1) := by decide +kernel
theorem dX13_days_34 : decode cX13_days 34 = .ok (.putfield 267, 3) := by decide +kernel
theorem dX13_days_37 : decode cX13_days 37 = .ok (.aload_n 0, 1) := by decide +kernel
theorem dX13_days_38 : decode cX13_days 38 = .ok (.iload_n 1, 1) := by decide +kernel
theorem dX13_days_39 : decode cX13_days 39 = .ok (.invokevirtual 239, 3) := by decide +kernel
theorem dX13_days_42 : decode cX13_days 42 = .ok (.aload_n 0, 1) := by decide +kernel
theorem dX13_days_43 : decode cX13_days 43 = .ok (.invokevirtual 191, 3) := by decide +kernel
theorem dX13_days_46 : decode cX13_days 46 = .ok (.ifCond .eq 17, 3) := by decide +kernel
theorem dX13_days_49 : decode cX13_days 49 = .ok (.aload_n 0, 1) := by decide +kernel
theorem dX13_days_50 : decode cX13_days 50 = .ok (.getfield 165, 3) := by decide +kernel
theorem dX13_days_53 : decode cX13_days 53 = .ok (.ifCond .eq 10, 3) := by decide +kernel
theorem dX13_days_56 : decode cX13_days 56 = .ok (.aload_n 0, 1) := by decide +kernel
theorem dX13_days_57 : decode cX13_days 57 = .ok (.invokevirtual 284, 3) := by decide +kernel
theorem dX13_days_60 : decode cX13_days 60 = .ok (.goto (-18), 3) := by decide +kernel
theorem dX13_days_63 : decode cX13_days 63 = .ok (.aload_n 0, 1) := by decide +kernel
theorem dX13_days_64 : decode cX13_days 64 = .ok (.invokevirtual 191, 3) := by decide +kernel
theorem dX13_days_67 : decode cX13_days 67 = .ok (.ifCond .ne 20, 3) := by decide +kernel
theorem dX13_days_70 : decode cX13_days 70 = .ok (.aload_n 0, 1) := by decide +kernel
theorem dX13_days_71 : decode cX13_days 71 = .ok (.getfield 44, 3) := by decide +kernel
theorem dX13_days_74 : decode cX13_days 74 = .ok (.iconst 0, 1) := by decide +kernel
theorem dX13_days_75 : decode cX13_days 75 = .ok (.dup2, 1) := by decide +kernel
theorem dX13_days_76 : decode cX13_days 76 = .ok (.iaload, 1) := by decide +kernel
theorem dX13_days_77 : decode cX13_days 77 = .ok (.iconst 1, 1) := by decide +kernel
theorem dX13_days_78 : decode cX13_days 78 = .ok (.iadd, 1) := by decide +kernel
theorem dX13_days_79 : decode cX13_days 79 = .ok (.iastore, 1) := by decide +kernel
theorem dX13_days_80 : decode cX13_days 80 = .ok (.iconst (-1), 1) := by decide +kernel
theorem dX13_days_81 : decode cX13_days 81 = .ok (.aload_n 0, 1) := by decide +kernel
theorem dX13_days_82 : decode cX13_days 82 = .ok (.getfield 188, 3) := by decide +kernel
theorem dX13_days_85 : decode cX13_days 85 = .ok (.isub, 1) := by decide +kernel
theorem dX13_days_86 : decode cX13_days 86 = .ok (.ireturn, 1) := by decide +kernel
theorem dX13_days_87 : decode cX13_days 87 = .ok (.iconst 0, 1) := by decide +kernel
theorem dX13_days_88 : decode cX13_days 88 = .ok (.istore_n 2, 1) := by decide +kernel
theorem dX13_days_89 : decode cX13_days 89 = .ok (.iload_n 2, 1) := by decide +kernel
theorem dX13_days_90 : decode cX13_days 90 = .ok (.aload_n 0, 1) := by decide +kernel
theorem dX13_days_91 : decode cX13_days 91 = .ok (.getfield 267, 3) := by decide +kernel
theorem dX13_days_94 : decode cX13_days 94 = .ok (.if_icmp .ge 32, 3) := by decide +kernel
theorem dX13_days_97 : decode cX13_days 97 = .ok (.aload_n 0, 1) := by decide +kernel
theorem dX13_days_98 : decode cX13_days 98 = .ok (.iload_n 2, 1) := by decide +kernel
theorem dX13_days_99 : decode cX13_days 99 = .ok (.invokevirtual 287, 3) := by decide +kernel
theorem dX13_days_102 : decode cX13_days 102 = .ok (.ifCond .eq 6, 3) := by decide +kernel
theorem dX13_days_105 : decode cX13_days 105 = .ok (.goto 15, 3) := by decide +kernel
theorem dX13_days_108 : decode cX13_days 108 = .ok (.aload_n 0, 1) := by decide +kernel
theorem dX13_days_109 : decode cX13_days 109 = .ok (.getfield 44, 3) := by decide +kernel
theorem dX13_days_112 : decode cX13_days 112 = .ok (.iconst 1, 1) := by decide +kernel
theorem dX13_days_113 : decode cX13_days 113 = .ok (.dup2, 1) := by decide +kernel
theorem dX13_days_114 : decode cX13_days 114 = .ok (.iaload, 1) := by decide +kernel
theorem dX13_days_115 : decode cX13_days 115 = .ok (.iconst 1, 1) := by decide +kernel
theorem dX13_days_116 : decode cX13_days 116 = .ok (.iadd, 1) := by decide +kernel
theorem dX13_days_117 : decode cX13_days 117 = .ok (.iastore, 1) := by decide +kernel
theorem dX13_days_118 : decode cX13_days 118 = .ok (.iload_n 2, 1) := by decide +kernel
theorem dX13_days_119 : decode cX13_days 119 = .ok (.ireturn, 1) := by decide +kernel
theorem dX13_days_120 : decode cX13_days 120 = .ok (.iinc 2 1, 3) := by decide +kernel
theorem dX13_days_123 : decode cX13_days 123 = .ok (.goto (-34), 3) := by decide +kernel
theorem dX13_days_126 : decode cX13_days 126 = .ok (.aload_n 0, 1) := by decide +kernel
theorem dX13_days_127 : decode cX13_days 127 = .ok (.getfield 267, 3) := by decide +kernel
theorem dX13_days_130 : decode cX13_days 130 = .ok (.ireturn, 1) := by decide +kernel
theorem dX13_isOwner_0 : decode cX13_isOwner 0 = .ok (.aload_n 0, 1) := by decide +kernel
theorem dX13_isOwner_1 : decode cX13_isOwner 1 = .ok (.iload_n 1, 1) := by decide +kernel
theorem dX13_isOwner_2 : decode cX13_isOwner 2 = .ok (.ifCond .lt 15, 3) := by decide +kernel
theorem dX13_isOwner_5 : decode cX13_isOwner 5 = .ok (.iload_n 1, 1) := by decide +kernel
theorem dX13_isOwner_6 : decode cX13_isOwner 6 = .ok (.aload_n 0, 1) := by decide +kernel
theorem dX13_isOwner_7 : decode cX13_isOwner 7 = .ok (.getfield 245, 3) := by decide +kernel
theorem dX13_isOwner_10 : decode cX13_isOwner 10 = .ok (.if_icmp .ge 7, 3) := by decide +kernel
theorem dX13_isOwner_13 : decode cX13_isOwner 13 = .ok (.iconst 1, 1) := by decide +kernel
theorem dX13_isOwner_14 : decode cX13_isOwner 14 = .ok (.goto 4, 3) := by decide +kernel
theorem dX13_isOwner_17 : decode cX13_isOwner 17 = .ok (.iconst 0, 1) := by decide +kernel
theorem dX13_isOwner_18 : decode cX13_isOwner 18 = .ok (.iconst 1, 1) := by decide +kernel
theorem dX13_isOwner_19 : decode cX13_isOwner 19 = .ok (.invokevirtual 235, 3) := by decide +kernel
theorem dX13_isOwner_22 : decode cX13_isOwner 22 = .ok (.ireturn, 1) := by decide +kernel
theorem dX13_isDoor_0 : decode cX13_isDoor 0 = .ok (.aload_n 0, 1) := by decide +kernel
theorem dX13_isDoor_1 : decode cX13_isDoor 1 = .ok (.iload_n 1, 1) := by decide +kernel
theorem dX13_isDoor_2 : decode cX13_isDoor 2 = .ok (.ifCond .lt 23, 3) := by decide +kernel
theorem dX13_isDoor_5 : decode cX13_isDoor 5 = .ok (.iload_n 1, 1) := by decide +kernel
theorem dX13_isDoor_6 : decode cX13_isDoor 6 = .ok (.bipush 10, 2) := by decide +kernel
theorem dX13_isDoor_8 : decode cX13_isDoor 8 = .ok (.if_icmp .ge 17, 3) := by decide +kernel
theorem dX13_isDoor_11 : decode cX13_isDoor 11 = .ok (.aload_n 0, 1) := by decide +kernel
theorem dX13_isDoor_12 : decode cX13_isDoor 12 = .ok (.getfield 22, 3) := by decide +kernel
theorem dX13_isDoor_15 : decode cX13_isDoor 15 = .ok (.iload_n 1, 1) := by decide +kernel
theorem dX13_isDoor_16 : decode cX13_isDoor 16 = .ok (.iaload, 1) := by decide +kernel
theorem dX13_isDoor_17 : decode cX13_isDoor 17 = .ok (.iconst 1, 1) := by decide +kernel
theorem dX13_isDoor_18 : decode cX13_isDoor 18 = .ok (.if_icmp .ne 7, 3) := by decide +kernel
theorem dX13_isDoor_21 : decode cX13_isDoor 21 = .ok (.iconst 1, 1) := by decide +kernel
theorem dX13_isDoor_22 : decode cX13_isDoor 22 = .ok (.goto 4, 3) := by decide +kernel
theorem dX13_isDoor_25 : decode cX13_isDoor 25 = .ok (.iconst 0, 1) := by decide +kernel
theorem dX13_isDoor_26 : decode cX13_isDoor 26 = .ok (.iconst 1, 1) := by decide +kernel
theorem dX13_isDoor_27 : decode cX13_isDoor 27 = .ok (.invokevirtual 235, 3) := by decide +kernel
theorem dX13_isDoor_30 : decode cX13_isDoor 30 = .ok (.ireturn, 1) := by decide +kernel
theorem dX13_isBase_0 : decode cX13_isBase 0 = .ok (.aload_n 0, 1) := by decide +kernel
theorem dX13_isBase_1 : decode cX13_isBase 1 = .ok (.iload_n 1, 1) := by decide +kernel
theorem dX13_isBase_2 : decode cX13_isBase 2 = .ok (.iconst 0, 1) := by decide +kernel
theorem dX13_isBase_3 : decode cX13_isBase 3 = .ok (.bipush 40, 2) := by decide +kernel
theorem dX13_isBase_5 : decode cX13_isBase 5 = .ok (.invokestatic 290, 3) := by decide +kernel
theorem dX13_isBase_8 : decode cX13_isBase 8 = .ok (.iload_n 2, 1) := by decide +kernel
theorem dX13_isBase_9 : decode cX13_isBase 9 = .ok (.invokevirtual 235, 3) := by decide +kernel
theorem dX13_isBase_12 : decode cX13_isBase 12 = .ok (.ireturn, 1) := by decide +kernel
theorem dX13_isSpan_0 : decode cX13_isSpan 0 = .ok (.aload_n 0, 1) := by decide +kernel
theorem dX13_isSpan_1 : decode cX13_isSpan 1 = .ok (.iload_n 1, 1) := by decide +kernel
theorem dX13_isSpan_2 : decode cX13_isSpan 2 = .ok (.ifCond .lt 18, 3) := by decide +kernel
theorem dX13_isSpan_5 : decode cX13_isSpan 5 = .ok (.iload_n 2, 1) := by decide +kernel
theorem dX13_isSpan_6 : decode cX13_isSpan 6 = .ok (.bipush 40, 2) := by decide +kernel
theorem dX13_isSpan_8 : decode cX13_isSpan 8 = .ok (.if_icmp .gt 12, 3) := by decide +kernel
theorem dX13_isSpan_11 : decode cX13_isSpan 11 = .ok (.iload_n 1, 1) := by decide +kernel
theorem dX13_isSpan_12 : decode cX13_isSpan 12 = .ok (.iload_n 2, 1) := by decide +kernel
theorem dX13_isSpan_13 : decode cX13_isSpan 13 = .ok (.if_icmp .gt 7, 3) := by decide +kernel
theorem dX13_isSpan_16 : decode cX13_isSpan 16 = .ok (.iconst 1, 1) := by decide +kernel
theorem dX13_isSpan_17 : decode cX13_isSpan 17 = .ok (.goto 4, 3) := by decide +kernel
theorem dX13_isSpan_20 : decode cX13_isSpan 20 = .ok (.iconst 0, 1) := by decide +kernel
theorem dX13_isSpan_21 : decode cX13_isSpan 21 = .ok (.iload_n 3, 1) := by decide +kernel
theorem dX13_isSpan_22 : decode cX13_isSpan 22 = .ok (.invokevirtual 235, 3) := by decide +kernel
theorem dX13_isSpan_25 : decode cX13_isSpan 25 = .ok (.ireturn, 1) := by decide +kernel
theorem dX13_count_0 : decode cX13_count 0 = .ok (.aload_n 0, 1) := by decide +kernel
theorem dX13_count_1 : decode cX13_count 1 = .ok (.iconst 0, 1) := by decide +kernel
theorem dX13_count_2 : decode cX13_count 2 = .ok (.putfield 135, 3) := by decide +kernel
theorem dX13_count_5 : decode cX13_count 5 = .ok (.aload_n 0, 1) := by decide +kernel
theorem dX13_count_6 : decode cX13_count 6 = .ok (.iload_n 1, 1) := by decide +kernel
theorem dX13_count_7 : decode cX13_count 7 = .ok (.iconst 0, 1) := by decide +kernel
theorem dX13_count_8 : decode cX13_count 8 = .ok (.bipush 9, 2) := by decide +kernel
theorem dX13_count_10 : decode cX13_count 10 = .ok (.invokestatic 290, 3) := by decide +kernel
theorem dX13_count_13 : decode cX13_count 13 = .ok (.iconst 1, 1) := by decide +kernel
theorem dX13_count_14 : decode cX13_count 14 = .ok (.invokevirtual 235, 3) := by decide +kernel
theorem dX13_count_17 : decode cX13_count 17 = .ok (.ifCond .ne 5, 3) := by decide +kernel
theorem dX13_count_20 : decode cX13_count 20 = .ok (.iconst 0, 1) := by decide +kernel
theorem dX13_count_21 : decode cX13_count 21 = .ok (.ireturn, 1) := by decide +kernel
theorem dX13_count_22 : decode cX13_count 22 = .ok (.iconst 0, 1) := by decide +kernel
theorem dX13_count_23 : decode cX13_count 23 = .ok (.istore_n 2, 1) := by decide +kernel
theorem dX13_count_24 : decode cX13_count 24 = .ok (.iconst 0, 1) := by decide +kernel
theorem dX13_count_25 : decode cX13_count 25 = .ok (.istore_n 3, 1) := by decide +kernel
theorem dX13_count_26 : decode cX13_count 26 = .ok (.iload_n 3, 1) := by decide +kernel
theorem dX13_count_27 : decode cX13_count 27 = .ok (.bipush 10, 2) := by decide +kernel
theorem dX13_count_29 : decode cX13_count 29 = .ok (.if_icmp .ge 20, 3) := by decide +kernel
theorem dX13_count_32 : decode cX13_count 32 = .ok (.iload_n 2, 1) := by decide +kernel
theorem dX13_count_33 : decode cX13_count 33 = .ok (.aload_n 0, 1) := by decide +kernel
theorem dX13_count_34 : decode cX13_count 34 = .ok (.getfield 22, 3) := by decide +kernel
theorem dX13_count_37 : decode cX13_count 37 = .ok (.iload_n 3, 1) := by decide +kernel
theorem dX13_count_38 : decode cX13_count 38 = .ok (.iaload, 1) := by decide +kernel
theorem dX13_count_39 : decode cX13_count 39 = .ok (.iload_n 3, 1) := by decide +kernel
theorem dX13_count_40 : decode cX13_count 40 = .ok (.ishl, 1) := by decide +kernel
theorem dX13_count_41 : decode cX13_count 41 = .ok (.ior, 1) := by decide +kernel
theorem dX13_count_42 : decode cX13_count 42 = .ok (.istore_n 2, 1) := by decide +kernel
theorem dX13_count_43 : decode cX13_count 43 = .ok (.iinc 3 1, 3) := by decide +kernel
theorem dX13_count_46 : decode cX13_count 46 = .ok (.goto (-20), 3) := by decide +kernel
theorem dX13_count_49 : decode cX13_count 49 = .ok (.iload_n 1, 1) := by decide +kernel
theorem dX13_count_50 : decode cX13_count 50 = .ok (.tableswitch 74 0 6 #[42, 47, 49, 54, 59, 64, 69], 42) := by decide +kernel
theorem dX13_count_92 : decode cX13_count 92 = .ok (.aload_n 0, 1) := by decide +kernel
theorem dX13_count_93 : decode cX13_count 93 = .ok (.getfield 245, 3) := by decide +kernel
theorem dX13_count_96 : decode cX13_count 96 = .ok (.ireturn, 1) := by decide +kernel
theorem dX13_count_97 : decode cX13_count 97 = .ok (.iload_n 2, 1) := by decide +kernel
theorem dX13_count_98 : decode cX13_count 98 = .ok (.ireturn, 1) := by decide +kernel
theorem dX13_count_99 : decode cX13_count 99 = .ok (.aload_n 0, 1) := by decide +kernel
theorem dX13_count_100 : decode cX13_count 100 = .ok (.getfield 248, 3) := by decide +kernel
theorem dX13_count_103 : decode cX13_count 103 = .ok (.ireturn, 1) := by decide +kernel
theorem dX13_count_104 : decode cX13_count 104 = .ok (.aload_n 0, 1) := by decide +kernel
theorem dX13_count_105 : decode cX13_count 105 = .ok (.getfield 251, 3) := by decide +kernel
theorem dX13_count_108 : decode cX13_count 108 = .ok (.ireturn, 1) := by decide +kernel
theorem dX13_count_109 : decode cX13_count 109 = .ok (.aload_n 0, 1) := by decide +kernel
theorem dX13_count_110 : decode cX13_count 110 = .ok (.invokevirtual 274, 3) := by decide +kernel
theorem dX13_count_113 : decode cX13_count 113 = .ok (.ireturn, 1) := by decide +kernel
theorem dX13_count_114 : decode cX13_count 114 = .ok (.aload_n 0, 1) := by decide +kernel
theorem dX13_count_115 : decode cX13_count 115 = .ok (.getfield 261, 3) := by decide +kernel
theorem dX13_count_118 : decode cX13_count 118 = .ok (.ireturn, 1) := by decide +kernel
theorem dX13_count_119 : decode cX13_count 119 = .ok (.aload_n 0, 1) := by decide +kernel
theorem dX13_count_120 : decode cX13_count 120 = .ok (.getfield 138, 3) := by decide +kernel
theorem dX13_count_123 : decode cX13_count 123 = .ok (.ireturn, 1) := by decide +kernel
theorem dX13_count_124 : decode cX13_count 124 = .ok (.aload_n 0, 1) := by decide +kernel
theorem dX13_count_125 : decode cX13_count 125 = .ok (.getfield 44, 3) := by decide +kernel
theorem dX13_count_128 : decode cX13_count 128 = .ok (.iload_n 1, 1) := by decide +kernel
theorem dX13_count_129 : decode cX13_count 129 = .ok (.bipush 7, 2) := by decide +kernel
theorem dX13_count_131 : decode cX13_count 131 = .ok (.isub, 1) := by decide +kernel
theorem dX13_count_132 : decode cX13_count 132 = .ok (.iaload, 1) := by decide +kernel
theorem dX13_count_133 : decode cX13_count 133 = .ok (.ireturn, 1) := by decide +kernel
theorem dX13_worthOf_0 : decode cX13_worthOf 0 = .ok (.iload_n 2, 1) := by decide +kernel
theorem dX13_worthOf_1 : decode cX13_worthOf 1 = .ok (.iconst 2, 1) := by decide +kernel
theorem dX13_worthOf_2 : decode cX13_worthOf 2 = .ok (.if_icmp .ge 18, 3) := by decide +kernel
theorem dX13_worthOf_5 : decode cX13_worthOf 5 = .ok (.iload_n 2, 1) := by decide +kernel
theorem dX13_worthOf_6 : decode cX13_worthOf 6 = .ok (.ifCond .ne 7, 3) := by decide +kernel
theorem dX13_worthOf_9 : decode cX13_worthOf 9 = .ok (.iconst 0, 1) := by decide +kernel
theorem dX13_worthOf_10 : decode cX13_worthOf 10 = .ok (.goto 9, 3) := by decide +kernel
theorem dX13_worthOf_13 : decode cX13_worthOf 13 = .ok (.aload_n 0, 1) := by decide +kernel
theorem dX13_worthOf_14 : decode cX13_worthOf 14 = .ok (.getfield 31, 3) := by decide +kernel
theorem dX13_worthOf_17 : decode cX13_worthOf 17 = .ok (.iload_n 1, 1) := by decide +kernel
theorem dX13_worthOf_18 : decode cX13_worthOf 18 = .ok (.iaload, 1) := by decide +kernel
theorem dX13_worthOf_19 : decode cX13_worthOf 19 = .ok (.ireturn, 1) := by decide +kernel
theorem dX13_worthOf_20 : decode cX13_worthOf 20 = .ok (.iconst 0, 1) := by decide +kernel
theorem dX13_worthOf_21 : decode cX13_worthOf 21 = .ok (.istore_n 3, 1) := by decide +kernel
theorem dX13_worthOf_22 : decode cX13_worthOf 22 = .ok (.iconst 1, 1) := by decide +kernel
theorem dX13_worthOf_23 : decode cX13_worthOf 23 = .ok (.istore 4, 2) := by decide +kernel
theorem dX13_worthOf_25 : decode cX13_worthOf 25 = .ok (.iconst 0, 1) := by decide +kernel
theorem dX13_worthOf_26 : decode cX13_worthOf 26 = .ok (.istore 5, 2) := by decide +kernel
theorem dX13_worthOf_28 : decode cX13_worthOf 28 = .ok (.iconst 0, 1) := by decide +kernel
theorem dX13_worthOf_29 : decode cX13_worthOf 29 = .ok (.istore 6, 2) := by decide +kernel
theorem dX13_worthOf_31 : decode cX13_worthOf 31 = .ok (.iload 6, 2) := by decide +kernel
theorem dX13_worthOf_33 : decode cX13_worthOf 33 = .ok (.aload_n 0, 1) := by decide +kernel
theorem dX13_worthOf_34 : decode cX13_worthOf 34 = .ok (.getfield 31, 3) := by decide +kernel
theorem dX13_worthOf_37 : decode cX13_worthOf 37 = .ok (.iload_n 1, 1) := by decide +kernel
theorem dX13_worthOf_38 : decode cX13_worthOf 38 = .ok (.iaload, 1) := by decide +kernel
theorem dX13_worthOf_39 : decode cX13_worthOf 39 = .ok (.if_icmp .ge 65, 3) := by decide +kernel
theorem dX13_worthOf_42 : decode cX13_worthOf 42 = .ok (.aload_n 0, 1) := by decide +kernel
theorem dX13_worthOf_43 : decode cX13_worthOf 43 = .ok (.getfield 34, 3) := by decide +kernel
theorem dX13_worthOf_46 : decode cX13_worthOf 46 = .ok (.iconst 5, 1) := by decide +kernel
theorem dX13_worthOf_47 : decode cX13_worthOf 47 = .ok (.iload_n 1, 1) := by decide +kernel
theorem dX13_worthOf_48 : decode cX13_worthOf 48 = .ok (.imul, 1) := by decide +kernel
theorem dX13_worthOf_49 : decode cX13_worthOf 49 = .ok (.iload 6, 2) := by decide +kernel
theorem dX13_worthOf_51 : decode cX13_worthOf 51 = .ok (.iadd, 1) := by decide +kernel
theorem dX13_worthOf_52 : decode cX13_worthOf 52 = .ok (.iaload, 1) := by decide +kernel
theorem dX13_worthOf_53 : decode cX13_worthOf 53 = .ok (.istore 7, 2) := by decide +kernel
theorem dX13_worthOf_55 : decode cX13_worthOf 55 = .ok (.iload 5, 2) := by decide +kernel
theorem dX13_worthOf_57 : decode cX13_worthOf 57 = .ok (.ifCond .ne 9, 3) := by decide +kernel
theorem dX13_worthOf_60 : decode cX13_worthOf 60 = .ok (.iload 7, 2) := by decide +kernel
theorem dX13_worthOf_62 : decode cX13_worthOf 62 = .ok (.iload_n 2, 1) := by decide +kernel
theorem dX13_worthOf_63 : decode cX13_worthOf 63 = .ok (.if_icmp .lt 7, 3) := by decide +kernel
theorem dX13_worthOf_66 : decode cX13_worthOf 66 = .ok (.iconst 1, 1) := by decide +kernel
theorem dX13_worthOf_67 : decode cX13_worthOf 67 = .ok (.goto 4, 3) := by decide +kernel
theorem dX13_worthOf_70 : decode cX13_worthOf 70 = .ok (.iconst 0, 1) := by decide +kernel
theorem dX13_worthOf_71 : decode cX13_worthOf 71 = .ok (.istore 5, 2) := by decide +kernel
theorem dX13_worthOf_73 : decode cX13_worthOf 73 = .ok (.iload_n 3, 1) := by decide +kernel
theorem dX13_worthOf_74 : decode cX13_worthOf 74 = .ok (.iload_n 2, 1) := by decide +kernel
theorem dX13_worthOf_75 : decode cX13_worthOf 75 = .ok (.imul, 1) := by decide +kernel
theorem dX13_worthOf_76 : decode cX13_worthOf 76 = .ok (.iload 7, 2) := by decide +kernel
theorem dX13_worthOf_78 : decode cX13_worthOf 78 = .ok (.iload_n 2, 1) := by decide +kernel
theorem dX13_worthOf_79 : decode cX13_worthOf 79 = .ok (.if_icmp .ge 8, 3) := by decide +kernel
theorem dX13_worthOf_82 : decode cX13_worthOf 82 = .ok (.iload 7, 2) := by decide +kernel
theorem dX13_worthOf_84 : decode cX13_worthOf 84 = .ok (.goto 6, 3) := by decide +kernel
theorem dX13_worthOf_87 : decode cX13_worthOf 87 = .ok (.iload_n 2, 1) := by decide +kernel
theorem dX13_worthOf_88 : decode cX13_worthOf 88 = .ok (.iconst 1, 1) := by decide +kernel
theorem dX13_worthOf_89 : decode cX13_worthOf 89 = .ok (.isub, 1) := by decide +kernel
theorem dX13_worthOf_90 : decode cX13_worthOf 90 = .ok (.iadd, 1) := by decide +kernel
theorem dX13_worthOf_91 : decode cX13_worthOf 91 = .ok (.istore_n 3, 1) := by decide +kernel
theorem dX13_worthOf_92 : decode cX13_worthOf 92 = .ok (.iload 4, 2) := by decide +kernel
theorem dX13_worthOf_94 : decode cX13_worthOf 94 = .ok (.iload_n 2, 1) := by decide +kernel
theorem dX13_worthOf_95 : decode cX13_worthOf 95 = .ok (.imul, 1) := by decide +kernel
theorem dX13_worthOf_96 : decode cX13_worthOf 96 = .ok (.istore 4, 2) := by decide +kernel
theorem dX13_worthOf_98 : decode cX13_worthOf 98 = .ok (.iinc 6 1, 3) := by decide +kernel
theorem dX13_worthOf_101 : decode cX13_worthOf 101 = .ok (.goto (-70), 3) := by decide +kernel
theorem dX13_worthOf_104 : decode cX13_worthOf 104 = .ok (.iload 5, 2) := by decide +kernel
theorem dX13_worthOf_106 : decode cX13_worthOf 106 = .ok (.ifCond .eq 11, 3) := by decide +kernel
theorem dX13_worthOf_109 : decode cX13_worthOf 109 = .ok (.aload_n 0, 1) := by decide +kernel
theorem dX13_worthOf_110 : decode cX13_worthOf 110 = .ok (.getfield 248, 3) := by decide +kernel
theorem dX13_worthOf_113 : decode cX13_worthOf 113 = .ok (.iconst 2, 1) := by decide +kernel
theorem dX13_worthOf_114 : decode cX13_worthOf 114 = .ok (.if_icmp .ne 7, 3) := by decide +kernel
theorem dX13_worthOf_117 : decode cX13_worthOf 117 = .ok (.iload_n 3, 1) := by decide +kernel
theorem dX13_worthOf_118 : decode cX13_worthOf 118 = .ok (.goto 16, 3) := by decide +kernel
theorem dX13_worthOf_121 : decode cX13_worthOf 121 = .ok (.aload_n 0, 1) := by decide +kernel
theorem dX13_worthOf_122 : decode cX13_worthOf 122 = .ok (.getfield 248, 3) := by decide +kernel
theorem dX13_worthOf_125 : decode cX13_worthOf 125 = .ok (.ifCond .ne 7, 3) := by decide +kernel
theorem dX13_worthOf_128 : decode cX13_worthOf 128 = .ok (.iconst 0, 1) := by decide +kernel
theorem dX13_worthOf_129 : decode cX13_worthOf 129 = .ok (.goto 5, 3) := by decide +kernel
theorem dX13_worthOf_132 : decode cX13_worthOf 132 = .ok (.iload 4, 2) := by decide +kernel
theorem dX13_worthOf_134 : decode cX13_worthOf 134 = .ok (.ireturn, 1) := by decide +kernel
theorem dX13_lay_0 : decode cX13_lay 0 = .ok (.iconst 0, 1) := by decide +kernel
theorem dX13_lay_1 : decode cX13_lay 1 = .ok (.istore_n 1, 1) := by decide +kernel
theorem dX13_lay_2 : decode cX13_lay 2 = .ok (.iload_n 1, 1) := by decide +kernel
theorem dX13_lay_3 : decode cX13_lay 3 = .ok (.bipush 10, 2) := by decide +kernel
theorem dX13_lay_5 : decode cX13_lay 5 = .ok (.if_icmp .ge 54, 3) := by decide +kernel
theorem dX13_lay_8 : decode cX13_lay 8 = .ok (.iconst 0, 1) := by decide +kernel
theorem dX13_lay_9 : decode cX13_lay 9 = .ok (.istore_n 2, 1) := by decide +kernel
theorem dX13_lay_10 : decode cX13_lay 10 = .ok (.iload_n 2, 1) := by decide +kernel
theorem dX13_lay_11 : decode cX13_lay 11 = .ok (.bipush 62, 2) := by decide +kernel
theorem dX13_lay_13 : decode cX13_lay 13 = .ok (.if_icmp .ge 40, 3) := by decide +kernel
theorem dX13_lay_16 : decode cX13_lay 16 = .ok (.aload_n 0, 1) := by decide +kernel
theorem dX13_lay_17 : decode cX13_lay 17 = .ok (.getfield 74, 3) := by decide +kernel
theorem dX13_lay_20 : decode cX13_lay 20 = .ok (.bipush 62, 2) := by decide +kernel
theorem dX13_lay_22 : decode cX13_lay 22 = .ok (.iload_n 1, 1) := by decide +kernel
theorem dX13_lay_23 : decode cX13_lay 23 = .ok (.imul, 1) := by decide +kernel
theorem dX13_lay_24 : decode cX13_lay 24 = .ok (.iload_n 2, 1) := by decide +kernel
theorem dX13_lay_25 : decode cX13_lay 25 = .ok (.iadd, 1) := by decide +kernel
theorem dX13_lay_26 : decode cX13_lay 26 = .ok (.aload_n 0, 1) := by decide +kernel
theorem dX13_lay_27 : decode cX13_lay 27 = .ok (.getfield 22, 3) := by decide +kernel
theorem dX13_lay_30 : decode cX13_lay 30 = .ok (.iload_n 1, 1) := by decide +kernel
theorem dX13_lay_31 : decode cX13_lay 31 = .ok (.iaload, 1) := by decide +kernel
theorem dX13_lay_32 : decode cX13_lay 32 = .ok (.iconst 1, 1) := by decide +kernel
theorem dX13_lay_33 : decode cX13_lay 33 = .ok (.if_icmp .ne 12, 3) := by decide +kernel
theorem dX13_lay_36 : decode cX13_lay 36 = .ok (.aload_n 0, 1) := by decide +kernel
theorem dX13_lay_37 : decode cX13_lay 37 = .ok (.iload_n 1, 1) := by decide +kernel
theorem dX13_lay_38 : decode cX13_lay 38 = .ok (.iload_n 2, 1) := by decide +kernel
theorem dX13_lay_39 : decode cX13_lay 39 = .ok (.invokevirtual 294, 3) := by decide +kernel
theorem dX13_lay_42 : decode cX13_lay 42 = .ok (.goto 4, 3) := by decide +kernel
theorem dX13_lay_45 : decode cX13_lay 45 = .ok (.iconst 0, 1) := by decide +kernel
theorem dX13_lay_46 : decode cX13_lay 46 = .ok (.iastore, 1) := by decide +kernel
theorem dX13_lay_47 : decode cX13_lay 47 = .ok (.iinc 2 1, 3) := by decide +kernel
theorem dX13_lay_50 : decode cX13_lay 50 = .ok (.goto (-40), 3) := by decide +kernel
theorem dX13_lay_53 : decode cX13_lay 53 = .ok (.iinc 1 1, 3) := by decide +kernel
theorem dX13_lay_56 : decode cX13_lay 56 = .ok (.goto (-54), 3) := by decide +kernel
theorem dX13_lay_59 : decode cX13_lay 59 = .ok (.return_, 1) := by decide +kernel
theorem dX13_oweBy_0 : decode cX13_oweBy 0 = .ok (.iconst 0, 1) := by decide +kernel
theorem dX13_oweBy_1 : decode cX13_oweBy 1 = .ok (.istore_n 3, 1) := by decide +kernel
theorem dX13_oweBy_2 : decode cX13_oweBy 2 = .ok (.iconst 0, 1) := by decide +kernel
theorem dX13_oweBy_3 : decode cX13_oweBy 3 = .ok (.istore 4, 2) := by decide +kernel
theorem dX13_oweBy_5 : decode cX13_oweBy 5 = .ok (.iload 4, 2) := by decide +kernel
theorem dX13_oweBy_7 : decode cX13_oweBy 7 = .ok (.bipush 10, 2) := by decide +kernel
theorem dX13_oweBy_9 : decode cX13_oweBy 9 = .ok (.if_icmp .ge 50, 3) := by decide +kernel
theorem dX13_oweBy_12 : decode cX13_oweBy 12 = .ok (.iload_n 3, 1) := by decide +kernel
theorem dX13_oweBy_13 : decode cX13_oweBy 13 = .ok (.aload_n 0, 1) := by decide +kernel
theorem dX13_oweBy_14 : decode cX13_oweBy 14 = .ok (.getfield 22, 3) := by decide +kernel
theorem dX13_oweBy_17 : decode cX13_oweBy 17 = .ok (.iload 4, 2) := by decide +kernel
theorem dX13_oweBy_19 : decode cX13_oweBy 19 = .ok (.iaload, 1) := by decide +kernel
theorem dX13_oweBy_20 : decode cX13_oweBy 20 = .ok (.iconst 1, 1) := by decide +kernel
theorem dX13_oweBy_21 : decode cX13_oweBy 21 = .ok (.if_icmp .ne 29, 3) := by decide +kernel
theorem dX13_oweBy_24 : decode cX13_oweBy 24 = .ok (.aload_n 0, 1) := by decide +kernel
theorem dX13_oweBy_25 : decode cX13_oweBy 25 = .ok (.getfield 25, 3) := by decide +kernel
theorem dX13_oweBy_28 : decode cX13_oweBy 28 = .ok (.iload 4, 2) := by decide +kernel
theorem dX13_oweBy_30 : decode cX13_oweBy 30 = .ok (.iaload, 1) := by decide +kernel
theorem dX13_oweBy_31 : decode cX13_oweBy 31 = .ok (.iload_n 1, 1) := by decide +kernel
theorem dX13_oweBy_32 : decode cX13_oweBy 32 = .ok (.if_icmp .ne 18, 3) := by decide +kernel
theorem dX13_oweBy_35 : decode cX13_oweBy 35 = .ok (.aload_n 0, 1) := by decide +kernel
theorem dX13_oweBy_36 : decode cX13_oweBy 36 = .ok (.getfield 74, 3) := by decide +kernel
theorem dX13_oweBy_39 : decode cX13_oweBy 39 = .ok (.bipush 62, 2) := by decide +kernel
theorem dX13_oweBy_41 : decode cX13_oweBy 41 = .ok (.iload 4, 2) := by decide +kernel
theorem dX13_oweBy_43 : decode cX13_oweBy 43 = .ok (.imul, 1) := by decide +kernel
theorem dX13_oweBy_44 : decode cX13_oweBy 44 = .ok (.iload_n 2, 1) := by decide +kernel
theorem dX13_oweBy_45 : decode cX13_oweBy 45 = .ok (.iadd, 1) := by decide +kernel
theorem dX13_oweBy_46 : decode cX13_oweBy 46 = .ok (.iaload, 1) := by decide +kernel
theorem dX13_oweBy_47 : decode cX13_oweBy 47 = .ok (.goto 4, 3) := by decide +kernel
theorem dX13_oweBy_50 : decode cX13_oweBy 50 = .ok (.iconst 0, 1) := by decide +kernel
theorem dX13_oweBy_51 : decode cX13_oweBy 51 = .ok (.iadd, 1) := by decide +kernel
theorem dX13_oweBy_52 : decode cX13_oweBy 52 = .ok (.istore_n 3, 1) := by decide +kernel
theorem dX13_oweBy_53 : decode cX13_oweBy 53 = .ok (.iinc 4 1, 3) := by decide +kernel
theorem dX13_oweBy_56 : decode cX13_oweBy 56 = .ok (.goto (-51), 3) := by decide +kernel
theorem dX13_oweBy_59 : decode cX13_oweBy 59 = .ok (.iload_n 3, 1) := by decide +kernel
theorem dX13_oweBy_60 : decode cX13_oweBy 60 = .ok (.ireturn, 1) := by decide +kernel
theorem dX13_owedTo_0 : decode cX13_owedTo 0 = .ok (.iconst 0, 1) := by decide +kernel
theorem dX13_owedTo_1 : decode cX13_owedTo 1 = .ok (.istore_n 3, 1) := by decide +kernel
theorem dX13_owedTo_2 : decode cX13_owedTo 2 = .ok (.iconst 0, 1) := by decide +kernel
theorem dX13_owedTo_3 : decode cX13_owedTo 3 = .ok (.istore 4, 2) := by decide +kernel
theorem dX13_owedTo_5 : decode cX13_owedTo 5 = .ok (.iload 4, 2) := by decide +kernel
theorem dX13_owedTo_7 : decode cX13_owedTo 7 = .ok (.bipush 10, 2) := by decide +kernel
theorem dX13_owedTo_9 : decode cX13_owedTo 9 = .ok (.if_icmp .ge 50, 3) := by decide +kernel
theorem dX13_owedTo_12 : decode cX13_owedTo 12 = .ok (.iload_n 3, 1) := by decide +kernel
theorem dX13_owedTo_13 : decode cX13_owedTo 13 = .ok (.aload_n 0, 1) := by decide +kernel
theorem dX13_owedTo_14 : decode cX13_owedTo 14 = .ok (.getfield 22, 3) := by decide +kernel
theorem dX13_owedTo_17 : decode cX13_owedTo 17 = .ok (.iload 4, 2) := by decide +kernel
theorem dX13_owedTo_19 : decode cX13_owedTo 19 = .ok (.iaload, 1) := by decide +kernel
theorem dX13_owedTo_20 : decode cX13_owedTo 20 = .ok (.iconst 1, 1) := by decide +kernel
theorem dX13_owedTo_21 : decode cX13_owedTo 21 = .ok (.if_icmp .ne 29, 3) := by decide +kernel
theorem dX13_owedTo_24 : decode cX13_owedTo 24 = .ok (.aload_n 0, 1) := by decide +kernel
theorem dX13_owedTo_25 : decode cX13_owedTo 25 = .ok (.getfield 28, 3) := by decide +kernel
theorem dX13_owedTo_28 : decode cX13_owedTo 28 = .ok (.iload 4, 2) := by decide +kernel
theorem dX13_owedTo_30 : decode cX13_owedTo 30 = .ok (.iaload, 1) := by decide +kernel
theorem dX13_owedTo_31 : decode cX13_owedTo 31 = .ok (.iload_n 1, 1) := by decide +kernel
theorem dX13_owedTo_32 : decode cX13_owedTo 32 = .ok (.if_icmp .ne 18, 3) := by decide +kernel
theorem dX13_owedTo_35 : decode cX13_owedTo 35 = .ok (.aload_n 0, 1) := by decide +kernel
theorem dX13_owedTo_36 : decode cX13_owedTo 36 = .ok (.getfield 74, 3) := by decide +kernel
theorem dX13_owedTo_39 : decode cX13_owedTo 39 = .ok (.bipush 62, 2) := by decide +kernel
theorem dX13_owedTo_41 : decode cX13_owedTo 41 = .ok (.iload 4, 2) := by decide +kernel
theorem dX13_owedTo_43 : decode cX13_owedTo 43 = .ok (.imul, 1) := by decide +kernel
theorem dX13_owedTo_44 : decode cX13_owedTo 44 = .ok (.iload_n 2, 1) := by decide +kernel
theorem dX13_owedTo_45 : decode cX13_owedTo 45 = .ok (.iadd, 1) := by decide +kernel
theorem dX13_owedTo_46 : decode cX13_owedTo 46 = .ok (.iaload, 1) := by decide +kernel
theorem dX13_owedTo_47 : decode cX13_owedTo 47 = .ok (.goto 4, 3) := by decide +kernel
theorem dX13_owedTo_50 : decode cX13_owedTo 50 = .ok (.iconst 0, 1) := by decide +kernel
theorem dX13_owedTo_51 : decode cX13_owedTo 51 = .ok (.iadd, 1) := by decide +kernel
theorem dX13_owedTo_52 : decode cX13_owedTo 52 = .ok (.istore_n 3, 1) := by decide +kernel
theorem dX13_owedTo_53 : decode cX13_owedTo 53 = .ok (.iinc 4 1, 3) := by decide +kernel
theorem dX13_owedTo_56 : decode cX13_owedTo 56 = .ok (.goto (-51), 3) := by decide +kernel
theorem dX13_owedTo_59 : decode cX13_owedTo 59 = .ok (.iload_n 3, 1) := by decide +kernel
theorem dX13_owedTo_60 : decode cX13_owedTo 60 = .ok (.ireturn, 1) := by decide +kernel
theorem dX13_net_0 : decode cX13_net 0 = .ok (.aload_n 0, 1) := by decide +kernel
theorem dX13_net_1 : decode cX13_net 1 = .ok (.iload_n 1, 1) := by decide +kernel
theorem dX13_net_2 : decode cX13_net 2 = .ok (.iload_n 2, 1) := by decide +kernel
theorem dX13_net_3 : decode cX13_net 3 = .ok (.invokevirtual 297, 3) := by decide +kernel
theorem dX13_net_6 : decode cX13_net 6 = .ok (.aload_n 0, 1) := by decide +kernel
theorem dX13_net_7 : decode cX13_net 7 = .ok (.iload_n 1, 1) := by decide +kernel
theorem dX13_net_8 : decode cX13_net 8 = .ok (.iload_n 2, 1) := by decide +kernel
theorem dX13_net_9 : decode cX13_net 9 = .ok (.invokevirtual 300, 3) := by decide +kernel
theorem dX13_net_12 : decode cX13_net 12 = .ok (.isub, 1) := by decide +kernel
theorem dX13_net_13 : decode cX13_net 13 = .ok (.ireturn, 1) := by decide +kernel
theorem dX13_owner_0 : decode cX13_owner 0 = .ok (.aload_n 0, 1) := by decide +kernel
theorem dX13_owner_1 : decode cX13_owner 1 = .ok (.iconst 0, 1) := by decide +kernel
theorem dX13_owner_2 : decode cX13_owner 2 = .ok (.putfield 135, 3) := by decide +kernel
