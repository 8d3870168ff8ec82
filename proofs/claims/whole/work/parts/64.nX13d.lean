theorem dX13_owner_5 : decode cX13_owner 5 = .ok (.aload_n 0, 1) := by decide +kernel
theorem dX13_owner_6 : decode cX13_owner 6 = .ok (.iload_n 1, 1) := by decide +kernel
theorem dX13_owner_7 : decode cX13_owner 7 = .ok (.invokevirtual 303, 3) := by decide +kernel
theorem dX13_owner_10 : decode cX13_owner 10 = .ok (.ifCond .eq 18, 3) := by decide +kernel
theorem dX13_owner_13 : decode cX13_owner 13 = .ok (.aload_n 0, 1) := by decide +kernel
theorem dX13_owner_14 : decode cX13_owner 14 = .ok (.iload_n 2, 1) := by decide +kernel
theorem dX13_owner_15 : decode cX13_owner 15 = .ok (.iconst 0, 1) := by decide +kernel
theorem dX13_owner_16 : decode cX13_owner 16 = .ok (.bipush 8, 2) := by decide +kernel
theorem dX13_owner_18 : decode cX13_owner 18 = .ok (.invokestatic 290, 3) := by decide +kernel
theorem dX13_owner_21 : decode cX13_owner 21 = .ok (.iconst 1, 1) := by decide +kernel
theorem dX13_owner_22 : decode cX13_owner 22 = .ok (.invokevirtual 235, 3) := by decide +kernel
theorem dX13_owner_25 : decode cX13_owner 25 = .ok (.ifCond .ne 5, 3) := by decide +kernel
theorem dX13_owner_28 : decode cX13_owner 28 = .ok (.iconst 0, 1) := by decide +kernel
theorem dX13_owner_29 : decode cX13_owner 29 = .ok (.ireturn, 1) := by decide +kernel
theorem dX13_owner_30 : decode cX13_owner 30 = .ok (.aload_n 0, 1) := by decide +kernel
theorem dX13_owner_31 : decode cX13_owner 31 = .ok (.invokevirtual 306, 3) := by decide +kernel
theorem dX13_owner_34 : decode cX13_owner 34 = .ok (.iconst 0, 1) := by decide +kernel
theorem dX13_owner_35 : decode cX13_owner 35 = .ok (.istore_n 3, 1) := by decide +kernel
theorem dX13_owner_36 : decode cX13_owner 36 = .ok (.iconst 0, 1) := by decide +kernel
theorem dX13_owner_37 : decode cX13_owner 37 = .ok (.istore 4, 2) := by decide +kernel
theorem dX13_owner_39 : decode cX13_owner 39 = .ok (.iload 4, 2) := by decide +kernel
theorem dX13_owner_41 : decode cX13_owner 41 = .ok (.iconst 5, 1) := by decide +kernel
theorem dX13_owner_42 : decode cX13_owner 42 = .ok (.if_icmp .ge 23, 3) := by decide +kernel
theorem dX13_owner_45 : decode cX13_owner 45 = .ok (.iload_n 3, 1) := by decide +kernel
theorem dX13_owner_46 : decode cX13_owner 46 = .ok (.aload_n 0, 1) := by decide +kernel
theorem dX13_owner_47 : decode cX13_owner 47 = .ok (.getfield 19, 3) := by decide +kernel
theorem dX13_owner_50 : decode cX13_owner 50 = .ok (.iconst 5, 1) := by decide +kernel
theorem dX13_owner_51 : decode cX13_owner 51 = .ok (.iload 4, 2) := by decide +kernel
theorem dX13_owner_53 : decode cX13_owner 53 = .ok (.imul, 1) := by decide +kernel
theorem dX13_owner_54 : decode cX13_owner 54 = .ok (.iload_n 1, 1) := by decide +kernel
theorem dX13_owner_55 : decode cX13_owner 55 = .ok (.iadd, 1) := by decide +kernel
theorem dX13_owner_56 : decode cX13_owner 56 = .ok (.iaload, 1) := by decide +kernel
theorem dX13_owner_57 : decode cX13_owner 57 = .ok (.iadd, 1) := by decide +kernel
theorem dX13_owner_58 : decode cX13_owner 58 = .ok (.istore_n 3, 1) := by decide +kernel
theorem dX13_owner_59 : decode cX13_owner 59 = .ok (.iinc 4 1, 3) := by decide +kernel
theorem dX13_owner_62 : decode cX13_owner 62 = .ok (.goto (-23), 3) := by decide +kernel
theorem dX13_owner_65 : decode cX13_owner 65 = .ok (.iload_n 2, 1) := by decide +kernel
theorem dX13_owner_66 : decode cX13_owner 66 = .ok (.tableswitch 105 0 7 #[46, 53, 60, 67, 73, 75, 85, 95], 46) := by decide +kernel
theorem dX13_owner_112 : decode cX13_owner 112 = .ok (.aload_n 0, 1) := by decide +kernel
theorem dX13_owner_113 : decode cX13_owner 113 = .ok (.getfield 7, 3) := by decide +kernel
theorem dX13_owner_116 : decode cX13_owner 116 = .ok (.iload_n 1, 1) := by decide +kernel
theorem dX13_owner_117 : decode cX13_owner 117 = .ok (.iaload, 1) := by decide +kernel
theorem dX13_owner_118 : decode cX13_owner 118 = .ok (.ireturn, 1) := by decide +kernel
theorem dX13_owner_119 : decode cX13_owner 119 = .ok (.aload_n 0, 1) := by decide +kernel
theorem dX13_owner_120 : decode cX13_owner 120 = .ok (.getfield 13, 3) := by decide +kernel
theorem dX13_owner_123 : decode cX13_owner 123 = .ok (.iload_n 1, 1) := by decide +kernel
theorem dX13_owner_124 : decode cX13_owner 124 = .ok (.iaload, 1) := by decide +kernel
theorem dX13_owner_125 : decode cX13_owner 125 = .ok (.ireturn, 1) := by decide +kernel
theorem dX13_owner_126 : decode cX13_owner 126 = .ok (.aload_n 0, 1) := by decide +kernel
theorem dX13_owner_127 : decode cX13_owner 127 = .ok (.getfield 16, 3) := by decide +kernel
theorem dX13_owner_130 : decode cX13_owner 130 = .ok (.iload_n 1, 1) := by decide +kernel
theorem dX13_owner_131 : decode cX13_owner 131 = .ok (.iaload, 1) := by decide +kernel
theorem dX13_owner_132 : decode cX13_owner 132 = .ok (.ireturn, 1) := by decide +kernel
theorem dX13_owner_133 : decode cX13_owner 133 = .ok (.aload_n 0, 1) := by decide +kernel
theorem dX13_owner_134 : decode cX13_owner 134 = .ok (.iload_n 1, 1) := by decide +kernel
theorem dX13_owner_135 : decode cX13_owner 135 = .ok (.invokevirtual 277, 3) := by decide +kernel
theorem dX13_owner_138 : decode cX13_owner 138 = .ok (.ireturn, 1) := by decide +kernel
theorem dX13_owner_139 : decode cX13_owner 139 = .ok (.iload_n 3, 1) := by decide +kernel
theorem dX13_owner_140 : decode cX13_owner 140 = .ok (.ireturn, 1) := by decide +kernel
theorem dX13_owner_141 : decode cX13_owner 141 = .ok (.aload_n 0, 1) := by decide +kernel
theorem dX13_owner_142 : decode cX13_owner 142 = .ok (.iload_n 1, 1) := by decide +kernel
theorem dX13_owner_143 : decode cX13_owner 143 = .ok (.aload_n 0, 1) := by decide +kernel
theorem dX13_owner_144 : decode cX13_owner 144 = .ok (.getfield 251, 3) := by decide +kernel
theorem dX13_owner_147 : decode cX13_owner 147 = .ok (.invokevirtual 300, 3) := by decide +kernel
theorem dX13_owner_150 : decode cX13_owner 150 = .ok (.ireturn, 1) := by decide +kernel
theorem dX13_owner_151 : decode cX13_owner 151 = .ok (.aload_n 0, 1) := by decide +kernel
theorem dX13_owner_152 : decode cX13_owner 152 = .ok (.iload_n 1, 1) := by decide +kernel
theorem dX13_owner_153 : decode cX13_owner 153 = .ok (.aload_n 0, 1) := by decide +kernel
theorem dX13_owner_154 : decode cX13_owner 154 = .ok (.getfield 251, 3) := by decide +kernel
theorem dX13_owner_157 : decode cX13_owner 157 = .ok (.invokevirtual 297, 3) := by decide +kernel
theorem dX13_owner_160 : decode cX13_owner 160 = .ok (.ireturn, 1) := by decide +kernel
theorem dX13_owner_161 : decode cX13_owner 161 = .ok (.aload_n 0, 1) := by decide +kernel
theorem dX13_owner_162 : decode cX13_owner 162 = .ok (.iload_n 1, 1) := by decide +kernel
theorem dX13_owner_163 : decode cX13_owner 163 = .ok (.aload_n 0, 1) := by decide +kernel
theorem dX13_owner_164 : decode cX13_owner 164 = .ok (.getfield 251, 3) := by decide +kernel
theorem dX13_owner_167 : decode cX13_owner 167 = .ok (.invokevirtual 309, 3) := by decide +kernel
theorem dX13_owner_170 : decode cX13_owner 170 = .ok (.ireturn, 1) := by decide +kernel
theorem dX13_owner_171 : decode cX13_owner 171 = .ok (.aload_n 0, 1) := by decide +kernel
theorem dX13_owner_172 : decode cX13_owner 172 = .ok (.iload_n 1, 1) := by decide +kernel
theorem dX13_owner_173 : decode cX13_owner 173 = .ok (.aload_n 0, 1) := by decide +kernel
theorem dX13_owner_174 : decode cX13_owner 174 = .ok (.getfield 251, 3) := by decide +kernel
theorem dX13_owner_177 : decode cX13_owner 177 = .ok (.iconst 1, 1) := by decide +kernel
theorem dX13_owner_178 : decode cX13_owner 178 = .ok (.iadd, 1) := by decide +kernel
theorem dX13_owner_179 : decode cX13_owner 179 = .ok (.invokevirtual 309, 3) := by decide +kernel
theorem dX13_owner_182 : decode cX13_owner 182 = .ok (.aload_n 0, 1) := by decide +kernel
theorem dX13_owner_183 : decode cX13_owner 183 = .ok (.iload_n 1, 1) := by decide +kernel
theorem dX13_owner_184 : decode cX13_owner 184 = .ok (.aload_n 0, 1) := by decide +kernel
theorem dX13_owner_185 : decode cX13_owner 185 = .ok (.getfield 251, 3) := by decide +kernel
theorem dX13_owner_188 : decode cX13_owner 188 = .ok (.invokevirtual 309, 3) := by decide +kernel
theorem dX13_owner_191 : decode cX13_owner 191 = .ok (.isub, 1) := by decide +kernel
theorem dX13_owner_192 : decode cX13_owner 192 = .ok (.ireturn, 1) := by decide +kernel
theorem dX13_door_0 : decode cX13_door 0 = .ok (.aload_n 0, 1) := by decide +kernel
theorem dX13_door_1 : decode cX13_door 1 = .ok (.iconst 0, 1) := by decide +kernel
theorem dX13_door_2 : decode cX13_door 2 = .ok (.putfield 135, 3) := by decide +kernel
theorem dX13_door_5 : decode cX13_door 5 = .ok (.aload_n 0, 1) := by decide +kernel
theorem dX13_door_6 : decode cX13_door 6 = .ok (.iload_n 1, 1) := by decide +kernel
theorem dX13_door_7 : decode cX13_door 7 = .ok (.invokevirtual 312, 3) := by decide +kernel
theorem dX13_door_10 : decode cX13_door 10 = .ok (.ifCond .eq 44, 3) := by decide +kernel
theorem dX13_door_13 : decode cX13_door 13 = .ok (.aload_n 0, 1) := by decide +kernel
theorem dX13_door_14 : decode cX13_door 14 = .ok (.iload_n 2, 1) := by decide +kernel
theorem dX13_door_15 : decode cX13_door 15 = .ok (.iconst 0, 1) := by decide +kernel
theorem dX13_door_16 : decode cX13_door 16 = .ok (.iconst 2, 1) := by decide +kernel
theorem dX13_door_17 : decode cX13_door 17 = .ok (.invokestatic 290, 3) := by decide +kernel
theorem dX13_door_20 : decode cX13_door 20 = .ok (.ifCond .ne 22, 3) := by decide +kernel
theorem dX13_door_23 : decode cX13_door 23 = .ok (.iload_n 2, 1) := by decide +kernel
theorem dX13_door_24 : decode cX13_door 24 = .ok (.bipush 10, 2) := by decide +kernel
theorem dX13_door_26 : decode cX13_door 26 = .ok (.if_icmp .lt 20, 3) := by decide +kernel
theorem dX13_door_29 : decode cX13_door 29 = .ok (.iload_n 2, 1) := by decide +kernel
theorem dX13_door_30 : decode cX13_door 30 = .ok (.bipush 10, 2) := by decide +kernel
theorem dX13_door_32 : decode cX13_door 32 = .ok (.isub, 1) := by decide +kernel
theorem dX13_door_33 : decode cX13_door 33 = .ok (.aload_n 0, 1) := by decide +kernel
theorem dX13_door_34 : decode cX13_door 34 = .ok (.getfield 31, 3) := by decide +kernel
theorem dX13_door_37 : decode cX13_door 37 = .ok (.iload_n 1, 1) := by decide +kernel
theorem dX13_door_38 : decode cX13_door 38 = .ok (.iaload, 1) := by decide +kernel
theorem dX13_door_39 : decode cX13_door 39 = .ok (.if_icmp .ge 7, 3) := by decide +kernel
theorem dX13_door_42 : decode cX13_door 42 = .ok (.iconst 1, 1) := by decide +kernel
theorem dX13_door_43 : decode cX13_door 43 = .ok (.goto 4, 3) := by decide +kernel
theorem dX13_door_46 : decode cX13_door 46 = .ok (.iconst 0, 1) := by decide +kernel
theorem dX13_door_47 : decode cX13_door 47 = .ok (.iconst 1, 1) := by decide +kernel
theorem dX13_door_48 : decode cX13_door 48 = .ok (.invokevirtual 235, 3) := by decide +kernel
theorem dX13_door_51 : decode cX13_door 51 = .ok (.ifCond .ne 5, 3) := by decide +kernel
theorem dX13_door_54 : decode cX13_door 54 = .ok (.iconst 0, 1) := by decide +kernel
theorem dX13_door_55 : decode cX13_door 55 = .ok (.ireturn, 1) := by decide +kernel
theorem dX13_door_56 : decode cX13_door 56 = .ok (.iload_n 2, 1) := by decide +kernel
theorem dX13_door_57 : decode cX13_door 57 = .ok (.ifCond .ne 12, 3) := by decide +kernel
theorem dX13_door_60 : decode cX13_door 60 = .ok (.aload_n 0, 1) := by decide +kernel
theorem dX13_door_61 : decode cX13_door 61 = .ok (.getfield 25, 3) := by decide +kernel
theorem dX13_door_64 : decode cX13_door 64 = .ok (.iload_n 1, 1) := by decide +kernel
theorem dX13_door_65 : decode cX13_door 65 = .ok (.iaload, 1) := by decide +kernel
theorem dX13_door_66 : decode cX13_door 66 = .ok (.goto 44, 3) := by decide +kernel
theorem dX13_door_69 : decode cX13_door 69 = .ok (.iload_n 2, 1) := by decide +kernel
theorem dX13_door_70 : decode cX13_door 70 = .ok (.iconst 1, 1) := by decide +kernel
theorem dX13_door_71 : decode cX13_door 71 = .ok (.if_icmp .ne 12, 3) := by decide +kernel
theorem dX13_door_74 : decode cX13_door 74 = .ok (.aload_n 0, 1) := by decide +kernel
theorem dX13_door_75 : decode cX13_door 75 = .ok (.getfield 28, 3) := by decide +kernel
theorem dX13_door_78 : decode cX13_door 78 = .ok (.iload_n 1, 1) := by decide +kernel
theorem dX13_door_79 : decode cX13_door 79 = .ok (.iaload, 1) := by decide +kernel
theorem dX13_door_80 : decode cX13_door 80 = .ok (.goto 30, 3) := by decide +kernel
theorem dX13_door_83 : decode cX13_door 83 = .ok (.iload_n 2, 1) := by decide +kernel
theorem dX13_door_84 : decode cX13_door 84 = .ok (.iconst 2, 1) := by decide +kernel
theorem dX13_door_85 : decode cX13_door 85 = .ok (.if_icmp .ne 12, 3) := by decide +kernel
theorem dX13_door_88 : decode cX13_door 88 = .ok (.aload_n 0, 1) := by decide +kernel
theorem dX13_door_89 : decode cX13_door 89 = .ok (.getfield 31, 3) := by decide +kernel
theorem dX13_door_92 : decode cX13_door 92 = .ok (.iload_n 1, 1) := by decide +kernel
theorem dX13_door_93 : decode cX13_door 93 = .ok (.iaload, 1) := by decide +kernel
theorem dX13_door_94 : decode cX13_door 94 = .ok (.goto 16, 3) := by decide +kernel
theorem dX13_door_97 : decode cX13_door 97 = .ok (.aload_n 0, 1) := by decide +kernel
theorem dX13_door_98 : decode cX13_door 98 = .ok (.getfield 34, 3) := by decide +kernel
theorem dX13_door_101 : decode cX13_door 101 = .ok (.iconst 5, 1) := by decide +kernel
theorem dX13_door_102 : decode cX13_door 102 = .ok (.iload_n 1, 1) := by decide +kernel
theorem dX13_door_103 : decode cX13_door 103 = .ok (.imul, 1) := by decide +kernel
theorem dX13_door_104 : decode cX13_door 104 = .ok (.iload_n 2, 1) := by decide +kernel
theorem dX13_door_105 : decode cX13_door 105 = .ok (.iadd, 1) := by decide +kernel
theorem dX13_door_106 : decode cX13_door 106 = .ok (.bipush 10, 2) := by decide +kernel
theorem dX13_door_108 : decode cX13_door 108 = .ok (.isub, 1) := by decide +kernel
theorem dX13_door_109 : decode cX13_door 109 = .ok (.iaload, 1) := by decide +kernel
theorem dX13_door_110 : decode cX13_door 110 = .ok (.ireturn, 1) := by decide +kernel
theorem dX13_worth_0 : decode cX13_worth 0 = .ok (.aload_n 0, 1) := by decide +kernel
theorem dX13_worth_1 : decode cX13_worth 1 = .ok (.iconst 0, 1) := by decide +kernel
theorem dX13_worth_2 : decode cX13_worth 2 = .ok (.putfield 135, 3) := by decide +kernel
theorem dX13_worth_5 : decode cX13_worth 5 = .ok (.aload_n 0, 1) := by decide +kernel
theorem dX13_worth_6 : decode cX13_worth 6 = .ok (.iload_n 1, 1) := by decide +kernel
theorem dX13_worth_7 : decode cX13_worth 7 = .ok (.invokevirtual 312, 3) := by decide +kernel
theorem dX13_worth_10 : decode cX13_worth 10 = .ok (.ifCond .eq 21, 3) := by decide +kernel
theorem dX13_worth_13 : decode cX13_worth 13 = .ok (.aload_n 0, 1) := by decide +kernel
theorem dX13_worth_14 : decode cX13_worth 14 = .ok (.iload_n 2, 1) := by decide +kernel
theorem dX13_worth_15 : decode cX13_worth 15 = .ok (.iconst 2, 1) := by decide +kernel
theorem dX13_worth_16 : decode cX13_worth 16 = .ok (.invokevirtual 315, 3) := by decide +kernel
theorem dX13_worth_19 : decode cX13_worth 19 = .ok (.ifCond .eq 12, 3) := by decide +kernel
theorem dX13_worth_22 : decode cX13_worth 22 = .ok (.aload_n 0, 1) := by decide +kernel
theorem dX13_worth_23 : decode cX13_worth 23 = .ok (.iload_n 1, 1) := by decide +kernel
theorem dX13_worth_24 : decode cX13_worth 24 = .ok (.iload_n 2, 1) := by decide +kernel
theorem dX13_worth_25 : decode cX13_worth 25 = .ok (.invokevirtual 294, 3) := by decide +kernel
theorem dX13_worth_28 : decode cX13_worth 28 = .ok (.goto 4, 3) := by decide +kernel
theorem dX13_worth_31 : decode cX13_worth 31 = .ok (.iconst 0, 1) := by decide +kernel
theorem dX13_worth_32 : decode cX13_worth 32 = .ok (.ireturn, 1) := by decide +kernel
theorem dX13_best_0 : decode cX13_best 0 = .ok (.aload_n 0, 1) := by decide +kernel
theorem dX13_best_1 : decode cX13_best 1 = .ok (.iconst 0, 1) := by decide +kernel
theorem dX13_best_2 : decode cX13_best 2 = .ok (.putfield 135, 3) := by decide +kernel
theorem dX13_best_5 : decode cX13_best 5 = .ok (.aload_n 0, 1) := by decide +kernel
theorem dX13_best_6 : decode cX13_best 6 = .ok (.iload_n 1, 1) := by decide +kernel
theorem dX13_best_7 : decode cX13_best 7 = .ok (.invokevirtual 303, 3) := by decide +kernel
theorem dX13_best_10 : decode cX13_best 10 = .ok (.ifCond .eq 25, 3) := by decide +kernel
theorem dX13_best_13 : decode cX13_best 13 = .ok (.aload_n 0, 1) := by decide +kernel
theorem dX13_best_14 : decode cX13_best 14 = .ok (.iload_n 2, 1) := by decide +kernel
theorem dX13_best_15 : decode cX13_best 15 = .ok (.ifCond .eq 8, 3) := by decide +kernel
theorem dX13_best_18 : decode cX13_best 18 = .ok (.iload_n 2, 1) := by decide +kernel
theorem dX13_best_19 : decode cX13_best 19 = .ok (.iconst 1, 1) := by decide +kernel
theorem dX13_best_20 : decode cX13_best 20 = .ok (.if_icmp .ne 7, 3) := by decide +kernel
theorem dX13_best_23 : decode cX13_best 23 = .ok (.iconst 1, 1) := by decide +kernel
theorem dX13_best_24 : decode cX13_best 24 = .ok (.goto 4, 3) := by decide +kernel
theorem dX13_best_27 : decode cX13_best 27 = .ok (.iconst 0, 1) := by decide +kernel
theorem dX13_best_28 : decode cX13_best 28 = .ok (.iconst 1, 1) := by decide +kernel
theorem dX13_best_29 : decode cX13_best 29 = .ok (.invokevirtual 235, 3) := by decide +kernel
theorem dX13_best_32 : decode cX13_best 32 = .ok (.ifCond .ne 5, 3) := by decide +kernel
theorem dX13_best_35 : decode cX13_best 35 = .ok (.iconst 0, 1) := by decide +kernel
theorem dX13_best_36 : decode cX13_best 36 = .ok (.ireturn, 1) := by decide +kernel
theorem dX13_best_37 : decode cX13_best 37 = .ok (.aload_n 0, 1) := by decide +kernel
theorem dX13_best_38 : decode cX13_best 38 = .ok (.invokevirtual 306, 3) := by decide +kernel
theorem dX13_best_41 : decode cX13_best 41 = .ok (.iconst 0, 1) := by decide +kernel
theorem dX13_best_42 : decode cX13_best 42 = .ok (.istore_n 3, 1) := by decide +kernel
theorem dX13_best_43 : decode cX13_best 43 = .ok (.iconst 1, 1) := by decide +kernel
theorem dX13_best_44 : decode cX13_best 44 = .ok (.istore 4, 2) := by decide +kernel
theorem dX13_best_46 : decode cX13_best 46 = .ok (.iload 4, 2) := by decide +kernel
theorem dX13_best_48 : decode cX13_best 48 = .ok (.bipush 40, 2) := by decide +kernel
theorem dX13_best_50 : decode cX13_best 50 = .ok (.if_icmp .gt 28, 3) := by decide +kernel
theorem dX13_best_53 : decode cX13_best 53 = .ok (.aload_n 0, 1) := by decide +kernel
theorem dX13_best_54 : decode cX13_best 54 = .ok (.iload_n 1, 1) := by decide +kernel
theorem dX13_best_55 : decode cX13_best 55 = .ok (.iload 4, 2) := by decide +kernel
theorem dX13_best_57 : decode cX13_best 57 = .ok (.invokevirtual 309, 3) := by decide +kernel
theorem dX13_best_60 : decode cX13_best 60 = .ok (.aload_n 0, 1) := by decide +kernel
theorem dX13_best_61 : decode cX13_best 61 = .ok (.iload_n 1, 1) := by decide +kernel
theorem dX13_best_62 : decode cX13_best 62 = .ok (.iload_n 3, 1) := by decide +kernel
theorem dX13_best_63 : decode cX13_best 63 = .ok (.invokevirtual 309, 3) := by decide +kernel
theorem dX13_best_66 : decode cX13_best 66 = .ok (.if_icmp .le 6, 3) := by decide +kernel
theorem dX13_best_69 : decode cX13_best 69 = .ok (.iload 4, 2) := by decide +kernel
theorem dX13_best_71 : decode cX13_best 71 = .ok (.istore_n 3, 1) := by decide +kernel
theorem dX13_best_72 : decode cX13_best 72 = .ok (.iinc 4 1, 3) := by decide +kernel
theorem dX13_best_75 : decode cX13_best 75 = .ok (.goto (-29), 3) := by decide +kernel
theorem dX13_best_78 : decode cX13_best 78 = .ok (.iload_n 2, 1) := by decide +kernel
theorem dX13_best_79 : decode cX13_best 79 = .ok (.ifCond .ne 7, 3) := by decide +kernel
theorem dX13_best_82 : decode cX13_best 82 = .ok (.iload_n 3, 1) := by decide +kernel
theorem dX13_best_83 : decode cX13_best 83 = .ok (.goto 9, 3) := by decide +kernel
theorem dX13_best_86 : decode cX13_best 86 = .ok (.aload_n 0, 1) := by decide +kernel
theorem dX13_best_87 : decode cX13_best 87 = .ok (.iload_n 1, 1) := by decide +kernel
theorem dX13_best_88 : decode cX13_best 88 = .ok (.iload_n 3, 1) := by decide +kernel
theorem dX13_best_89 : decode cX13_best 89 = .ok (.invokevirtual 309, 3) := by decide +kernel
theorem dX13_best_92 : decode cX13_best 92 = .ok (.ireturn, 1) := by decide +kernel
theorem dX13_netsOf_0 : decode cX13_netsOf 0 = .ok (.iconst 0, 1) := by decide +kernel
theorem dX13_netsOf_1 : decode cX13_netsOf 1 = .ok (.istore_n 2, 1) := by decide +kernel
theorem dX13_netsOf_2 : decode cX13_netsOf 2 = .ok (.iload_n 2, 1) := by decide +kernel
theorem dX13_netsOf_3 : decode cX13_netsOf 3 = .ok (.bipush 40, 2) := by decide +kernel
theorem dX13_netsOf_5 : decode cX13_netsOf 5 = .ok (.if_icmp .gt 21, 3) := by decide +kernel
theorem dX13_netsOf_8 : decode cX13_netsOf 8 = .ok (.aload_n 0, 1) := by decide +kernel
theorem dX13_netsOf_9 : decode cX13_netsOf 9 = .ok (.getfield 77, 3) := by decide +kernel
theorem dX13_netsOf_12 : decode cX13_netsOf 12 = .ok (.iload_n 2, 1) := by decide +kernel
theorem dX13_netsOf_13 : decode cX13_netsOf 13 = .ok (.aload_n 0, 1) := by decide +kernel
theorem dX13_netsOf_14 : decode cX13_netsOf 14 = .ok (.iload_n 1, 1) := by decide +kernel
theorem dX13_netsOf_15 : decode cX13_netsOf 15 = .ok (.iload_n 2, 1) := by decide +kernel
theorem dX13_netsOf_16 : decode cX13_netsOf 16 = .ok (.invokevirtual 309, 3) := by decide +kernel
theorem dX13_netsOf_19 : decode cX13_netsOf 19 = .ok (.iastore, 1) := by decide +kernel
theorem dX13_netsOf_20 : decode cX13_netsOf 20 = .ok (.iinc 2 1, 3) := by decide +kernel
theorem dX13_netsOf_23 : decode cX13_netsOf 23 = .ok (.goto (-21), 3) := by decide +kernel
theorem dX13_netsOf_26 : decode cX13_netsOf 26 = .ok (.return_, 1) := by decide +kernel
theorem dX13_spread_0 : decode cX13_spread 0 = .ok (.aload_n 0, 1) := by decide +kernel
theorem dX13_spread_1 : decode cX13_spread 1 = .ok (.getfield 77, 3) := by decide +kernel
theorem dX13_spread_4 : decode cX13_spread 4 = .ok (.iload_n 1, 1) := by decide +kernel
theorem dX13_spread_5 : decode cX13_spread 5 = .ok (.iaload, 1) := by decide +kernel
theorem dX13_spread_6 : decode cX13_spread 6 = .ok (.istore_n 3, 1) := by decide +kernel
theorem dX13_spread_7 : decode cX13_spread 7 = .ok (.aload_n 0, 1) := by decide +kernel
theorem dX13_spread_8 : decode cX13_spread 8 = .ok (.getfield 77, 3) := by decide +kernel
theorem dX13_spread_11 : decode cX13_spread 11 = .ok (.iload_n 1, 1) := by decide +kernel
theorem dX13_spread_12 : decode cX13_spread 12 = .ok (.iaload, 1) := by decide +kernel
theorem dX13_spread_13 : decode cX13_spread 13 = .ok (.istore 4, 2) := by decide +kernel
theorem dX13_spread_15 : decode cX13_spread 15 = .ok (.iload_n 1, 1) := by decide +kernel
theorem dX13_spread_16 : decode cX13_spread 16 = .ok (.istore 5, 2) := by decide +kernel
theorem dX13_spread_18 : decode cX13_spread 18 = .ok (.iload 5, 2) := by decide +kernel
theorem dX13_spread_20 : decode cX13_spread 20 = .ok (.iload_n 2, 1) := by decide +kernel
theorem dX13_spread_21 : decode cX13_spread 21 = .ok (.if_icmp .gt 58, 3) := by decide +kernel
theorem dX13_spread_24 : decode cX13_spread 24 = .ok (.aload_n 0, 1) := by decide +kernel
theorem dX13_spread_25 : decode cX13_spread 25 = .ok (.getfield 77, 3) := by decide +kernel
theorem dX13_spread_28 : decode cX13_spread 28 = .ok (.iload 5, 2) := by decide +kernel
theorem dX13_spread_30 : decode cX13_spread 30 = .ok (.iaload, 1) := by decide +kernel
theorem dX13_spread_31 : decode cX13_spread 31 = .ok (.iload_n 3, 1) := by decide +kernel
theorem dX13_spread_32 : decode cX13_spread 32 = .ok (.if_icmp .ge 13, 3) := by decide +kernel
theorem dX13_spread_35 : decode cX13_spread 35 = .ok (.aload_n 0, 1) := by decide +kernel
theorem dX13_spread_36 : decode cX13_spread 36 = .ok (.getfield 77, 3) := by decide +kernel
theorem dX13_spread_39 : decode cX13_spread 39 = .ok (.iload 5, 2) := by decide +kernel
theorem dX13_spread_41 : decode cX13_spread 41 = .ok (.iaload, 1) := by decide +kernel
theorem dX13_spread_42 : decode cX13_spread 42 = .ok (.goto 4, 3) := by decide +kernel
theorem dX13_spread_45 : decode cX13_spread 45 = .ok (.iload_n 3, 1) := by decide +kernel
theorem dX13_spread_46 : decode cX13_spread 46 = .ok (.istore_n 3, 1) := by decide +kernel
theorem dX13_spread_47 : decode cX13_spread 47 = .ok (.aload_n 0, 1) := by decide +kernel
theorem dX13_spread_48 : decode cX13_spread 48 = .ok (.getfield 77, 3) := by decide +kernel
theorem dX13_spread_51 : decode cX13_spread 51 = .ok (.iload 5, 2) := by decide +kernel
theorem dX13_spread_53 : decode cX13_spread 53 = .ok (.iaload, 1) := by decide +kernel
theorem dX13_spread_54 : decode cX13_spread 54 = .ok (.iload 4, 2) := by decide +kernel
theorem dX13_spread_56 : decode cX13_spread 56 = .ok (.if_icmp .le 13, 3) := by decide +kernel
theorem dX13_spread_59 : decode cX13_spread 59 = .ok (.aload_n 0, 1) := by decide +kernel
theorem dX13_spread_60 : decode cX13_spread 60 = .ok (.getfield 77, 3) := by decide +kernel
theorem dX13_spread_63 : decode cX13_spread 63 = .ok (.iload 5, 2) := by decide +kernel
theorem dX13_spread_65 : decode cX13_spread 65 = .ok (.iaload, 1) := by decide +kernel
theorem dX13_spread_66 : decode cX13_spread 66 = .ok (.goto 5, 3) := by decide +kernel
theorem dX13_spread_69 : decode cX13_spread 69 = .ok (.iload 4, 2) := by decide +kernel
theorem dX13_spread_71 : decode cX13_spread 71 = .ok (.istore 4, 2) := by decide +kernel
theorem dX13_spread_73 : decode cX13_spread 73 = .ok (.iinc 5 1, 3) := by decide +kernel
theorem dX13_spread_76 : decode cX13_spread 76 = .ok (.goto (-58), 3) := by decide +kernel
theorem dX13_spread_79 : decode cX13_spread 79 = .ok (.iload 4, 2) := by decide +kernel
theorem dX13_spread_81 : decode cX13_spread 81 = .ok (.iload_n 3, 1) := by decide +kernel
theorem dX13_spread_82 : decode cX13_spread 82 = .ok (.isub, 1) := by decide +kernel
theorem dX13_spread_83 : decode cX13_spread 83 = .ok (.ireturn, 1) := by decide +kernel
theorem dX13_spanOf_0 : decode cX13_spanOf 0 = .ok (.aload_n 0, 1) := by decide +kernel
theorem dX13_spanOf_1 : decode cX13_spanOf 1 = .ok (.iload_n 1, 1) := by decide +kernel
theorem dX13_spanOf_2 : decode cX13_spanOf 2 = .ok (.invokevirtual 318, 3) := by decide +kernel
theorem dX13_spanOf_5 : decode cX13_spanOf 5 = .ok (.aload_n 0, 1) := by decide +kernel
theorem dX13_spanOf_6 : decode cX13_spanOf 6 = .ok (.iload_n 2, 1) := by decide +kernel
theorem dX13_spanOf_7 : decode cX13_spanOf 7 = .ok (.iload_n 3, 1) := by decide +kernel
theorem dX13_spanOf_8 : decode cX13_spanOf 8 = .ok (.invokevirtual 321, 3) := by decide +kernel
theorem dX13_spanOf_11 : decode cX13_spanOf 11 = .ok (.ireturn, 1) := by decide +kernel
theorem dX13_span_0 : decode cX13_span 0 = .ok (.aload_n 0, 1) := by decide +kernel
theorem dX13_span_1 : decode cX13_span 1 = .ok (.iconst 0, 1) := by decide +kernel
theorem dX13_span_2 : decode cX13_span 2 = .ok (.putfield 135, 3) := by decide +kernel
theorem dX13_span_5 : decode cX13_span 5 = .ok (.aload_n 0, 1) := by decide +kernel
theorem dX13_span_6 : decode cX13_span 6 = .ok (.iload_n 1, 1) := by decide +kernel
theorem dX13_span_7 : decode cX13_span 7 = .ok (.invokevirtual 303, 3) := by decide +kernel
theorem dX13_span_10 : decode cX13_span 10 = .ok (.ifCond .eq 13, 3) := by decide +kernel
theorem dX13_span_13 : decode cX13_span 13 = .ok (.aload_n 0, 1) := by decide +kernel
theorem dX13_span_14 : decode cX13_span 14 = .ok (.iload_n 2, 1) := by decide +kernel
theorem dX13_span_15 : decode cX13_span 15 = .ok (.iload_n 3, 1) := by decide +kernel
theorem dX13_span_16 : decode cX13_span 16 = .ok (.iconst 2, 1) := by decide +kernel
theorem dX13_span_17 : decode cX13_span 17 = .ok (.invokevirtual 324, 3) := by decide +kernel
theorem dX13_span_20 : decode cX13_span 20 = .ok (.ifCond .ne 5, 3) := by decide +kernel
theorem dX13_span_23 : decode cX13_span 23 = .ok (.iconst 0, 1) := by decide +kernel
theorem dX13_span_24 : decode cX13_span 24 = .ok (.ireturn, 1) := by decide +kernel
theorem dX13_span_25 : decode cX13_span 25 = .ok (.aload_n 0, 1) := by decide +kernel
theorem dX13_span_26 : decode cX13_span 26 = .ok (.invokevirtual 306, 3) := by decide +kernel
theorem dX13_span_29 : decode cX13_span 29 = .ok (.aload_n 0, 1) := by decide +kernel
theorem dX13_span_30 : decode cX13_span 30 = .ok (.iload_n 1, 1) := by decide +kernel
theorem dX13_span_31 : decode cX13_span 31 = .ok (.iload_n 2, 1) := by decide +kernel
theorem dX13_span_32 : decode cX13_span 32 = .ok (.iload_n 3, 1) := by decide +kernel
theorem dX13_span_33 : decode cX13_span 33 = .ok (.invokevirtual 327, 3) := by decide +kernel
theorem dX13_span_36 : decode cX13_span 36 = .ok (.ireturn, 1) := by decide +kernel
theorem dX13_most_0 : decode cX13_most 0 = .ok (.aload_n 0, 1) := by decide +kernel
theorem dX13_most_1 : decode cX13_most 1 = .ok (.getfield 13, 3) := by decide +kernel
theorem dX13_most_4 : decode cX13_most 4 = .ok (.iload_n 1, 1) := by decide +kernel
theorem dX13_most_5 : decode cX13_most 5 = .ok (.iaload, 1) := by decide +kernel
theorem dX13_most_6 : decode cX13_most 6 = .ok (.aload_n 0, 1) := by decide +kernel
theorem dX13_most_7 : decode cX13_most 7 = .ok (.getfield 7, 3) := by decide +kernel
theorem dX13_most_10 : decode cX13_most 10 = .ok (.iload_n 1, 1) := by decide +kernel
theorem dX13_most_11 : decode cX13_most 11 = .ok (.iaload, 1) := by decide +kernel
theorem dX13_most_12 : decode cX13_most 12 = .ok (.if_icmp .ge 12, 3) := by decide +kernel
theorem dX13_most_15 : decode cX13_most 15 = .ok (.aload_n 0, 1) := by decide +kernel
theorem dX13_most_16 : decode cX13_most 16 = .ok (.getfield 13, 3) := by decide +kernel
theorem dX13_most_19 : decode cX13_most 19 = .ok (.iload_n 1, 1) := by decide +kernel
theorem dX13_most_20 : decode cX13_most 20 = .ok (.iaload, 1) := by decide +kernel
theorem dX13_most_21 : decode cX13_most 21 = .ok (.goto 9, 3) := by decide +kernel
theorem dX13_most_24 : decode cX13_most 24 = .ok (.aload_n 0, 1) := by decide +kernel
theorem dX13_most_25 : decode cX13_most 25 = .ok (.getfield 7, 3) := by decide +kernel
theorem dX13_most_28 : decode cX13_most 28 = .ok (.iload_n 1, 1) := by decide +kernel
theorem dX13_most_29 : decode cX13_most 29 = .ok (.iaload, 1) := by decide +kernel
theorem dX13_most_30 : decode cX13_most 30 = .ok (.ireturn, 1) := by decide +kernel
theorem dX13_countsUp_0 : decode cX13_countsUp 0 = .ok (.aload_n 0, 1) := by decide +kernel
theorem dX13_countsUp_1 : decode cX13_countsUp 1 = .ok (.getfield 245, 3) := by decide +kernel
theorem dX13_countsUp_4 : decode cX13_countsUp 4 = .ok (.iconst 1, 1) := by decide +kernel
theorem dX13_countsUp_5 : decode cX13_countsUp 5 = .ok (.isub, 1) := by decide +kernel
theorem dX13_countsUp_6 : decode cX13_countsUp 6 = .ok (.istore_n 1, 1) := by decide +kernel
theorem dX13_countsUp_7 : decode cX13_countsUp 7 = .ok (.iload_n 1, 1) := by decide +kernel
theorem dX13_countsUp_8 : decode cX13_countsUp 8 = .ok (.ifCond .lt 30, 3) := by decide +kernel
theorem dX13_countsUp_11 : decode cX13_countsUp 11 = .ok (.aload_n 0, 1) := by decide +kernel
theorem dX13_countsUp_12 : decode cX13_countsUp 12 = .ok (.getfield 80, 3) := by decide +kernel
theorem dX13_countsUp_15 : decode cX13_countsUp 15 = .ok (.iload_n 1, 1) := by decide +kernel
theorem dX13_countsUp_16 : decode cX13_countsUp 16 = .ok (.iaload, 1) := by decide +kernel
theorem dX13_countsUp_17 : decode cX13_countsUp 17 = .ok (.aload_n 0, 1) := by decide +kernel
theorem dX13_countsUp_18 : decode cX13_countsUp 18 = .ok (.iload_n 1, 1) := by decide +kernel
theorem dX13_countsUp_19 : decode cX13_countsUp 19 = .ok (.invokevirtual 331, 3) := by decide +kernel
theorem dX13_countsUp_22 : decode cX13_countsUp 22 = .ok (.if_icmp .ne 16, 3) := by decide +kernel
theorem dX13_countsUp_25 : decode cX13_countsUp 25 = .ok (.aload_n 0, 1) := by decide +kernel
theorem dX13_countsUp_26 : decode cX13_countsUp 26 = .ok (.getfield 80, 3) := by decide +kernel
theorem dX13_countsUp_29 : decode cX13_countsUp 29 = .ok (.iload_n 1, 1) := by decide +kernel
theorem dX13_countsUp_30 : decode cX13_countsUp 30 = .ok (.iconst 0, 1) := by decide +kernel
theorem dX13_countsUp_31 : decode cX13_countsUp 31 = .ok (.iastore, 1) := by decide +kernel
theorem dX13_countsUp_32 : decode cX13_countsUp 32 = .ok (.iinc 1 (-1), 3) := by decide +kernel
theorem dX13_countsUp_35 : decode cX13_countsUp 35 = .ok (.goto (-28), 3) := by decide +kernel
theorem dX13_countsUp_38 : decode cX13_countsUp 38 = .ok (.iload_n 1, 1) := by decide +kernel
theorem dX13_countsUp_39 : decode cX13_countsUp 39 = .ok (.ifCond .lt 13, 3) := by decide +kernel
theorem dX13_countsUp_42 : decode cX13_countsUp 42 = .ok (.aload_n 0, 1) := by decide +kernel
theorem dX13_countsUp_43 : decode cX13_countsUp 43 = .ok (.getfield 80, 3) := by decide +kernel
theorem dX13_countsUp_46 : decode cX13_countsUp 46 = .ok (.iload_n 1, 1) := by decide +kernel
theorem dX13_countsUp_47 : decode cX13_countsUp 47 = .ok (.dup2, 1) := by decide +kernel
theorem dX13_countsUp_48 : decode cX13_countsUp 48 = .ok (.iaload, 1) := by decide +kernel
theorem dX13_countsUp_49 : decode cX13_countsUp 49 = .ok (.iconst 1, 1) := by decide +kernel
theorem dX13_countsUp_50 : decode cX13_countsUp 50 = .ok (.iadd, 1) := by decide +kernel
theorem dX13_countsUp_51 : decode cX13_countsUp 51 = .ok (.iastore, 1) := by decide +kernel
theorem dX13_countsUp_52 : decode cX13_countsUp 52 = .ok (.iload_n 1, 1) := by decide +kernel
theorem dX13_countsUp_53 : decode cX13_countsUp 53 = .ok (.ifCond .lt 7, 3) := by decide +kernel
theorem dX13_countsUp_56 : decode cX13_countsUp 56 = .ok (.iconst 1, 1) := by decide +kernel
theorem dX13_countsUp_57 : decode cX13_countsUp 57 = .ok (.goto 4, 3) := by decide +kernel
theorem dX13_countsUp_60 : decode cX13_countsUp 60 = .ok (.iconst 0, 1) := by decide +kernel
theorem dX13_countsUp_61 : decode cX13_countsUp 61 = .ok (.ireturn, 1) := by decide +kernel
theorem dX13_isAtRest_0 : decode cX13_isAtRest 0 = .ok (.aload_n 0, 1) := by decide +kernel
theorem dX13_isAtRest_1 : decode cX13_isAtRest 1 = .ok (.invokevirtual 274, 3) := by decide +kernel
theorem dX13_isAtRest_4 : decode cX13_isAtRest 4 = .ok (.istore_n 1, 1) := by decide +kernel
theorem dX13_isAtRest_5 : decode cX13_isAtRest 5 = .ok (.iconst 0, 1) := by decide +kernel
theorem dX13_isAtRest_6 : decode cX13_isAtRest 6 = .ok (.istore_n 2, 1) := by decide +kernel
theorem dX13_isAtRest_7 : decode cX13_isAtRest 7 = .ok (.iload_n 2, 1) := by decide +kernel
theorem dX13_isAtRest_8 : decode cX13_isAtRest 8 = .ok (.aload_n 0, 1) := by decide +kernel
theorem dX13_isAtRest_9 : decode cX13_isAtRest 9 = .ok (.getfield 245, 3) := by decide +kernel
theorem dX13_isAtRest_12 : decode cX13_isAtRest 12 = .ok (.if_icmp .ge 18, 3) := by decide +kernel
theorem dX13_isAtRest_15 : decode cX13_isAtRest 15 = .ok (.iload_n 1, 1) := by decide +kernel
theorem dX13_isAtRest_16 : decode cX13_isAtRest 16 = .ok (.aload_n 0, 1) := by decide +kernel
theorem dX13_isAtRest_17 : decode cX13_isAtRest 17 = .ok (.getfield 80, 3) := by decide +kernel
theorem dX13_isAtRest_20 : decode cX13_isAtRest 20 = .ok (.iload_n 2, 1) := by decide +kernel
theorem dX13_isAtRest_21 : decode cX13_isAtRest 21 = .ok (.iaload, 1) := by decide +kernel
theorem dX13_isAtRest_22 : decode cX13_isAtRest 22 = .ok (.isub, 1) := by decide +kernel
theorem dX13_isAtRest_23 : decode cX13_isAtRest 23 = .ok (.istore_n 1, 1) := by decide +kernel
theorem dX13_isAtRest_24 : decode cX13_isAtRest 24 = .ok (.iinc 2 1, 3) := by decide +kernel
theorem dX13_isAtRest_27 : decode cX13_isAtRest 27 = .ok (.goto (-20), 3) := by decide +kernel
theorem dX13_isAtRest_30 : decode cX13_isAtRest 30 = .ok (.iconst 0, 1) := by decide +kernel
theorem dX13_isAtRest_31 : decode cX13_isAtRest 31 = .ok (.istore_n 2, 1) := by decide +kernel
theorem dX13_isAtRest_32 : decode cX13_isAtRest 32 = .ok (.iload_n 2, 1) := by decide +kernel
theorem dX13_isAtRest_33 : decode cX13_isAtRest 33 = .ok (.aload_n 0, 1) := by decide +kernel
theorem dX13_isAtRest_34 : decode cX13_isAtRest 34 = .ok (.getfield 245, 3) := by decide +kernel
theorem dX13_isAtRest_37 : decode cX13_isAtRest 37 = .ok (.if_icmp .ge 62, 3) := by decide +kernel
theorem dX13_isAtRest_40 : decode cX13_isAtRest 40 = .ok (.iconst 0, 1) := by decide +kernel
theorem dX13_isAtRest_41 : decode cX13_isAtRest 41 = .ok (.istore_n 3, 1) := by decide +kernel
theorem dX13_isAtRest_42 : decode cX13_isAtRest 42 = .ok (.iload_n 3, 1) := by decide +kernel
theorem dX13_isAtRest_43 : decode cX13_isAtRest 43 = .ok (.aload_n 0, 1) := by decide +kernel
theorem dX13_isAtRest_44 : decode cX13_isAtRest 44 = .ok (.iload_n 2, 1) := by decide +kernel
theorem dX13_isAtRest_45 : decode cX13_isAtRest 45 = .ok (.invokevirtual 331, 3) := by decide +kernel
theorem dX13_isAtRest_48 : decode cX13_isAtRest 48 = .ok (.if_icmp .gt 45, 3) := by decide +kernel
theorem dX13_isAtRest_51 : decode cX13_isAtRest 51 = .ok (.aload_n 0, 1) := by decide +kernel
theorem dX13_isAtRest_52 : decode cX13_isAtRest 52 = .ok (.getfield 86, 3) := by decide +kernel
theorem dX13_isAtRest_55 : decode cX13_isAtRest 55 = .ok (.bipush 42, 2) := by decide +kernel
theorem dX13_isAtRest_57 : decode cX13_isAtRest 57 = .ok (.iload_n 2, 1) := by decide +kernel
theorem dX13_isAtRest_58 : decode cX13_isAtRest 58 = .ok (.imul, 1) := by decide +kernel
theorem dX13_isAtRest_59 : decode cX13_isAtRest 59 = .ok (.iload_n 1, 1) := by decide +kernel
theorem dX13_isAtRest_60 : decode cX13_isAtRest 60 = .ok (.iadd, 1) := by decide +kernel
theorem dX13_isAtRest_61 : decode cX13_isAtRest 61 = .ok (.aload_n 0, 1) := by decide +kernel
theorem dX13_isAtRest_62 : decode cX13_isAtRest 62 = .ok (.getfield 80, 3) := by decide +kernel
theorem dX13_isAtRest_65 : decode cX13_isAtRest 65 = .ok (.iload_n 2, 1) := by decide +kernel
theorem dX13_isAtRest_66 : decode cX13_isAtRest 66 = .ok (.iaload, 1) := by decide +kernel
theorem dX13_isAtRest_67 : decode cX13_isAtRest 67 = .ok (.iadd, 1) := by decide +kernel
theorem dX13_isAtRest_68 : decode cX13_isAtRest 68 = .ok (.iload_n 3, 1) := by decide +kernel
theorem dX13_isAtRest_69 : decode cX13_isAtRest 69 = .ok (.isub, 1) := by decide +kernel
theorem dX13_isAtRest_70 : decode cX13_isAtRest 70 = .ok (.iaload, 1) := by decide +kernel
theorem dX13_isAtRest_71 : decode cX13_isAtRest 71 = .ok (.aload_n 0, 1) := by decide +kernel
theorem dX13_isAtRest_72 : decode cX13_isAtRest 72 = .ok (.getfield 86, 3) := by decide +kernel
theorem dX13_isAtRest_75 : decode cX13_isAtRest 75 = .ok (.bipush 42, 2) := by decide +kernel
theorem dX13_isAtRest_77 : decode cX13_isAtRest 77 = .ok (.iload_n 2, 1) := by decide +kernel
theorem dX13_isAtRest_78 : decode cX13_isAtRest 78 = .ok (.imul, 1) := by decide +kernel
theorem dX13_isAtRest_79 : decode cX13_isAtRest 79 = .ok (.iload_n 1, 1) := by decide +kernel
theorem dX13_isAtRest_80 : decode cX13_isAtRest 80 = .ok (.iadd, 1) := by decide +kernel
theorem dX13_isAtRest_81 : decode cX13_isAtRest 81 = .ok (.iaload, 1) := by decide +kernel
theorem dX13_isAtRest_82 : decode cX13_isAtRest 82 = .ok (.if_icmp .le 5, 3) := by decide +kernel
theorem dX13_isAtRest_85 : decode cX13_isAtRest 85 = .ok (.iconst 0, 1) := by decide +kernel
theorem dX13_isAtRest_86 : decode cX13_isAtRest 86 = .ok (.ireturn, 1) := by decide +kernel
theorem dX13_isAtRest_87 : decode cX13_isAtRest 87 = .ok (.iinc 3 1, 3) := by decide +kernel
theorem dX13_isAtRest_90 : decode cX13_isAtRest 90 = .ok (.goto (-48), 3) := by decide +kernel
theorem dX13_isAtRest_93 : decode cX13_isAtRest 93 = .ok (.iinc 2 1, 3) := by decide +kernel
theorem dX13_isAtRest_96 : decode cX13_isAtRest 96 = .ok (.goto (-64), 3) := by decide +kernel
theorem dX13_isAtRest_99 : decode cX13_isAtRest 99 = .ok (.iconst 1, 1) := by decide +kernel
theorem dX13_isAtRest_100 : decode cX13_isAtRest 100 = .ok (.ireturn, 1) := by decide +kernel
theorem dX13_rests_0 : decode cX13_rests 0 = .ok (.aload_n 0, 1) := by decide +kernel
theorem dX13_rests_1 : decode cX13_rests 1 = .ok (.iconst 0, 1) := by decide +kernel
theorem dX13_rests_2 : decode cX13_rests 2 = .ok (.putfield 135, 3) := by decide +kernel
theorem dX13_rests_5 : decode cX13_rests 5 = .ok (.iload_n 1, 1) := by decide +kernel
theorem dX13_rests_6 : decode cX13_rests 6 = .ok (.iconst (-1), 1) := by decide +kernel
theorem dX13_rests_7 : decode cX13_rests 7 = .ok (.if_icmp .eq 13, 3) := by decide +kernel
theorem dX13_rests_10 : decode cX13_rests 10 = .ok (.aload_n 0, 1) := by decide +kernel
theorem dX13_rests_11 : decode cX13_rests 11 = .ok (.iload_n 1, 1) := by decide +kernel
theorem dX13_rests_12 : decode cX13_rests 12 = .ok (.invokevirtual 303, 3) := by decide +kernel
theorem dX13_rests_15 : decode cX13_rests 15 = .ok (.ifCond .ne 5, 3) := by decide +kernel
theorem dX13_rests_18 : decode cX13_rests 18 = .ok (.iconst 0, 1) := by decide +kernel
theorem dX13_rests_19 : decode cX13_rests 19 = .ok (.ireturn, 1) := by decide +kernel
theorem dX13_rests_20 : decode cX13_rests 20 = .ok (.aload_n 0, 1) := by decide +kernel
theorem dX13_rests_21 : decode cX13_rests 21 = .ok (.invokevirtual 306, 3) := by decide +kernel
theorem dX13_rests_24 : decode cX13_rests 24 = .ok (.iconst 0, 1) := by decide +kernel
theorem dX13_rests_25 : decode cX13_rests 25 = .ok (.istore_n 2, 1) := by decide +kernel
theorem dX13_rests_26 : decode cX13_rests 26 = .ok (.iload_n 2, 1) := by decide +kernel
theorem dX13_rests_27 : decode cX13_rests 27 = .ok (.aload_n 0, 1) := by decide +kernel
theorem dX13_rests_28 : decode cX13_rests 28 = .ok (.getfield 245, 3) := by decide +kernel
theorem dX13_rests_31 : decode cX13_rests 31 = .ok (.if_icmp .ge 40, 3) := by decide +kernel
theorem dX13_rests_34 : decode cX13_rests 34 = .ok (.iconst 0, 1) := by decide +kernel
theorem dX13_rests_35 : decode cX13_rests 35 = .ok (.istore_n 3, 1) := by decide +kernel
theorem dX13_rests_36 : decode cX13_rests 36 = .ok (.iload_n 3, 1) := by decide +kernel
theorem dX13_rests_37 : decode cX13_rests 37 = .ok (.bipush 40, 2) := by decide +kernel
theorem dX13_rests_39 : decode cX13_rests 39 = .ok (.if_icmp .gt 26, 3) := by decide +kernel
theorem dX13_rests_42 : decode cX13_rests 42 = .ok (.aload_n 0, 1) := by decide +kernel
theorem dX13_rests_43 : decode cX13_rests 43 = .ok (.getfield 86, 3) := by decide +kernel
theorem dX13_rests_46 : decode cX13_rests 46 = .ok (.bipush 42, 2) := by decide +kernel
theorem dX13_rests_48 : decode cX13_rests 48 = .ok (.iload_n 2, 1) := by decide +kernel
theorem dX13_rests_49 : decode cX13_rests 49 = .ok (.imul, 1) := by decide +kernel
theorem dX13_rests_50 : decode cX13_rests 50 = .ok (.iload_n 3, 1) := by decide +kernel
theorem dX13_rests_51 : decode cX13_rests 51 = .ok (.iadd, 1) := by decide +kernel
theorem dX13_rests_52 : decode cX13_rests 52 = .ok (.aload_n 0, 1) := by decide +kernel
theorem dX13_rests_53 : decode cX13_rests 53 = .ok (.iload_n 2, 1) := by decide +kernel
theorem dX13_rests_54 : decode cX13_rests 54 = .ok (.iload_n 3, 1) := by decide +kernel
theorem dX13_rests_55 : decode cX13_rests 55 = .ok (.invokevirtual 309, 3) := by decide +kernel
theorem dX13_rests_58 : decode cX13_rests 58 = .ok (.iastore, 1) := by decide +kernel
theorem dX13_rests_59 : decode cX13_rests 59 = .ok (.iinc 3 1, 3) := by decide +kernel
theorem dX13_rests_62 : decode cX13_rests 62 = .ok (.goto (-26), 3) := by decide +kernel
theorem dX13_rests_65 : decode cX13_rests 65 = .ok (.iinc 2 1, 3) := by decide +kernel
theorem dX13_rests_68 : decode cX13_rests 68 = .ok (.goto (-42), 3) := by decide +kernel
theorem dX13_rests_71 : decode cX13_rests 71 = .ok (.iconst 0, 1) := by decide +kernel
theorem dX13_rests_72 : decode cX13_rests 72 = .ok (.istore_n 2, 1) := by decide +kernel
theorem dX13_rests_73 : decode cX13_rests 73 = .ok (.iload_n 2, 1) := by decide +kernel
theorem dX13_rests_74 : decode cX13_rests 74 = .ok (.aload_n 0, 1) := by decide +kernel
theorem dX13_rests_75 : decode cX13_rests 75 = .ok (.getfield 245, 3) := by decide +kernel
theorem dX13_rests_78 : decode cX13_rests 78 = .ok (.if_icmp .ge 16, 3) := by decide +kernel
theorem dX13_rests_81 : decode cX13_rests 81 = .ok (.aload_n 0, 1) := by decide +kernel
theorem dX13_rests_82 : decode cX13_rests 82 = .ok (.getfield 80, 3) := by decide +kernel
theorem dX13_rests_85 : decode cX13_rests 85 = .ok (.iload_n 2, 1) := by decide +kernel
theorem dX13_rests_86 : decode cX13_rests 86 = .ok (.iconst 0, 1) := by decide +kernel
theorem dX13_rests_87 : decode cX13_rests 87 = .ok (.iastore, 1) := by decide +kernel
theorem dX13_rests_88 : decode cX13_rests 88 = .ok (.iinc 2 1, 3) := by decide +kernel
theorem dX13_rests_91 : decode cX13_rests 91 = .ok (.goto (-18), 3) := by decide +kernel
theorem dX13_rests_94 : decode cX13_rests 94 = .ok (.iconst 0, 1) := by decide +kernel
theorem dX13_rests_95 : decode cX13_rests 95 = .ok (.istore_n 2, 1) := by decide +kernel
theorem dX13_rests_96 : decode cX13_rests 96 = .ok (.iconst 1, 1) := by decide +kernel
theorem dX13_rests_97 : decode cX13_rests 97 = .ok (.istore_n 3, 1) := by decide +kernel
theorem dX13_rests_98 : decode cX13_rests 98 = .ok (.iload_n 3, 1) := by decide +kernel
theorem dX13_rests_99 : decode cX13_rests 99 = .ok (.ifCond .eq 37, 3) := by decide +kernel
theorem dX13_rests_102 : decode cX13_rests 102 = .ok (.aload_n 0, 1) := by decide +kernel
theorem dX13_rests_103 : decode cX13_rests 103 = .ok (.invokevirtual 334, 3) := by decide +kernel
theorem dX13_rests_106 : decode cX13_rests 106 = .ok (.ifCond .eq 22, 3) := by decide +kernel
theorem dX13_rests_109 : decode cX13_rests 109 = .ok (.iload_n 2, 1) := by decide +kernel
theorem dX13_rests_110 : decode cX13_rests 110 = .ok (.ifCond .ne 15, 3) := by decide +kernel
theorem dX13_rests_113 : decode cX13_rests 113 = .ok (.aload_n 0, 1) := by decide +kernel
theorem dX13_rests_114 : decode cX13_rests 114 = .ok (.aload_n 0, 1) := by decide +kernel
theorem dX13_rests_115 : decode cX13_rests 115 = .ok (.getfield 80, 3) := by decide +kernel
theorem dX13_rests_118 : decode cX13_rests 118 = .ok (.aload_n 0, 1) := by decide +kernel
theorem dX13_rests_119 : decode cX13_rests 119 = .ok (.getfield 83, 3) := by decide +kernel
theorem dX13_rests_122 : decode cX13_rests 122 = .ok (.invokevirtual 254, 3) := by decide +kernel
theorem dX13_rests_125 : decode cX13_rests 125 = .ok (.iinc 2 1, 3) := by decide +kernel
theorem dX13_rests_128 : decode cX13_rests 128 = .ok (.aload_n 0, 1) := by decide +kernel
theorem dX13_rests_129 : decode cX13_rests 129 = .ok (.invokevirtual 337, 3) := by decide +kernel
theorem dX13_rests_132 : decode cX13_rests 132 = .ok (.istore_n 3, 1) := by decide +kernel
theorem dX13_rests_133 : decode cX13_rests 133 = .ok (.goto (-35), 3) := by decide +kernel
theorem dX13_rests_136 : decode cX13_rests 136 = .ok (.iload_n 1, 1) := by decide +kernel
theorem dX13_rests_137 : decode cX13_rests 137 = .ok (.iconst (-1), 1) := by decide +kernel
theorem dX13_rests_138 : decode cX13_rests 138 = .ok (.if_icmp .ne 5, 3) := by decide +kernel
theorem dX13_rests_141 : decode cX13_rests 141 = .ok (.iload_n 2, 1) := by decide +kernel
theorem dX13_rests_142 : decode cX13_rests 142 = .ok (.ireturn, 1) := by decide +kernel
theorem dX13_rests_143 : decode cX13_rests 143 = .ok (.aload_n 0, 1) := by decide +kernel
theorem dX13_rests_144 : decode cX13_rests 144 = .ok (.iload_n 2, 1) := by decide +kernel
theorem dX13_rests_145 : decode cX13_rests 145 = .ok (.ifCond .le 7, 3) := by decide +kernel
theorem dX13_rests_148 : decode cX13_rests 148 = .ok (.iconst 1, 1) := by decide +kernel
theorem dX13_rests_149 : decode cX13_rests 149 = .ok (.goto 4, 3) := by decide +kernel
theorem dX13_rests_152 : decode cX13_rests 152 = .ok (.iconst 0, 1) := by decide +kernel
theorem dX13_rests_153 : decode cX13_rests 153 = .ok (.iconst 1, 1) := by decide +kernel
theorem dX13_rests_154 : decode cX13_rests 154 = .ok (.invokevirtual 235, 3) := by decide +kernel
theorem dX13_rests_157 : decode cX13_rests 157 = .ok (.ifCond .eq 12, 3) := by decide +kernel
theorem dX13_rests_160 : decode cX13_rests 160 = .ok (.aload_n 0, 1) := by decide +kernel
theorem dX13_rests_161 : decode cX13_rests 161 = .ok (.getfield 83, 3) := by decide +kernel
theorem dX13_rests_164 : decode cX13_rests 164 = .ok (.iload_n 1, 1) := by decide +kernel
theorem dX13_rests_165 : decode cX13_rests 165 = .ok (.iaload, 1) := by decide +kernel
theorem dX13_rests_166 : decode cX13_rests 166 = .ok (.goto 4, 3) := by decide +kernel
theorem dX13_rests_169 : decode cX13_rests 169 = .ok (.iconst 0, 1) := by decide +kernel
theorem dX13_rests_170 : decode cX13_rests 170 = .ok (.ireturn, 1) := by decide +kernel
theorem dX13_alike_0 : decode cX13_alike 0 = .ok (.aload_n 0, 1) := by decide +kernel
theorem dX13_alike_1 : decode cX13_alike 1 = .ok (.iconst 0, 1) := by decide +kernel
theorem dX13_alike_2 : decode cX13_alike 2 = .ok (.putfield 135, 3) := by decide +kernel
theorem dX13_alike_5 : decode cX13_alike 5 = .ok (.aload_n 0, 1) := by decide +kernel
theorem dX13_alike_6 : decode cX13_alike 6 = .ok (.iload_n 1, 1) := by decide +kernel
theorem dX13_alike_7 : decode cX13_alike 7 = .ok (.iconst 1, 1) := by decide +kernel
theorem dX13_alike_8 : decode cX13_alike 8 = .ok (.sipush 9999, 3) := by decide +kernel
theorem dX13_alike_11 : decode cX13_alike 11 = .ok (.invokestatic 290, 3) := by decide +kernel
theorem dX13_alike_14 : decode cX13_alike 14 = .ok (.ifCond .eq 18, 3) := by decide +kernel
theorem dX13_alike_17 : decode cX13_alike 17 = .ok (.iload_n 2, 1) := by decide +kernel
theorem dX13_alike_18 : decode cX13_alike 18 = .ok (.ifCond .le 14, 3) := by decide +kernel
theorem dX13_alike_21 : decode cX13_alike 21 = .ok (.iload_n 2, 1) := by decide +kernel
theorem dX13_alike_22 : decode cX13_alike 22 = .ok (.ldc_w 340, 3) := by decide +kernel
theorem dX13_alike_25 : decode cX13_alike 25 = .ok (.if_icmp .ge 7, 3) := by decide +kernel
theorem dX13_alike_28 : decode cX13_alike 28 = .ok (.iconst 1, 1) := by decide +kernel
theorem dX13_alike_29 : decode cX13_alike 29 = .ok (.goto 4, 3) := by decide +kernel
theorem dX13_alike_32 : decode cX13_alike 32 = .ok (.iconst 0, 1) := by decide +kernel
theorem dX13_alike_33 : decode cX13_alike 33 = .ok (.iconst 1, 1) := by decide +kernel
theorem dX13_alike_34 : decode cX13_alike 34 = .ok (.invokevirtual 235, 3) := by decide +kernel
theorem dX13_alike_37 : decode cX13_alike 37 = .ok (.ifCond .ne 5, 3) := by decide +kernel
theorem dX13_alike_40 : decode cX13_alike 40 = .ok (.iconst 0, 1) := by decide +kernel
theorem dX13_alike_41 : decode cX13_alike 41 = .ok (.ireturn, 1) := by decide +kernel
theorem dX13_alike_42 : decode cX13_alike 42 = .ok (.iconst (-1), 1) := by decide +kernel
theorem dX13_alike_43 : decode cX13_alike 43 = .ok (.istore_n 3, 1) := by decide +kernel
theorem dX13_alike_44 : decode cX13_alike 44 = .ok (.iconst 0, 1) := by decide +kernel
theorem dX13_alike_45 : decode cX13_alike 45 = .ok (.istore 4, 2) := by decide +kernel
theorem dX13_alike_47 : decode cX13_alike 47 = .ok (.bipush 29, 2) := by decide +kernel
theorem dX13_alike_49 : decode cX13_alike 49 = .ok (.istore 5, 2) := by decide +kernel
theorem dX13_alike_51 : decode cX13_alike 51 = .ok (.iload 5, 2) := by decide +kernel
theorem dX13_alike_53 : decode cX13_alike 53 = .ok (.ifCond .lt 29, 3) := by decide +kernel
theorem dX13_alike_56 : decode cX13_alike 56 = .ok (.iload_n 2, 1) := by decide +kernel
theorem dX13_alike_57 : decode cX13_alike 57 = .ok (.iload 5, 2) := by decide +kernel
theorem dX13_alike_59 : decode cX13_alike 59 = .ok (.ishr, 1) := by decide +kernel
theorem dX13_alike_60 : decode cX13_alike 60 = .ok (.iconst 1, 1) := by decide +kernel
theorem dX13_alike_61 : decode cX13_alike 61 = .ok (.iand, 1) := by decide +kernel
theorem dX13_alike_62 : decode cX13_alike 62 = .ok (.ifCond .ne 6, 3) := by decide +kernel
theorem dX13_alike_65 : decode cX13_alike 65 = .ok (.goto 11, 3) := by decide +kernel
theorem dX13_alike_68 : decode cX13_alike 68 = .ok (.iload 5, 2) := by decide +kernel
theorem dX13_alike_70 : decode cX13_alike 70 = .ok (.iconst 2, 1) := by decide +kernel
theorem dX13_alike_71 : decode cX13_alike 71 = .ok (.iadd, 1) := by decide +kernel
theorem dX13_alike_72 : decode cX13_alike 72 = .ok (.istore_n 3, 1) := by decide +kernel
theorem dX13_alike_73 : decode cX13_alike 73 = .ok (.iinc 4 1, 3) := by decide +kernel
theorem dX13_alike_76 : decode cX13_alike 76 = .ok (.iinc 5 (-1), 3) := by decide +kernel
theorem dX13_alike_79 : decode cX13_alike 79 = .ok (.goto (-28), 3) := by decide +kernel
theorem dX13_alike_82 : decode cX13_alike 82 = .ok (.iload_n 3, 1) := by decide +kernel
theorem dX13_alike_83 : decode cX13_alike 83 = .ok (.iconst 1, 1) := by decide +kernel
theorem dX13_alike_84 : decode cX13_alike 84 = .ok (.isub, 1) := by decide +kernel
theorem dX13_alike_85 : decode cX13_alike 85 = .ok (.istore 5, 2) := by decide +kernel
theorem dX13_alike_87 : decode cX13_alike 87 = .ok (.iload 4, 2) := by decide +kernel
theorem dX13_alike_89 : decode cX13_alike 89 = .ok (.iconst 1, 1) := by decide +kernel
theorem dX13_alike_90 : decode cX13_alike 90 = .ok (.if_icmp .ne 16, 3) := by decide +kernel
theorem dX13_alike_93 : decode cX13_alike 93 = .ok (.iload_n 3, 1) := by decide +kernel
theorem dX13_alike_94 : decode cX13_alike 94 = .ok (.iload_n 3, 1) := by decide +kernel
theorem dX13_alike_95 : decode cX13_alike 95 = .ok (.imul, 1) := by decide +kernel
theorem dX13_alike_96 : decode cX13_alike 96 = .ok (.iload_n 3, 1) := by decide +kernel
theorem dX13_alike_97 : decode cX13_alike 97 = .ok (.imul, 1) := by decide +kernel
theorem dX13_alike_98 : decode cX13_alike 98 = .ok (.iload_n 3, 1) := by decide +kernel
theorem dX13_alike_99 : decode cX13_alike 99 = .ok (.imul, 1) := by decide +kernel
theorem dX13_alike_100 : decode cX13_alike 100 = .ok (.iload_n 3, 1) := by decide +kernel
theorem dX13_alike_101 : decode cX13_alike 101 = .ok (.imul, 1) := by decide +kernel
theorem dX13_alike_102 : decode cX13_alike 102 = .ok (.iconst 1, 1) := by decide +kernel
theorem dX13_alike_103 : decode cX13_alike 103 = .ok (.isub, 1) := by decide +kernel
theorem dX13_alike_104 : decode cX13_alike 104 = .ok (.istore 5, 2) := by decide +kernel
theorem dX13_alike_106 : decode cX13_alike 106 = .ok (.iload_n 1, 1) := by decide +kernel
theorem dX13_alike_107 : decode cX13_alike 107 = .ok (.iload 5, 2) := by decide +kernel
theorem dX13_alike_109 : decode cX13_alike 109 = .ok (.iadd, 1) := by decide +kernel
theorem dX13_alike_110 : decode cX13_alike 110 = .ok (.iconst 1, 1) := by decide +kernel
theorem dX13_alike_111 : decode cX13_alike 111 = .ok (.isub, 1) := by decide +kernel
theorem dX13_alike_112 : decode cX13_alike 112 = .ok (.iload 5, 2) := by decide +kernel
theorem dX13_alike_114 : decode cX13_alike 114 = .ok (.idiv, 1) := by decide +kernel
theorem dX13_alike_115 : decode cX13_alike 115 = .ok (.ireturn, 1) := by decide +kernel
theorem dX13_hedge_0 : decode cX13_hedge 0 = .ok (.aload_n 0, 1) := by decide +kernel
theorem dX13_hedge_1 : decode cX13_hedge 1 = .ok (.iconst 0, 1) := by decide +kernel
theorem dX13_hedge_2 : decode cX13_hedge 2 = .ok (.putfield 135, 3) := by decide +kernel
theorem dX13_hedge_5 : decode cX13_hedge 5 = .ok (.aload_n 0, 1) := by decide +kernel
theorem dX13_hedge_6 : decode cX13_hedge 6 = .ok (.iload_n 1, 1) := by decide +kernel
theorem dX13_hedge_7 : decode cX13_hedge 7 = .ok (.invokevirtual 303, 3) := by decide +kernel
theorem dX13_hedge_10 : decode cX13_hedge 10 = .ok (.ifCond .eq 13, 3) := by decide +kernel
theorem dX13_hedge_13 : decode cX13_hedge 13 = .ok (.aload_n 0, 1) := by decide +kernel
theorem dX13_hedge_14 : decode cX13_hedge 14 = .ok (.iload_n 2, 1) := by decide +kernel
theorem dX13_hedge_15 : decode cX13_hedge 15 = .ok (.iload_n 3, 1) := by decide +kernel
theorem dX13_hedge_16 : decode cX13_hedge 16 = .ok (.iconst 2, 1) := by decide +kernel
theorem dX13_hedge_17 : decode cX13_hedge 17 = .ok (.invokevirtual 324, 3) := by decide +kernel
theorem dX13_hedge_20 : decode cX13_hedge 20 = .ok (.ifCond .ne 5, 3) := by decide +kernel
theorem dX13_hedge_23 : decode cX13_hedge 23 = .ok (.iconst 0, 1) := by decide +kernel
theorem dX13_hedge_24 : decode cX13_hedge 24 = .ok (.ireturn, 1) := by decide +kernel
theorem dX13_hedge_25 : decode cX13_hedge 25 = .ok (.aload_n 0, 1) := by decide +kernel
theorem dX13_hedge_26 : decode cX13_hedge 26 = .ok (.invokevirtual 306, 3) := by decide +kernel
theorem dX13_hedge_29 : decode cX13_hedge 29 = .ok (.iconst 0, 1) := by decide +kernel
theorem dX13_hedge_30 : decode cX13_hedge 30 = .ok (.istore 5, 2) := by decide +kernel
theorem dX13_hedge_32 : decode cX13_hedge 32 = .ok (.iconst 0, 1) := by decide +kernel
theorem dX13_hedge_33 : decode cX13_hedge 33 = .ok (.istore 6, 2) := by decide +kernel
theorem dX13_hedge_35 : decode cX13_hedge 35 = .ok (.iload 6, 2) := by decide +kernel
theorem dX13_hedge_37 : decode cX13_hedge 37 = .ok (.bipush 10, 2) := by decide +kernel
theorem dX13_hedge_39 : decode cX13_hedge 39 = .ok (.if_icmp .ge 55, 3) := by decide +kernel
theorem dX13_hedge_42 : decode cX13_hedge 42 = .ok (.iload 5, 2) := by decide +kernel
theorem dX13_hedge_44 : decode cX13_hedge 44 = .ok (.aload_n 0, 1) := by decide +kernel
theorem dX13_hedge_45 : decode cX13_hedge 45 = .ok (.getfield 22, 3) := by decide +kernel
theorem dX13_hedge_48 : decode cX13_hedge 48 = .ok (.iload 6, 2) := by decide +kernel
theorem dX13_hedge_50 : decode cX13_hedge 50 = .ok (.iaload, 1) := by decide +kernel
theorem dX13_hedge_51 : decode cX13_hedge 51 = .ok (.iconst 1, 1) := by decide +kernel
theorem dX13_hedge_52 : decode cX13_hedge 52 = .ok (.if_icmp .ne 32, 3) := by decide +kernel
theorem dX13_hedge_55 : decode cX13_hedge 55 = .ok (.aload_n 0, 1) := by decide +kernel
theorem dX13_hedge_56 : decode cX13_hedge 56 = .ok (.getfield 25, 3) := by decide +kernel
theorem dX13_hedge_59 : decode cX13_hedge 59 = .ok (.iload 6, 2) := by decide +kernel
theorem dX13_hedge_61 : decode cX13_hedge 61 = .ok (.iaload, 1) := by decide +kernel
theorem dX13_hedge_62 : decode cX13_hedge 62 = .ok (.iload_n 1, 1) := by decide +kernel
theorem dX13_hedge_63 : decode cX13_hedge 63 = .ok (.if_icmp .eq 21, 3) := by decide +kernel
theorem dX13_hedge_66 : decode cX13_hedge 66 = .ok (.aload_n 0, 1) := by decide +kernel
theorem dX13_hedge_67 : decode cX13_hedge 67 = .ok (.getfield 28, 3) := by decide +kernel
theorem dX13_hedge_70 : decode cX13_hedge 70 = .ok (.iload 6, 2) := by decide +kernel
theorem dX13_hedge_72 : decode cX13_hedge 72 = .ok (.iaload, 1) := by decide +kernel
theorem dX13_hedge_73 : decode cX13_hedge 73 = .ok (.iload_n 1, 1) := by decide +kernel
theorem dX13_hedge_74 : decode cX13_hedge 74 = .ok (.if_icmp .eq 10, 3) := by decide +kernel
theorem dX13_hedge_77 : decode cX13_hedge 77 = .ok (.iconst 1, 1) := by decide +kernel
theorem dX13_hedge_78 : decode cX13_hedge 78 = .ok (.iload 6, 2) := by decide +kernel
theorem dX13_hedge_80 : decode cX13_hedge 80 = .ok (.ishl, 1) := by decide +kernel
theorem dX13_hedge_81 : decode cX13_hedge 81 = .ok (.goto 4, 3) := by decide +kernel
theorem dX13_hedge_84 : decode cX13_hedge 84 = .ok (.iconst 0, 1) := by decide +kernel
theorem dX13_hedge_85 : decode cX13_hedge 85 = .ok (.ior, 1) := by decide +kernel
theorem dX13_hedge_86 : decode cX13_hedge 86 = .ok (.istore 5, 2) := by decide +kernel
theorem dX13_hedge_88 : decode cX13_hedge 88 = .ok (.iinc 6 1, 3) := by decide +kernel
theorem dX13_hedge_91 : decode cX13_hedge 91 = .ok (.goto (-56), 3) := by decide +kernel
theorem dX13_hedge_94 : decode cX13_hedge 94 = .ok (.iconst (-1), 1) := by decide +kernel
theorem dX13_hedge_95 : decode cX13_hedge 95 = .ok (.istore 6, 2) := by decide +kernel
theorem dX13_hedge_97 : decode cX13_hedge 97 = .ok (.iconst 0, 1) := by decide +kernel
theorem dX13_hedge_98 : decode cX13_hedge 98 = .ok (.istore 7, 2) := by decide +kernel
theorem dX13_hedge_100 : decode cX13_hedge 100 = .ok (.iload 7, 2) := by decide +kernel
theorem dX13_hedge_102 : decode cX13_hedge 102 = .ok (.sipush 1024, 3) := by decide +kernel
theorem dX13_hedge_105 : decode cX13_hedge 105 = .ok (.if_icmp .ge 146, 3) := by decide +kernel
theorem dX13_hedge_108 : decode cX13_hedge 108 = .ok (.iload 7, 2) := by decide +kernel
theorem dX13_hedge_110 : decode cX13_hedge 110 = .ok (.iload 5, 2) := by decide +kernel
theorem dX13_hedge_112 : decode cX13_hedge 112 = .ok (.iconst (-1), 1) := by decide +kernel
theorem dX13_hedge_113 : decode cX13_hedge 113 = .ok (.ixor, 1) := by decide +kernel
theorem dX13_hedge_114 : decode cX13_hedge 114 = .ok (.iand, 1) := by decide +kernel
theorem dX13_hedge_115 : decode cX13_hedge 115 = .ok (.ifCond .ne 130, 3) := by decide +kernel
theorem dX13_hedge_118 : decode cX13_hedge 118 = .ok (.iload 6, 2) := by decide +kernel
theorem dX13_hedge_120 : decode cX13_hedge 120 = .ok (.iconst (-1), 1) := by decide +kernel
theorem dX13_hedge_121 : decode cX13_hedge 121 = .ok (.if_icmp .eq 19, 3) := by decide +kernel
theorem dX13_hedge_124 : decode cX13_hedge 124 = .ok (.iload 7, 2) := by decide +kernel
theorem dX13_hedge_126 : decode cX13_hedge 126 = .ok (.invokestatic 341, 3) := by decide +kernel
theorem dX13_hedge_129 : decode cX13_hedge 129 = .ok (.iload 6, 2) := by decide +kernel
theorem dX13_hedge_131 : decode cX13_hedge 131 = .ok (.invokestatic 341, 3) := by decide +kernel
theorem dX13_hedge_134 : decode cX13_hedge 134 = .ok (.if_icmp .lt 6, 3) := by decide +kernel
theorem dX13_hedge_137 : decode cX13_hedge 137 = .ok (.goto 108, 3) := by decide +kernel
theorem dX13_hedge_140 : decode cX13_hedge 140 = .ok (.aload_n 0, 1) := by decide +kernel
theorem dX13_hedge_141 : decode cX13_hedge 141 = .ok (.iload_n 1, 1) := by decide +kernel
theorem dX13_hedge_142 : decode cX13_hedge 142 = .ok (.invokevirtual 318, 3) := by decide +kernel
theorem dX13_hedge_145 : decode cX13_hedge 145 = .ok (.iconst 0, 1) := by decide +kernel
theorem dX13_hedge_146 : decode cX13_hedge 146 = .ok (.istore 8, 2) := by decide +kernel
theorem dX13_hedge_148 : decode cX13_hedge 148 = .ok (.iload 8, 2) := by decide +kernel
theorem dX13_hedge_150 : decode cX13_hedge 150 = .ok (.bipush 10, 2) := by decide +kernel
theorem dX13_hedge_152 : decode cX13_hedge 152 = .ok (.if_icmp .ge 80, 3) := by decide +kernel
theorem dX13_hedge_155 : decode cX13_hedge 155 = .ok (.iload_n 2, 1) := by decide +kernel
theorem dX13_hedge_156 : decode cX13_hedge 156 = .ok (.istore 9, 2) := by decide +kernel
theorem dX13_hedge_158 : decode cX13_hedge 158 = .ok (.iload 9, 2) := by decide +kernel
theorem dX13_hedge_160 : decode cX13_hedge 160 = .ok (.iload_n 3, 1) := by decide +kernel
theorem dX13_hedge_161 : decode cX13_hedge 161 = .ok (.if_icmp .gt 65, 3) := by decide +kernel
theorem dX13_hedge_164 : decode cX13_hedge 164 = .ok (.iload 7, 2) := by decide +kernel
theorem dX13_hedge_166 : decode cX13_hedge 166 = .ok (.iload 8, 2) := by decide +kernel
theorem dX13_hedge_168 : decode cX13_hedge 168 = .ok (.ishr, 1) := by decide +kernel
