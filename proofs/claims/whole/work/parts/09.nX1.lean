theorem dX1_init_0 : decode cX1_init 0 = .ok (.aload_n 0, 1) := by decide +kernel
theorem dX1_init_1 : decode cX1_init 1 = .ok (.invokespecial 3, 3) := by decide +kernel
theorem dX1_init_4 : decode cX1_init 4 = .ok (.aload_n 0, 1) := by decide +kernel
theorem dX1_init_5 : decode cX1_init 5 = .ok (.bipush 6, 2) := by decide +kernel
theorem dX1_init_7 : decode cX1_init 7 = .ok (.newarray .int, 2) := by decide +kernel
theorem dX1_init_9 : decode cX1_init 9 = .ok (.putfield 11, 3) := by decide +kernel
theorem dX1_init_12 : decode cX1_init 12 = .ok (.return_, 1) := by decide +kernel
set_option maxRecDepth 20000 in
theorem ggX1_add_X1_read : GoodIn wsX1_add wsX1_read := goodIn_r _ [7, 8, 9, 10, 11, 12, 13, 14, 15, 16, 17, 18, 19, 20, 21, 22, 23, 24, 25, 26, 27, 28, 32, 33, 34, 35, 36, 37] (by decide +kernel) (by decide +kernel)
set_option maxRecDepth 20000 in
theorem gX1_add_X1_read : GoodIn wsX1_add (va_wsS RX1 22 yX1_read wsX1_read) := goodIn_app (goodIn_of _ (by decide +kernel)) ggX1_add_X1_read
theorem dX1_add_0 : decode cX1_add 0 = .ok (.iconst 0, 1) := by decide +kernel
theorem dX1_add_1 : decode cX1_add 1 = .ok (.istore 5, 2) := by decide +kernel
theorem dX1_add_3 : decode cX1_add 3 = .ok (.aload_n 0, 1) := by decide +kernel
theorem dX1_add_4 : decode cX1_add 4 = .ok (.iconst 0, 1) := by decide +kernel
theorem dX1_add_5 : decode cX1_add 5 = .ok (.putfield 15, 3) := by decide +kernel
theorem dX1_add_8 : decode cX1_add 8 = .ok (.aload_n 0, 1) := by decide +kernel
theorem dX1_add_9 : decode cX1_add 9 = .ok (.iconst 1, 1) := by decide +kernel
theorem dX1_add_10 : decode cX1_add 10 = .ok (.putfield 19, 3) := by decide +kernel
theorem dX1_add_13 : decode cX1_add 13 = .ok (.iconst 0, 1) := by decide +kernel
theorem dX1_add_14 : decode cX1_add 14 = .ok (.istore 6, 2) := by decide +kernel
theorem dX1_add_16 : decode cX1_add 16 = .ok (.iload 6, 2) := by decide +kernel
theorem dX1_add_18 : decode cX1_add 18 = .ok (.bipush 6, 2) := by decide +kernel
theorem dX1_add_20 : decode cX1_add 20 = .ok (.if_icmp .ge 91, 3) := by decide +kernel
theorem dX1_add_23 : decode cX1_add 23 = .ok (.aload_n 1, 1) := by decide +kernel
theorem dX1_add_24 : decode cX1_add 24 = .ok (.iload_n 2, 1) := by decide +kernel
theorem dX1_add_25 : decode cX1_add 25 = .ok (.iload 6, 2) := by decide +kernel
theorem dX1_add_27 : decode cX1_add 27 = .ok (.iload 4, 2) := by decide +kernel
theorem dX1_add_29 : decode cX1_add 29 = .ok (.invokestatic 22, 3) := by decide +kernel
theorem dX1_add_32 : decode cX1_add 32 = .ok (.aload_n 1, 1) := by decide +kernel
theorem dX1_add_33 : decode cX1_add 33 = .ok (.iload_n 3, 1) := by decide +kernel
theorem dX1_add_34 : decode cX1_add 34 = .ok (.iload 6, 2) := by decide +kernel
theorem dX1_add_36 : decode cX1_add 36 = .ok (.iload 4, 2) := by decide +kernel
theorem dX1_add_38 : decode cX1_add 38 = .ok (.invokestatic 22, 3) := by decide +kernel
theorem dX1_add_41 : decode cX1_add 41 = .ok (.iadd, 1) := by decide +kernel
theorem dX1_add_42 : decode cX1_add 42 = .ok (.iload 5, 2) := by decide +kernel
theorem dX1_add_44 : decode cX1_add 44 = .ok (.iadd, 1) := by decide +kernel
theorem dX1_add_45 : decode cX1_add 45 = .ok (.istore 7, 2) := by decide +kernel
theorem dX1_add_47 : decode cX1_add 47 = .ok (.iload 7, 2) := by decide +kernel
theorem dX1_add_49 : decode cX1_add 49 = .ok (.iload 4, 2) := by decide +kernel
theorem dX1_add_51 : decode cX1_add 51 = .ok (.if_icmp .lt 7, 3) := by decide +kernel
theorem dX1_add_54 : decode cX1_add 54 = .ok (.iconst 1, 1) := by decide +kernel
theorem dX1_add_55 : decode cX1_add 55 = .ok (.goto 4, 3) := by decide +kernel
theorem dX1_add_58 : decode cX1_add 58 = .ok (.iconst 0, 1) := by decide +kernel
theorem dX1_add_59 : decode cX1_add 59 = .ok (.istore 5, 2) := by decide +kernel
theorem dX1_add_61 : decode cX1_add 61 = .ok (.aload_n 0, 1) := by decide +kernel
theorem dX1_add_62 : decode cX1_add 62 = .ok (.dup, 1) := by decide +kernel
theorem dX1_add_63 : decode cX1_add 63 = .ok (.getfield 15, 3) := by decide +kernel
theorem dX1_add_66 : decode cX1_add 66 = .ok (.iload 5, 2) := by decide +kernel
theorem dX1_add_68 : decode cX1_add 68 = .ok (.iadd, 1) := by decide +kernel
theorem dX1_add_69 : decode cX1_add 69 = .ok (.putfield 15, 3) := by decide +kernel
theorem dX1_add_72 : decode cX1_add 72 = .ok (.aload_n 0, 1) := by decide +kernel
theorem dX1_add_73 : decode cX1_add 73 = .ok (.getfield 11, 3) := by decide +kernel
theorem dX1_add_76 : decode cX1_add 76 = .ok (.iload 6, 2) := by decide +kernel
theorem dX1_add_78 : decode cX1_add 78 = .ok (.iload 7, 2) := by decide +kernel
theorem dX1_add_80 : decode cX1_add 80 = .ok (.iload 5, 2) := by decide +kernel
theorem dX1_add_82 : decode cX1_add 82 = .ok (.iload 4, 2) := by decide +kernel
theorem dX1_add_84 : decode cX1_add 84 = .ok (.imul, 1) := by decide +kernel
theorem dX1_add_85 : decode cX1_add 85 = .ok (.isub, 1) := by decide +kernel
theorem dX1_add_86 : decode cX1_add 86 = .ok (.iastore, 1) := by decide +kernel
theorem dX1_add_87 : decode cX1_add 87 = .ok (.aload_n 0, 1) := by decide +kernel
theorem dX1_add_88 : decode cX1_add 88 = .ok (.getfield 11, 3) := by decide +kernel
theorem dX1_add_91 : decode cX1_add 91 = .ok (.iload 6, 2) := by decide +kernel
theorem dX1_add_93 : decode cX1_add 93 = .ok (.iaload, 1) := by decide +kernel
theorem dX1_add_94 : decode cX1_add 94 = .ok (.ifCond .eq 11, 3) := by decide +kernel
theorem dX1_add_97 : decode cX1_add 97 = .ok (.aload_n 0, 1) := by decide +kernel
theorem dX1_add_98 : decode cX1_add 98 = .ok (.iload 6, 2) := by decide +kernel
theorem dX1_add_100 : decode cX1_add 100 = .ok (.iconst 1, 1) := by decide +kernel
theorem dX1_add_101 : decode cX1_add 101 = .ok (.iadd, 1) := by decide +kernel
theorem dX1_add_102 : decode cX1_add 102 = .ok (.putfield 19, 3) := by decide +kernel
theorem dX1_add_105 : decode cX1_add 105 = .ok (.iinc 6 1, 3) := by decide +kernel
theorem dX1_add_108 : decode cX1_add 108 = .ok (.goto (-92), 3) := by decide +kernel
theorem dX1_add_111 : decode cX1_add 111 = .ok (.return_, 1) := by decide +kernel
set_option maxRecDepth 20000 in
theorem ggX1_read_X4_lengthOf : GoodIn wsX1_read wsX4_lengthOf := goodIn_r _ [9, 10, 11, 12, 13, 8, 14, 15, 22, 23, 24, 25, 26, 27] (by decide +kernel) (by decide +kernel)
set_option maxRecDepth 20000 in
theorem gX1_read_X4_lengthOf : GoodIn wsX1_read (wsV RX1 26 RX4 yX4_lengthOf wsX4_lengthOf) := goodIn_app (goodIn_of _ (by decide +kernel)) ggX1_read_X4_lengthOf
set_option maxRecDepth 20000 in
theorem ggX1_read_X4_figureAt : GoodIn wsX1_read wsX4_figureAt := goodIn_r _ [19, 20, 21, 6, 7, 8, 9, 10, 11, 12, 13, 14, 15, 22, 23, 24, 25, 26, 27] (by decide +kernel) (by decide +kernel)
set_option maxRecDepth 20000 in
theorem gX1_read_X4_figureAt : GoodIn wsX1_read (wsV RX1 32 RX4 yX4_figureAt wsX4_figureAt) := goodIn_app (goodIn_of _ (by decide +kernel)) ggX1_read_X4_figureAt
theorem dX1_read_0 : decode cX1_read 0 = .ok (.aload_n 0, 1) := by decide +kernel
theorem dX1_read_1 : decode cX1_read 1 = .ok (.iload_n 1, 1) := by decide +kernel
theorem dX1_read_2 : decode cX1_read 2 = .ok (.aload_n 0, 1) := by decide +kernel
theorem dX1_read_3 : decode cX1_read 3 = .ok (.iload_n 1, 1) := by decide +kernel
theorem dX1_read_4 : decode cX1_read 4 = .ok (.invokevirtual 26, 3) := by decide +kernel
theorem dX1_read_7 : decode cX1_read 7 = .ok (.iconst 1, 1) := by decide +kernel
theorem dX1_read_8 : decode cX1_read 8 = .ok (.isub, 1) := by decide +kernel
theorem dX1_read_9 : decode cX1_read 9 = .ok (.iload_n 2, 1) := by decide +kernel
theorem dX1_read_10 : decode cX1_read 10 = .ok (.isub, 1) := by decide +kernel
theorem dX1_read_11 : decode cX1_read 11 = .ok (.invokevirtual 32, 3) := by decide +kernel
theorem dX1_read_14 : decode cX1_read 14 = .ok (.iload_n 3, 1) := by decide +kernel
theorem dX1_read_15 : decode cX1_read 15 = .ok (.iconst 1, 1) := by decide +kernel
theorem dX1_read_16 : decode cX1_read 16 = .ok (.isub, 1) := by decide +kernel
theorem dX1_read_17 : decode cX1_read 17 = .ok (.invokestatic 36, 3) := by decide +kernel
theorem dX1_read_20 : decode cX1_read 20 = .ok (.ireturn, 1) := by decide +kernel
theorem dX1_figureAt_0 : decode cX1_figureAt 0 = .ok (.aload_n 0, 1) := by decide +kernel
theorem dX1_figureAt_1 : decode cX1_figureAt 1 = .ok (.getfield 19, 3) := by decide +kernel
theorem dX1_figureAt_4 : decode cX1_figureAt 4 = .ok (.iconst 1, 1) := by decide +kernel
theorem dX1_figureAt_5 : decode cX1_figureAt 5 = .ok (.isub, 1) := by decide +kernel
theorem dX1_figureAt_6 : decode cX1_figureAt 6 = .ok (.iload_n 1, 1) := by decide +kernel
theorem dX1_figureAt_7 : decode cX1_figureAt 7 = .ok (.isub, 1) := by decide +kernel
theorem dX1_figureAt_8 : decode cX1_figureAt 8 = .ok (.istore_n 2, 1) := by decide +kernel
theorem dX1_figureAt_9 : decode cX1_figureAt 9 = .ok (.iload_n 2, 1) := by decide +kernel
theorem dX1_figureAt_10 : decode cX1_figureAt 10 = .ok (.ifCond .lt 18, 3) := by decide +kernel
theorem dX1_figureAt_13 : decode cX1_figureAt 13 = .ok (.iload_n 2, 1) := by decide +kernel
theorem dX1_figureAt_14 : decode cX1_figureAt 14 = .ok (.bipush 6, 2) := by decide +kernel
theorem dX1_figureAt_16 : decode cX1_figureAt 16 = .ok (.if_icmp .ge 12, 3) := by decide +kernel
theorem dX1_figureAt_19 : decode cX1_figureAt 19 = .ok (.aload_n 0, 1) := by decide +kernel
theorem dX1_figureAt_20 : decode cX1_figureAt 20 = .ok (.getfield 11, 3) := by decide +kernel
theorem dX1_figureAt_23 : decode cX1_figureAt 23 = .ok (.iload_n 2, 1) := by decide +kernel
theorem dX1_figureAt_24 : decode cX1_figureAt 24 = .ok (.iaload, 1) := by decide +kernel
theorem dX1_figureAt_25 : decode cX1_figureAt 25 = .ok (.goto 4, 3) := by decide +kernel
theorem dX1_figureAt_28 : decode cX1_figureAt 28 = .ok (.iconst 0, 1) := by decide +kernel
theorem dX1_figureAt_29 : decode cX1_figureAt 29 = .ok (.ireturn, 1) := by decide +kernel
