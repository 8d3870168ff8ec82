theorem dX8_init_0 : decode cX8_init 0 = .ok (.aload_n 0, 1) := by decide +kernel
theorem dX8_init_1 : decode cX8_init 1 = .ok (.invokespecial 3, 3) := by decide +kernel
theorem dX8_init_4 : decode cX8_init 4 = .ok (.aload_n 0, 1) := by decide +kernel
theorem dX8_init_5 : decode cX8_init 5 = .ok (.bipush 12, 2) := by decide +kernel
theorem dX8_init_7 : decode cX8_init 7 = .ok (.newarray .int, 2) := by decide +kernel
theorem dX8_init_9 : decode cX8_init 9 = .ok (.putfield 9, 3) := by decide +kernel
theorem dX8_init_12 : decode cX8_init 12 = .ok (.aload_n 0, 1) := by decide +kernel
theorem dX8_init_13 : decode cX8_init 13 = .ok (.bipush 12, 2) := by decide +kernel
theorem dX8_init_15 : decode cX8_init 15 = .ok (.newarray .int, 2) := by decide +kernel
theorem dX8_init_17 : decode cX8_init 17 = .ok (.putfield 15, 3) := by decide +kernel
theorem dX8_init_20 : decode cX8_init 20 = .ok (.aload_n 0, 1) := by decide +kernel
theorem dX8_init_21 : decode cX8_init 21 = .ok (.bipush 12, 2) := by decide +kernel
theorem dX8_init_23 : decode cX8_init 23 = .ok (.newarray .int, 2) := by decide +kernel
theorem dX8_init_25 : decode cX8_init 25 = .ok (.putfield 18, 3) := by decide +kernel
theorem dX8_init_28 : decode cX8_init 28 = .ok (.return_, 1) := by decide +kernel
theorem dX8_copyFrom_0 : decode cX8_copyFrom 0 = .ok (.aload_n 0, 1) := by decide +kernel
theorem dX8_copyFrom_1 : decode cX8_copyFrom 1 = .ok (.aload_n 1, 1) := by decide +kernel
theorem dX8_copyFrom_2 : decode cX8_copyFrom 2 = .ok (.getfield 21, 3) := by decide +kernel
theorem dX8_copyFrom_5 : decode cX8_copyFrom 5 = .ok (.putfield 21, 3) := by decide +kernel
theorem dX8_copyFrom_8 : decode cX8_copyFrom 8 = .ok (.aload_n 1, 1) := by decide +kernel
theorem dX8_copyFrom_9 : decode cX8_copyFrom 9 = .ok (.getfield 9, 3) := by decide +kernel
theorem dX8_copyFrom_12 : decode cX8_copyFrom 12 = .ok (.iconst 0, 1) := by decide +kernel
theorem dX8_copyFrom_13 : decode cX8_copyFrom 13 = .ok (.aload_n 0, 1) := by decide +kernel
theorem dX8_copyFrom_14 : decode cX8_copyFrom 14 = .ok (.getfield 9, 3) := by decide +kernel
theorem dX8_copyFrom_17 : decode cX8_copyFrom 17 = .ok (.iconst 0, 1) := by decide +kernel
theorem dX8_copyFrom_18 : decode cX8_copyFrom 18 = .ok (.bipush 12, 2) := by decide +kernel
theorem dX8_copyFrom_20 : decode cX8_copyFrom 20 = .ok (.invokestatic 25, 3) := by decide +kernel
theorem dX8_copyFrom_23 : decode cX8_copyFrom 23 = .ok (.aload_n 1, 1) := by decide +kernel
theorem dX8_copyFrom_24 : decode cX8_copyFrom 24 = .ok (.getfield 15, 3) := by decide +kernel
theorem dX8_copyFrom_27 : decode cX8_copyFrom 27 = .ok (.iconst 0, 1) := by decide +kernel
theorem dX8_copyFrom_28 : decode cX8_copyFrom 28 = .ok (.aload_n 0, 1) := by decide +kernel
theorem dX8_copyFrom_29 : decode cX8_copyFrom 29 = .ok (.getfield 15, 3) := by decide +kernel
theorem dX8_copyFrom_32 : decode cX8_copyFrom 32 = .ok (.iconst 0, 1) := by decide +kernel
theorem dX8_copyFrom_33 : decode cX8_copyFrom 33 = .ok (.bipush 12, 2) := by decide +kernel
theorem dX8_copyFrom_35 : decode cX8_copyFrom 35 = .ok (.invokestatic 25, 3) := by decide +kernel
theorem dX8_copyFrom_38 : decode cX8_copyFrom 38 = .ok (.aload_n 1, 1) := by decide +kernel
theorem dX8_copyFrom_39 : decode cX8_copyFrom 39 = .ok (.getfield 18, 3) := by decide +kernel
theorem dX8_copyFrom_42 : decode cX8_copyFrom 42 = .ok (.iconst 0, 1) := by decide +kernel
theorem dX8_copyFrom_43 : decode cX8_copyFrom 43 = .ok (.aload_n 0, 1) := by decide +kernel
theorem dX8_copyFrom_44 : decode cX8_copyFrom 44 = .ok (.getfield 18, 3) := by decide +kernel
theorem dX8_copyFrom_47 : decode cX8_copyFrom 47 = .ok (.iconst 0, 1) := by decide +kernel
theorem dX8_copyFrom_48 : decode cX8_copyFrom 48 = .ok (.bipush 12, 2) := by decide +kernel
theorem dX8_copyFrom_50 : decode cX8_copyFrom 50 = .ok (.invokestatic 25, 3) := by decide +kernel
theorem dX8_copyFrom_53 : decode cX8_copyFrom 53 = .ok (.return_, 1) := by decide +kernel
theorem dX8_add_0 : decode cX8_add 0 = .ok (.aload_n 0, 1) := by decide +kernel
theorem dX8_add_1 : decode cX8_add 1 = .ok (.getfield 21, 3) := by decide +kernel
theorem dX8_add_4 : decode cX8_add 4 = .ok (.ifCond .lt 12, 3) := by decide +kernel
theorem dX8_add_7 : decode cX8_add 7 = .ok (.aload_n 0, 1) := by decide +kernel
theorem dX8_add_8 : decode cX8_add 8 = .ok (.getfield 21, 3) := by decide +kernel
theorem dX8_add_11 : decode cX8_add 11 = .ok (.bipush 12, 2) := by decide +kernel
theorem dX8_add_13 : decode cX8_add 13 = .ok (.if_icmp .lt 5, 3) := by decide +kernel
theorem dX8_add_16 : decode cX8_add 16 = .ok (.iconst 0, 1) := by decide +kernel
theorem dX8_add_17 : decode cX8_add 17 = .ok (.ireturn, 1) := by decide +kernel
theorem dX8_add_18 : decode cX8_add 18 = .ok (.aload_n 0, 1) := by decide +kernel
theorem dX8_add_19 : decode cX8_add 19 = .ok (.getfield 9, 3) := by decide +kernel
theorem dX8_add_22 : decode cX8_add 22 = .ok (.aload_n 0, 1) := by decide +kernel
theorem dX8_add_23 : decode cX8_add 23 = .ok (.getfield 21, 3) := by decide +kernel
theorem dX8_add_26 : decode cX8_add 26 = .ok (.iload_n 1, 1) := by decide +kernel
theorem dX8_add_27 : decode cX8_add 27 = .ok (.iastore, 1) := by decide +kernel
theorem dX8_add_28 : decode cX8_add 28 = .ok (.aload_n 0, 1) := by decide +kernel
theorem dX8_add_29 : decode cX8_add 29 = .ok (.getfield 15, 3) := by decide +kernel
theorem dX8_add_32 : decode cX8_add 32 = .ok (.aload_n 0, 1) := by decide +kernel
theorem dX8_add_33 : decode cX8_add 33 = .ok (.getfield 21, 3) := by decide +kernel
theorem dX8_add_36 : decode cX8_add 36 = .ok (.iload_n 2, 1) := by decide +kernel
theorem dX8_add_37 : decode cX8_add 37 = .ok (.iastore, 1) := by decide +kernel
theorem dX8_add_38 : decode cX8_add 38 = .ok (.aload_n 0, 1) := by decide +kernel
theorem dX8_add_39 : decode cX8_add 39 = .ok (.getfield 18, 3) := by decide +kernel
theorem dX8_add_42 : decode cX8_add 42 = .ok (.aload_n 0, 1) := by decide +kernel
theorem dX8_add_43 : decode cX8_add 43 = .ok (.getfield 21, 3) := by decide +kernel
theorem dX8_add_46 : decode cX8_add 46 = .ok (.iload_n 3, 1) := by decide +kernel
theorem dX8_add_47 : decode cX8_add 47 = .ok (.iastore, 1) := by decide +kernel
theorem dX8_add_48 : decode cX8_add 48 = .ok (.aload_n 0, 1) := by decide +kernel
theorem dX8_add_49 : decode cX8_add 49 = .ok (.dup, 1) := by decide +kernel
theorem dX8_add_50 : decode cX8_add 50 = .ok (.getfield 21, 3) := by decide +kernel
theorem dX8_add_53 : decode cX8_add 53 = .ok (.iconst 1, 1) := by decide +kernel
theorem dX8_add_54 : decode cX8_add 54 = .ok (.iadd, 1) := by decide +kernel
theorem dX8_add_55 : decode cX8_add 55 = .ok (.putfield 21, 3) := by decide +kernel
theorem dX8_add_58 : decode cX8_add 58 = .ok (.iconst 1, 1) := by decide +kernel
theorem dX8_add_59 : decode cX8_add 59 = .ok (.ireturn, 1) := by decide +kernel
set_option maxRecDepth 20000 in
theorem ggX8_fit_X8_worthTogether : GoodIn wsX8_fit wsX8_worthTogether := goodIn_r _ [8, 9, 10, 11, 12, 13, 14, 15, 16, 17, 18, 19, 20, 21, 22, 23, 24, 25, 26, 27, 28, 29, 34, 35, 36, 37, 38, 39] (by decide +kernel) (by decide +kernel)
set_option maxRecDepth 20000 in
theorem gX8_fit_X8_worthTogether : GoodIn wsX8_fit (va_wsS RX8 31 yX8_worthTogether wsX8_worthTogether) := goodIn_app (goodIn_of _ (by decide +kernel)) ggX8_fit_X8_worthTogether
theorem dX8_fit_0 : decode cX8_fit 0 = .ok (.iconst 0, 1) := by decide +kernel
theorem dX8_fit_1 : decode cX8_fit 1 = .ok (.istore_n 3, 1) := by decide +kernel
theorem dX8_fit_2 : decode cX8_fit 2 = .ok (.iload_n 3, 1) := by decide +kernel
theorem dX8_fit_3 : decode cX8_fit 3 = .ok (.bipush 12, 2) := by decide +kernel
theorem dX8_fit_5 : decode cX8_fit 5 = .ok (.if_icmp .ge 48, 3) := by decide +kernel
theorem dX8_fit_8 : decode cX8_fit 8 = .ok (.iload_n 3, 1) := by decide +kernel
theorem dX8_fit_9 : decode cX8_fit 9 = .ok (.aload_n 0, 1) := by decide +kernel
theorem dX8_fit_10 : decode cX8_fit 10 = .ok (.getfield 21, 3) := by decide +kernel
theorem dX8_fit_13 : decode cX8_fit 13 = .ok (.if_icmp .ge 40, 3) := by decide +kernel
theorem dX8_fit_16 : decode cX8_fit 16 = .ok (.aload_n 1, 1) := by decide +kernel
theorem dX8_fit_17 : decode cX8_fit 17 = .ok (.aload_n 0, 1) := by decide +kernel
theorem dX8_fit_18 : decode cX8_fit 18 = .ok (.getfield 9, 3) := by decide +kernel
theorem dX8_fit_21 : decode cX8_fit 21 = .ok (.iload_n 3, 1) := by decide +kernel
theorem dX8_fit_22 : decode cX8_fit 22 = .ok (.iaload, 1) := by decide +kernel
theorem dX8_fit_23 : decode cX8_fit 23 = .ok (.iload_n 2, 1) := by decide +kernel
theorem dX8_fit_24 : decode cX8_fit 24 = .ok (.aload_n 0, 1) := by decide +kernel
theorem dX8_fit_25 : decode cX8_fit 25 = .ok (.getfield 18, 3) := by decide +kernel
theorem dX8_fit_28 : decode cX8_fit 28 = .ok (.iload_n 3, 1) := by decide +kernel
theorem dX8_fit_29 : decode cX8_fit 29 = .ok (.iaload, 1) := by decide +kernel
theorem dX8_fit_30 : decode cX8_fit 30 = .ok (.iadd, 1) := by decide +kernel
theorem dX8_fit_31 : decode cX8_fit 31 = .ok (.invokestatic 31, 3) := by decide +kernel
theorem dX8_fit_34 : decode cX8_fit 34 = .ok (.aload_n 0, 1) := by decide +kernel
theorem dX8_fit_35 : decode cX8_fit 35 = .ok (.getfield 15, 3) := by decide +kernel
theorem dX8_fit_38 : decode cX8_fit 38 = .ok (.iload_n 3, 1) := by decide +kernel
theorem dX8_fit_39 : decode cX8_fit 39 = .ok (.iaload, 1) := by decide +kernel
theorem dX8_fit_40 : decode cX8_fit 40 = .ok (.i2l, 1) := by decide +kernel
theorem dX8_fit_41 : decode cX8_fit 41 = .ok (.lcmp, 1) := by decide +kernel
theorem dX8_fit_42 : decode cX8_fit 42 = .ok (.ifCond .eq 5, 3) := by decide +kernel
theorem dX8_fit_45 : decode cX8_fit 45 = .ok (.iconst 0, 1) := by decide +kernel
theorem dX8_fit_46 : decode cX8_fit 46 = .ok (.ireturn, 1) := by decide +kernel
theorem dX8_fit_47 : decode cX8_fit 47 = .ok (.iinc 3 1, 3) := by decide +kernel
theorem dX8_fit_50 : decode cX8_fit 50 = .ok (.goto (-48), 3) := by decide +kernel
theorem dX8_fit_53 : decode cX8_fit 53 = .ok (.iconst 1, 1) := by decide +kernel
theorem dX8_fit_54 : decode cX8_fit 54 = .ok (.ireturn, 1) := by decide +kernel
set_option maxRecDepth 20000 in
theorem ggX8_worthTogether_X4_worthIn : GoodIn wsX8_worthTogether wsX4_worthIn := goodIn_r _ [5, 6, 7, 8, 9, 4, 10, 11, 12, 13, 14, 15, 16, 17, 18, 19, 20, 21, 22, 23, 24, 25, 26, 27] (by decide +kernel) (by decide +kernel)
set_option maxRecDepth 20000 in
theorem gX8_worthTogether_X4_worthIn : GoodIn wsX8_worthTogether (wsV RX8 35 RX4 yX4_worthIn wsX4_worthIn) := goodIn_app (goodIn_of _ (by decide +kernel)) ggX8_worthTogether_X4_worthIn
theorem dX8_worthTogether_0 : decode cX8_worthTogether 0 = .ok (.lconst 0, 1) := by decide +kernel
theorem dX8_worthTogether_1 : decode cX8_worthTogether 1 = .ok (.lstore_n 3, 1) := by decide +kernel
theorem dX8_worthTogether_2 : decode cX8_worthTogether 2 = .ok (.iconst 0, 1) := by decide +kernel
theorem dX8_worthTogether_3 : decode cX8_worthTogether 3 = .ok (.istore 5, 2) := by decide +kernel
theorem dX8_worthTogether_5 : decode cX8_worthTogether 5 = .ok (.iload 5, 2) := by decide +kernel
theorem dX8_worthTogether_7 : decode cX8_worthTogether 7 = .ok (.bipush 10, 2) := by decide +kernel
theorem dX8_worthTogether_9 : decode cX8_worthTogether 9 = .ok (.if_icmp .ge 29, 3) := by decide +kernel
theorem dX8_worthTogether_12 : decode cX8_worthTogether 12 = .ok (.iload_n 1, 1) := by decide +kernel
theorem dX8_worthTogether_13 : decode cX8_worthTogether 13 = .ok (.iload 5, 2) := by decide +kernel
theorem dX8_worthTogether_15 : decode cX8_worthTogether 15 = .ok (.ishr, 1) := by decide +kernel
theorem dX8_worthTogether_16 : decode cX8_worthTogether 16 = .ok (.iconst 1, 1) := by decide +kernel
theorem dX8_worthTogether_17 : decode cX8_worthTogether 17 = .ok (.iand, 1) := by decide +kernel
theorem dX8_worthTogether_18 : decode cX8_worthTogether 18 = .ok (.ifCond .eq 14, 3) := by decide +kernel
theorem dX8_worthTogether_21 : decode cX8_worthTogether 21 = .ok (.lload_n 3, 1) := by decide +kernel
theorem dX8_worthTogether_22 : decode cX8_worthTogether 22 = .ok (.aload_n 0, 1) := by decide +kernel
theorem dX8_worthTogether_23 : decode cX8_worthTogether 23 = .ok (.iload 5, 2) := by decide +kernel
theorem dX8_worthTogether_25 : decode cX8_worthTogether 25 = .ok (.iload_n 2, 1) := by decide +kernel
theorem dX8_worthTogether_26 : decode cX8_worthTogether 26 = .ok (.invokevirtual 35, 3) := by decide +kernel
theorem dX8_worthTogether_29 : decode cX8_worthTogether 29 = .ok (.i2l, 1) := by decide +kernel
theorem dX8_worthTogether_30 : decode cX8_worthTogether 30 = .ok (.ladd, 1) := by decide +kernel
theorem dX8_worthTogether_31 : decode cX8_worthTogether 31 = .ok (.lstore_n 3, 1) := by decide +kernel
theorem dX8_worthTogether_32 : decode cX8_worthTogether 32 = .ok (.iinc 5 1, 3) := by decide +kernel
theorem dX8_worthTogether_35 : decode cX8_worthTogether 35 = .ok (.goto (-30), 3) := by decide +kernel
theorem dX8_worthTogether_38 : decode cX8_worthTogether 38 = .ok (.lload_n 3, 1) := by decide +kernel
theorem dX8_worthTogether_39 : decode cX8_worthTogether 39 = .ok (.lreturn, 1) := by decide +kernel
