theorem dX4_init_0 : decode cX4_init 0 = .ok (.aload_n 0, 1) := by decide +kernel
theorem dX4_init_1 : decode cX4_init 1 = .ok (.invokespecial 3, 3) := by decide +kernel
theorem dX4_init_4 : decode cX4_init 4 = .ok (.aload_n 0, 1) := by decide +kernel
theorem dX4_init_5 : decode cX4_init 5 = .ok (.bipush 10, 2) := by decide +kernel
theorem dX4_init_7 : decode cX4_init 7 = .ok (.newarray .int, 2) := by decide +kernel
theorem dX4_init_9 : decode cX4_init 9 = .ok (.putfield 9, 3) := by decide +kernel
theorem dX4_init_12 : decode cX4_init 12 = .ok (.aload_n 0, 1) := by decide +kernel
theorem dX4_init_13 : decode cX4_init 13 = .ok (.bipush 10, 2) := by decide +kernel
theorem dX4_init_15 : decode cX4_init 15 = .ok (.newarray .int, 2) := by decide +kernel
theorem dX4_init_17 : decode cX4_init 17 = .ok (.putfield 15, 3) := by decide +kernel
theorem dX4_init_20 : decode cX4_init 20 = .ok (.aload_n 0, 1) := by decide +kernel
theorem dX4_init_21 : decode cX4_init 21 = .ok (.bipush 10, 2) := by decide +kernel
theorem dX4_init_23 : decode cX4_init 23 = .ok (.newarray .int, 2) := by decide +kernel
theorem dX4_init_25 : decode cX4_init 25 = .ok (.putfield 18, 3) := by decide +kernel
theorem dX4_init_28 : decode cX4_init 28 = .ok (.aload_n 0, 1) := by decide +kernel
theorem dX4_init_29 : decode cX4_init 29 = .ok (.bipush 50, 2) := by decide +kernel
theorem dX4_init_31 : decode cX4_init 31 = .ok (.newarray .int, 2) := by decide +kernel
theorem dX4_init_33 : decode cX4_init 33 = .ok (.putfield 21, 3) := by decide +kernel
theorem dX4_init_36 : decode cX4_init 36 = .ok (.return_, 1) := by decide +kernel
theorem dX4_empty_0 : decode cX4_empty 0 = .ok (.aload_n 0, 1) := by decide +kernel
theorem dX4_empty_1 : decode cX4_empty 1 = .ok (.iconst 0, 1) := by decide +kernel
theorem dX4_empty_2 : decode cX4_empty 2 = .ok (.putfield 24, 3) := by decide +kernel
theorem dX4_empty_5 : decode cX4_empty 5 = .ok (.aload_n 0, 1) := by decide +kernel
theorem dX4_empty_6 : decode cX4_empty 6 = .ok (.iconst 0, 1) := by decide +kernel
theorem dX4_empty_7 : decode cX4_empty 7 = .ok (.putfield 28, 3) := by decide +kernel
theorem dX4_empty_10 : decode cX4_empty 10 = .ok (.return_, 1) := by decide +kernel
theorem dX4_copyFrom_0 : decode cX4_copyFrom 0 = .ok (.aload_n 0, 1) := by decide +kernel
theorem dX4_copyFrom_1 : decode cX4_copyFrom 1 = .ok (.aload_n 1, 1) := by decide +kernel
theorem dX4_copyFrom_2 : decode cX4_copyFrom 2 = .ok (.getfield 24, 3) := by decide +kernel
theorem dX4_copyFrom_5 : decode cX4_copyFrom 5 = .ok (.putfield 24, 3) := by decide +kernel
theorem dX4_copyFrom_8 : decode cX4_copyFrom 8 = .ok (.aload_n 0, 1) := by decide +kernel
theorem dX4_copyFrom_9 : decode cX4_copyFrom 9 = .ok (.aload_n 1, 1) := by decide +kernel
theorem dX4_copyFrom_10 : decode cX4_copyFrom 10 = .ok (.getfield 28, 3) := by decide +kernel
theorem dX4_copyFrom_13 : decode cX4_copyFrom 13 = .ok (.putfield 28, 3) := by decide +kernel
theorem dX4_copyFrom_16 : decode cX4_copyFrom 16 = .ok (.aload_n 1, 1) := by decide +kernel
theorem dX4_copyFrom_17 : decode cX4_copyFrom 17 = .ok (.getfield 9, 3) := by decide +kernel
theorem dX4_copyFrom_20 : decode cX4_copyFrom 20 = .ok (.iconst 0, 1) := by decide +kernel
theorem dX4_copyFrom_21 : decode cX4_copyFrom 21 = .ok (.aload_n 0, 1) := by decide +kernel
theorem dX4_copyFrom_22 : decode cX4_copyFrom 22 = .ok (.getfield 9, 3) := by decide +kernel
theorem dX4_copyFrom_25 : decode cX4_copyFrom 25 = .ok (.iconst 0, 1) := by decide +kernel
theorem dX4_copyFrom_26 : decode cX4_copyFrom 26 = .ok (.bipush 10, 2) := by decide +kernel
theorem dX4_copyFrom_28 : decode cX4_copyFrom 28 = .ok (.invokestatic 31, 3) := by decide +kernel
theorem dX4_copyFrom_31 : decode cX4_copyFrom 31 = .ok (.aload_n 1, 1) := by decide +kernel
theorem dX4_copyFrom_32 : decode cX4_copyFrom 32 = .ok (.getfield 15, 3) := by decide +kernel
theorem dX4_copyFrom_35 : decode cX4_copyFrom 35 = .ok (.iconst 0, 1) := by decide +kernel
theorem dX4_copyFrom_36 : decode cX4_copyFrom 36 = .ok (.aload_n 0, 1) := by decide +kernel
theorem dX4_copyFrom_37 : decode cX4_copyFrom 37 = .ok (.getfield 15, 3) := by decide +kernel
theorem dX4_copyFrom_40 : decode cX4_copyFrom 40 = .ok (.iconst 0, 1) := by decide +kernel
theorem dX4_copyFrom_41 : decode cX4_copyFrom 41 = .ok (.bipush 10, 2) := by decide +kernel
theorem dX4_copyFrom_43 : decode cX4_copyFrom 43 = .ok (.invokestatic 31, 3) := by decide +kernel
theorem dX4_copyFrom_46 : decode cX4_copyFrom 46 = .ok (.aload_n 1, 1) := by decide +kernel
theorem dX4_copyFrom_47 : decode cX4_copyFrom 47 = .ok (.getfield 18, 3) := by decide +kernel
theorem dX4_copyFrom_50 : decode cX4_copyFrom 50 = .ok (.iconst 0, 1) := by decide +kernel
theorem dX4_copyFrom_51 : decode cX4_copyFrom 51 = .ok (.aload_n 0, 1) := by decide +kernel
theorem dX4_copyFrom_52 : decode cX4_copyFrom 52 = .ok (.getfield 18, 3) := by decide +kernel
theorem dX4_copyFrom_55 : decode cX4_copyFrom 55 = .ok (.iconst 0, 1) := by decide +kernel
theorem dX4_copyFrom_56 : decode cX4_copyFrom 56 = .ok (.bipush 10, 2) := by decide +kernel
theorem dX4_copyFrom_58 : decode cX4_copyFrom 58 = .ok (.invokestatic 31, 3) := by decide +kernel
theorem dX4_copyFrom_61 : decode cX4_copyFrom 61 = .ok (.aload_n 1, 1) := by decide +kernel
theorem dX4_copyFrom_62 : decode cX4_copyFrom 62 = .ok (.getfield 21, 3) := by decide +kernel
theorem dX4_copyFrom_65 : decode cX4_copyFrom 65 = .ok (.iconst 0, 1) := by decide +kernel
theorem dX4_copyFrom_66 : decode cX4_copyFrom 66 = .ok (.aload_n 0, 1) := by decide +kernel
theorem dX4_copyFrom_67 : decode cX4_copyFrom 67 = .ok (.getfield 21, 3) := by decide +kernel
theorem dX4_copyFrom_70 : decode cX4_copyFrom 70 = .ok (.iconst 0, 1) := by decide +kernel
theorem dX4_copyFrom_71 : decode cX4_copyFrom 71 = .ok (.bipush 50, 2) := by decide +kernel
theorem dX4_copyFrom_73 : decode cX4_copyFrom 73 = .ok (.invokestatic 31, 3) := by decide +kernel
theorem dX4_copyFrom_76 : decode cX4_copyFrom 76 = .ok (.return_, 1) := by decide +kernel
theorem dX4_has_0 : decode cX4_has 0 = .ok (.iload_n 1, 1) := by decide +kernel
theorem dX4_has_1 : decode cX4_has 1 = .ok (.ifCond .lt 24, 3) := by decide +kernel
theorem dX4_has_4 : decode cX4_has 4 = .ok (.iload_n 1, 1) := by decide +kernel
theorem dX4_has_5 : decode cX4_has 5 = .ok (.bipush 10, 2) := by decide +kernel
theorem dX4_has_7 : decode cX4_has 7 = .ok (.if_icmp .ge 18, 3) := by decide +kernel
theorem dX4_has_10 : decode cX4_has 10 = .ok (.aload_n 0, 1) := by decide +kernel
theorem dX4_has_11 : decode cX4_has 11 = .ok (.getfield 28, 3) := by decide +kernel
theorem dX4_has_14 : decode cX4_has 14 = .ok (.iload_n 1, 1) := by decide +kernel
theorem dX4_has_15 : decode cX4_has 15 = .ok (.ishr, 1) := by decide +kernel
theorem dX4_has_16 : decode cX4_has 16 = .ok (.iconst 1, 1) := by decide +kernel
theorem dX4_has_17 : decode cX4_has 17 = .ok (.iand, 1) := by decide +kernel
theorem dX4_has_18 : decode cX4_has 18 = .ok (.ifCond .eq 7, 3) := by decide +kernel
theorem dX4_has_21 : decode cX4_has 21 = .ok (.iconst 1, 1) := by decide +kernel
theorem dX4_has_22 : decode cX4_has 22 = .ok (.goto 4, 3) := by decide +kernel
theorem dX4_has_25 : decode cX4_has 25 = .ok (.iconst 0, 1) := by decide +kernel
theorem dX4_has_26 : decode cX4_has 26 = .ok (.ireturn, 1) := by decide +kernel
set_option maxRecDepth 20000 in
theorem ggX4_debtorOf_X4_has : GoodIn wsX4_debtorOf wsX4_has := goodIn_r _ [6, 7, 8, 9, 10, 11, 12, 13] (by decide +kernel) (by decide +kernel)
set_option maxRecDepth 20000 in
theorem gX4_debtorOf_X4_has : GoodIn wsX4_debtorOf (wsV RX4 37 RX4 yX4_has wsX4_has) := goodIn_app (goodIn_of _ (by decide +kernel)) ggX4_debtorOf_X4_has
theorem dX4_debtorOf_0 : decode cX4_debtorOf 0 = .ok (.aload_n 0, 1) := by decide +kernel
theorem dX4_debtorOf_1 : decode cX4_debtorOf 1 = .ok (.iload_n 1, 1) := by decide +kernel
theorem dX4_debtorOf_2 : decode cX4_debtorOf 2 = .ok (.invokevirtual 37, 3) := by decide +kernel
theorem dX4_debtorOf_5 : decode cX4_debtorOf 5 = .ok (.ifCond .eq 12, 3) := by decide +kernel
theorem dX4_debtorOf_8 : decode cX4_debtorOf 8 = .ok (.aload_n 0, 1) := by decide +kernel
theorem dX4_debtorOf_9 : decode cX4_debtorOf 9 = .ok (.getfield 9, 3) := by decide +kernel
theorem dX4_debtorOf_12 : decode cX4_debtorOf 12 = .ok (.iload_n 1, 1) := by decide +kernel
theorem dX4_debtorOf_13 : decode cX4_debtorOf 13 = .ok (.iaload, 1) := by decide +kernel
theorem dX4_debtorOf_14 : decode cX4_debtorOf 14 = .ok (.goto 4, 3) := by decide +kernel
theorem dX4_debtorOf_17 : decode cX4_debtorOf 17 = .ok (.iconst (-1), 1) := by decide +kernel
theorem dX4_debtorOf_18 : decode cX4_debtorOf 18 = .ok (.ireturn, 1) := by decide +kernel
set_option maxRecDepth 20000 in
theorem ggX4_lenderOf_X4_has : GoodIn wsX4_lenderOf wsX4_has := goodIn_r _ [6, 7, 8, 9, 10, 11, 12, 13] (by decide +kernel) (by decide +kernel)
set_option maxRecDepth 20000 in
theorem gX4_lenderOf_X4_has : GoodIn wsX4_lenderOf (wsV RX4 37 RX4 yX4_has wsX4_has) := goodIn_app (goodIn_of _ (by decide +kernel)) ggX4_lenderOf_X4_has
theorem dX4_lenderOf_0 : decode cX4_lenderOf 0 = .ok (.aload_n 0, 1) := by decide +kernel
theorem dX4_lenderOf_1 : decode cX4_lenderOf 1 = .ok (.iload_n 1, 1) := by decide +kernel
theorem dX4_lenderOf_2 : decode cX4_lenderOf 2 = .ok (.invokevirtual 37, 3) := by decide +kernel
theorem dX4_lenderOf_5 : decode cX4_lenderOf 5 = .ok (.ifCond .eq 12, 3) := by decide +kernel
theorem dX4_lenderOf_8 : decode cX4_lenderOf 8 = .ok (.aload_n 0, 1) := by decide +kernel
theorem dX4_lenderOf_9 : decode cX4_lenderOf 9 = .ok (.getfield 15, 3) := by decide +kernel
theorem dX4_lenderOf_12 : decode cX4_lenderOf 12 = .ok (.iload_n 1, 1) := by decide +kernel
theorem dX4_lenderOf_13 : decode cX4_lenderOf 13 = .ok (.iaload, 1) := by decide +kernel
theorem dX4_lenderOf_14 : decode cX4_lenderOf 14 = .ok (.goto 4, 3) := by decide +kernel
theorem dX4_lenderOf_17 : decode cX4_lenderOf 17 = .ok (.iconst (-1), 1) := by decide +kernel
theorem dX4_lenderOf_18 : decode cX4_lenderOf 18 = .ok (.ireturn, 1) := by decide +kernel
set_option maxRecDepth 20000 in
theorem ggX4_lengthOf_X4_has : GoodIn wsX4_lengthOf wsX4_has := goodIn_r _ [6, 7, 8, 9, 10, 11, 12, 13] (by decide +kernel) (by decide +kernel)
set_option maxRecDepth 20000 in
theorem gX4_lengthOf_X4_has : GoodIn wsX4_lengthOf (wsV RX4 37 RX4 yX4_has wsX4_has) := goodIn_app (goodIn_of _ (by decide +kernel)) ggX4_lengthOf_X4_has
theorem dX4_lengthOf_0 : decode cX4_lengthOf 0 = .ok (.aload_n 0, 1) := by decide +kernel
theorem dX4_lengthOf_1 : decode cX4_lengthOf 1 = .ok (.iload_n 1, 1) := by decide +kernel
theorem dX4_lengthOf_2 : decode cX4_lengthOf 2 = .ok (.invokevirtual 37, 3) := by decide +kernel
theorem dX4_lengthOf_5 : decode cX4_lengthOf 5 = .ok (.ifCond .eq 12, 3) := by decide +kernel
theorem dX4_lengthOf_8 : decode cX4_lengthOf 8 = .ok (.aload_n 0, 1) := by decide +kernel
theorem dX4_lengthOf_9 : decode cX4_lengthOf 9 = .ok (.getfield 18, 3) := by decide +kernel
theorem dX4_lengthOf_12 : decode cX4_lengthOf 12 = .ok (.iload_n 1, 1) := by decide +kernel
theorem dX4_lengthOf_13 : decode cX4_lengthOf 13 = .ok (.iaload, 1) := by decide +kernel
theorem dX4_lengthOf_14 : decode cX4_lengthOf 14 = .ok (.goto 4, 3) := by decide +kernel
theorem dX4_lengthOf_17 : decode cX4_lengthOf 17 = .ok (.iconst 0, 1) := by decide +kernel
theorem dX4_lengthOf_18 : decode cX4_lengthOf 18 = .ok (.ireturn, 1) := by decide +kernel
set_option maxRecDepth 20000 in
theorem ggX4_figureAt_X4_lengthOf : GoodIn wsX4_figureAt wsX4_lengthOf := goodIn_r _ [6, 7, 8, 9, 10, 5, 11, 12, 13, 14, 15, 16, 17, 18] (by decide +kernel) (by decide +kernel)
set_option maxRecDepth 20000 in
theorem gX4_figureAt_X4_lengthOf : GoodIn wsX4_figureAt (wsV RX4 41 RX4 yX4_lengthOf wsX4_lengthOf) := goodIn_app (goodIn_of _ (by decide +kernel)) ggX4_figureAt_X4_lengthOf
theorem dX4_figureAt_0 : decode cX4_figureAt 0 = .ok (.iload_n 2, 1) := by decide +kernel
theorem dX4_figureAt_1 : decode cX4_figureAt 1 = .ok (.ifCond .lt 21, 3) := by decide +kernel
theorem dX4_figureAt_4 : decode cX4_figureAt 4 = .ok (.iload_n 2, 1) := by decide +kernel
theorem dX4_figureAt_5 : decode cX4_figureAt 5 = .ok (.iconst 5, 1) := by decide +kernel
theorem dX4_figureAt_6 : decode cX4_figureAt 6 = .ok (.if_icmp .ge 16, 3) := by decide +kernel
theorem dX4_figureAt_9 : decode cX4_figureAt 9 = .ok (.iload_n 2, 1) := by decide +kernel
theorem dX4_figureAt_10 : decode cX4_figureAt 10 = .ok (.aload_n 0, 1) := by decide +kernel
theorem dX4_figureAt_11 : decode cX4_figureAt 11 = .ok (.iload_n 1, 1) := by decide +kernel
theorem dX4_figureAt_12 : decode cX4_figureAt 12 = .ok (.invokevirtual 41, 3) := by decide +kernel
theorem dX4_figureAt_15 : decode cX4_figureAt 15 = .ok (.if_icmp .ge 7, 3) := by decide +kernel
theorem dX4_figureAt_18 : decode cX4_figureAt 18 = .ok (.iconst 1, 1) := by decide +kernel
theorem dX4_figureAt_19 : decode cX4_figureAt 19 = .ok (.goto 4, 3) := by decide +kernel
theorem dX4_figureAt_22 : decode cX4_figureAt 22 = .ok (.iconst 0, 1) := by decide +kernel
theorem dX4_figureAt_23 : decode cX4_figureAt 23 = .ok (.istore_n 3, 1) := by decide +kernel
theorem dX4_figureAt_24 : decode cX4_figureAt 24 = .ok (.iload_n 3, 1) := by decide +kernel
theorem dX4_figureAt_25 : decode cX4_figureAt 25 = .ok (.ifCond .eq 16, 3) := by decide +kernel
theorem dX4_figureAt_28 : decode cX4_figureAt 28 = .ok (.aload_n 0, 1) := by decide +kernel
theorem dX4_figureAt_29 : decode cX4_figureAt 29 = .ok (.getfield 21, 3) := by decide +kernel
theorem dX4_figureAt_32 : decode cX4_figureAt 32 = .ok (.iload_n 1, 1) := by decide +kernel
theorem dX4_figureAt_33 : decode cX4_figureAt 33 = .ok (.iconst 5, 1) := by decide +kernel
theorem dX4_figureAt_34 : decode cX4_figureAt 34 = .ok (.imul, 1) := by decide +kernel
theorem dX4_figureAt_35 : decode cX4_figureAt 35 = .ok (.iload_n 2, 1) := by decide +kernel
theorem dX4_figureAt_36 : decode cX4_figureAt 36 = .ok (.iadd, 1) := by decide +kernel
theorem dX4_figureAt_37 : decode cX4_figureAt 37 = .ok (.iaload, 1) := by decide +kernel
theorem dX4_figureAt_38 : decode cX4_figureAt 38 = .ok (.goto 4, 3) := by decide +kernel
theorem dX4_figureAt_41 : decode cX4_figureAt 41 = .ok (.iconst 0, 1) := by decide +kernel
theorem dX4_figureAt_42 : decode cX4_figureAt 42 = .ok (.ireturn, 1) := by decide +kernel
set_option maxRecDepth 20000 in
theorem ggX4_chalk_X4_has : GoodIn wsX4_chalk wsX4_has := goodIn_r _ [11, 1, 28, 29, 30, 31, 32, 33] (by decide +kernel) (by decide +kernel)
set_option maxRecDepth 20000 in
theorem gX4_chalk_X4_has : GoodIn wsX4_chalk (wsV RX4 37 RX4 yX4_has wsX4_has) := goodIn_app (goodIn_of _ (by decide +kernel)) ggX4_chalk_X4_has
set_option maxRecDepth 20000 in
theorem ggX4_chalk_X7_rowFigure : GoodIn wsX4_chalk wsX7_rowFigure := goodIn_r _ [16, 17, 18, 19, 20, 21, 15, 22, 23, 24, 25, 26, 27, 34, 35, 36, 37, 38, 39, 40, 41, 42, 43] (by decide +kernel) (by decide +kernel)
set_option maxRecDepth 20000 in
theorem gX4_chalk_X7_rowFigure : GoodIn wsX4_chalk (wsV RX4 50 RX7 yX7_rowFigure wsX7_rowFigure) := goodIn_app (goodIn_of _ (by decide +kernel)) ggX4_chalk_X7_rowFigure
theorem dX4_chalk_0 : decode cX4_chalk 0 = .ok (.iconst 0, 1) := by decide +kernel
theorem dX4_chalk_1 : decode cX4_chalk 1 = .ok (.istore 4, 2) := by decide +kernel
theorem dX4_chalk_3 : decode cX4_chalk 3 = .ok (.iload 4, 2) := by decide +kernel
theorem dX4_chalk_5 : decode cX4_chalk 5 = .ok (.bipush 10, 2) := by decide +kernel
theorem dX4_chalk_7 : decode cX4_chalk 7 = .ok (.if_icmp .ge 93, 3) := by decide +kernel
theorem dX4_chalk_10 : decode cX4_chalk 10 = .ok (.aload_n 0, 1) := by decide +kernel
theorem dX4_chalk_11 : decode cX4_chalk 11 = .ok (.iload 4, 2) := by decide +kernel
theorem dX4_chalk_13 : decode cX4_chalk 13 = .ok (.invokevirtual 37, 3) := by decide +kernel
theorem dX4_chalk_16 : decode cX4_chalk 16 = .ok (.ifCond .ne 78, 3) := by decide +kernel
theorem dX4_chalk_19 : decode cX4_chalk 19 = .ok (.aload_n 0, 1) := by decide +kernel
theorem dX4_chalk_20 : decode cX4_chalk 20 = .ok (.dup, 1) := by decide +kernel
theorem dX4_chalk_21 : decode cX4_chalk 21 = .ok (.getfield 28, 3) := by decide +kernel
theorem dX4_chalk_24 : decode cX4_chalk 24 = .ok (.iconst 1, 1) := by decide +kernel
theorem dX4_chalk_25 : decode cX4_chalk 25 = .ok (.iload 4, 2) := by decide +kernel
theorem dX4_chalk_27 : decode cX4_chalk 27 = .ok (.ishl, 1) := by decide +kernel
theorem dX4_chalk_28 : decode cX4_chalk 28 = .ok (.ior, 1) := by decide +kernel
theorem dX4_chalk_29 : decode cX4_chalk 29 = .ok (.putfield 28, 3) := by decide +kernel
theorem dX4_chalk_32 : decode cX4_chalk 32 = .ok (.aload_n 0, 1) := by decide +kernel
theorem dX4_chalk_33 : decode cX4_chalk 33 = .ok (.getfield 9, 3) := by decide +kernel
theorem dX4_chalk_36 : decode cX4_chalk 36 = .ok (.iload 4, 2) := by decide +kernel
theorem dX4_chalk_38 : decode cX4_chalk 38 = .ok (.iload_n 1, 1) := by decide +kernel
theorem dX4_chalk_39 : decode cX4_chalk 39 = .ok (.iastore, 1) := by decide +kernel
theorem dX4_chalk_40 : decode cX4_chalk 40 = .ok (.aload_n 0, 1) := by decide +kernel
theorem dX4_chalk_41 : decode cX4_chalk 41 = .ok (.getfield 15, 3) := by decide +kernel
theorem dX4_chalk_44 : decode cX4_chalk 44 = .ok (.iload 4, 2) := by decide +kernel
theorem dX4_chalk_46 : decode cX4_chalk 46 = .ok (.iload_n 2, 1) := by decide +kernel
theorem dX4_chalk_47 : decode cX4_chalk 47 = .ok (.iastore, 1) := by decide +kernel
theorem dX4_chalk_48 : decode cX4_chalk 48 = .ok (.aload_n 0, 1) := by decide +kernel
theorem dX4_chalk_49 : decode cX4_chalk 49 = .ok (.getfield 18, 3) := by decide +kernel
theorem dX4_chalk_52 : decode cX4_chalk 52 = .ok (.iload 4, 2) := by decide +kernel
theorem dX4_chalk_54 : decode cX4_chalk 54 = .ok (.aload_n 3, 1) := by decide +kernel
theorem dX4_chalk_55 : decode cX4_chalk 55 = .ok (.getfield 45, 3) := by decide +kernel
theorem dX4_chalk_58 : decode cX4_chalk 58 = .ok (.iastore, 1) := by decide +kernel
theorem dX4_chalk_59 : decode cX4_chalk 59 = .ok (.iconst 0, 1) := by decide +kernel
theorem dX4_chalk_60 : decode cX4_chalk 60 = .ok (.istore 5, 2) := by decide +kernel
theorem dX4_chalk_62 : decode cX4_chalk 62 = .ok (.iload 5, 2) := by decide +kernel
theorem dX4_chalk_64 : decode cX4_chalk 64 = .ok (.iconst 5, 1) := by decide +kernel
theorem dX4_chalk_65 : decode cX4_chalk 65 = .ok (.if_icmp .ge 27, 3) := by decide +kernel
theorem dX4_chalk_68 : decode cX4_chalk 68 = .ok (.aload_n 0, 1) := by decide +kernel
theorem dX4_chalk_69 : decode cX4_chalk 69 = .ok (.getfield 21, 3) := by decide +kernel
theorem dX4_chalk_72 : decode cX4_chalk 72 = .ok (.iload 4, 2) := by decide +kernel
theorem dX4_chalk_74 : decode cX4_chalk 74 = .ok (.iconst 5, 1) := by decide +kernel
theorem dX4_chalk_75 : decode cX4_chalk 75 = .ok (.imul, 1) := by decide +kernel
theorem dX4_chalk_76 : decode cX4_chalk 76 = .ok (.iload 5, 2) := by decide +kernel
theorem dX4_chalk_78 : decode cX4_chalk 78 = .ok (.iadd, 1) := by decide +kernel
theorem dX4_chalk_79 : decode cX4_chalk 79 = .ok (.aload_n 3, 1) := by decide +kernel
theorem dX4_chalk_80 : decode cX4_chalk 80 = .ok (.iload 5, 2) := by decide +kernel
theorem dX4_chalk_82 : decode cX4_chalk 82 = .ok (.invokevirtual 50, 3) := by decide +kernel
theorem dX4_chalk_85 : decode cX4_chalk 85 = .ok (.iastore, 1) := by decide +kernel
theorem dX4_chalk_86 : decode cX4_chalk 86 = .ok (.iinc 5 1, 3) := by decide +kernel
theorem dX4_chalk_89 : decode cX4_chalk 89 = .ok (.goto (-27), 3) := by decide +kernel
theorem dX4_chalk_92 : decode cX4_chalk 92 = .ok (.iconst 1, 1) := by decide +kernel
theorem dX4_chalk_93 : decode cX4_chalk 93 = .ok (.ireturn, 1) := by decide +kernel
theorem dX4_chalk_94 : decode cX4_chalk 94 = .ok (.iinc 4 1, 3) := by decide +kernel
theorem dX4_chalk_97 : decode cX4_chalk 97 = .ok (.goto (-94), 3) := by decide +kernel
theorem dX4_chalk_100 : decode cX4_chalk 100 = .ok (.iconst 0, 1) := by decide +kernel
theorem dX4_chalk_101 : decode cX4_chalk 101 = .ok (.ireturn, 1) := by decide +kernel
set_option maxRecDepth 20000 in
theorem ggX4_rub_X4_has : GoodIn wsX4_rub wsX4_has := goodIn_r _ [6, 1, 7, 8, 9, 10, 11, 12] (by decide +kernel) (by decide +kernel)
set_option maxRecDepth 20000 in
theorem gX4_rub_X4_has : GoodIn wsX4_rub (wsV RX4 37 RX4 yX4_has wsX4_has) := goodIn_app (goodIn_of _ (by decide +kernel)) ggX4_rub_X4_has
theorem dX4_rub_0 : decode cX4_rub 0 = .ok (.aload_n 0, 1) := by decide +kernel
theorem dX4_rub_1 : decode cX4_rub 1 = .ok (.iload_n 1, 1) := by decide +kernel
theorem dX4_rub_2 : decode cX4_rub 2 = .ok (.invokevirtual 37, 3) := by decide +kernel
theorem dX4_rub_5 : decode cX4_rub 5 = .ok (.ifCond .ne 5, 3) := by decide +kernel
theorem dX4_rub_8 : decode cX4_rub 8 = .ok (.iconst 0, 1) := by decide +kernel
theorem dX4_rub_9 : decode cX4_rub 9 = .ok (.ireturn, 1) := by decide +kernel
theorem dX4_rub_10 : decode cX4_rub 10 = .ok (.aload_n 0, 1) := by decide +kernel
theorem dX4_rub_11 : decode cX4_rub 11 = .ok (.dup, 1) := by decide +kernel
theorem dX4_rub_12 : decode cX4_rub 12 = .ok (.getfield 28, 3) := by decide +kernel
theorem dX4_rub_15 : decode cX4_rub 15 = .ok (.iconst 1, 1) := by decide +kernel
theorem dX4_rub_16 : decode cX4_rub 16 = .ok (.iload_n 1, 1) := by decide +kernel
theorem dX4_rub_17 : decode cX4_rub 17 = .ok (.ishl, 1) := by decide +kernel
theorem dX4_rub_18 : decode cX4_rub 18 = .ok (.iconst (-1), 1) := by decide +kernel
theorem dX4_rub_19 : decode cX4_rub 19 = .ok (.ixor, 1) := by decide +kernel
theorem dX4_rub_20 : decode cX4_rub 20 = .ok (.iand, 1) := by decide +kernel
theorem dX4_rub_21 : decode cX4_rub 21 = .ok (.putfield 28, 3) := by decide +kernel
theorem dX4_rub_24 : decode cX4_rub 24 = .ok (.iconst 1, 1) := by decide +kernel
theorem dX4_rub_25 : decode cX4_rub 25 = .ok (.ireturn, 1) := by decide +kernel
set_option maxRecDepth 20000 in
theorem ggX4_swapLenders_X4_has : GoodIn wsX4_swapLenders wsX4_has := goodIn_r _ [7, 8, 9, 10, 11, 12, 13, 14] (by decide +kernel) (by decide +kernel)
set_option maxRecDepth 20000 in
theorem gX4_swapLenders_X4_has : GoodIn wsX4_swapLenders (wsV RX4 37 RX4 yX4_has wsX4_has) := goodIn_app (goodIn_of _ (by decide +kernel)) ggX4_swapLenders_X4_has
theorem dX4_swapLenders_0 : decode cX4_swapLenders 0 = .ok (.aload_n 0, 1) := by decide +kernel
theorem dX4_swapLenders_1 : decode cX4_swapLenders 1 = .ok (.iload_n 1, 1) := by decide +kernel
theorem dX4_swapLenders_2 : decode cX4_swapLenders 2 = .ok (.invokevirtual 37, 3) := by decide +kernel
theorem dX4_swapLenders_5 : decode cX4_swapLenders 5 = .ok (.ifCond .eq 41, 3) := by decide +kernel
theorem dX4_swapLenders_8 : decode cX4_swapLenders 8 = .ok (.aload_n 0, 1) := by decide +kernel
theorem dX4_swapLenders_9 : decode cX4_swapLenders 9 = .ok (.iload_n 2, 1) := by decide +kernel
theorem dX4_swapLenders_10 : decode cX4_swapLenders 10 = .ok (.invokevirtual 37, 3) := by decide +kernel
theorem dX4_swapLenders_13 : decode cX4_swapLenders 13 = .ok (.ifCond .eq 33, 3) := by decide +kernel
theorem dX4_swapLenders_16 : decode cX4_swapLenders 16 = .ok (.aload_n 0, 1) := by decide +kernel
theorem dX4_swapLenders_17 : decode cX4_swapLenders 17 = .ok (.getfield 9, 3) := by decide +kernel
theorem dX4_swapLenders_20 : decode cX4_swapLenders 20 = .ok (.iload_n 1, 1) := by decide +kernel
theorem dX4_swapLenders_21 : decode cX4_swapLenders 21 = .ok (.iaload, 1) := by decide +kernel
theorem dX4_swapLenders_22 : decode cX4_swapLenders 22 = .ok (.aload_n 0, 1) := by decide +kernel
theorem dX4_swapLenders_23 : decode cX4_swapLenders 23 = .ok (.getfield 15, 3) := by decide +kernel
theorem dX4_swapLenders_26 : decode cX4_swapLenders 26 = .ok (.iload_n 2, 1) := by decide +kernel
theorem dX4_swapLenders_27 : decode cX4_swapLenders 27 = .ok (.iaload, 1) := by decide +kernel
theorem dX4_swapLenders_28 : decode cX4_swapLenders 28 = .ok (.if_icmp .eq 18, 3) := by decide +kernel
theorem dX4_swapLenders_31 : decode cX4_swapLenders 31 = .ok (.aload_n 0, 1) := by decide +kernel
theorem dX4_swapLenders_32 : decode cX4_swapLenders 32 = .ok (.getfield 9, 3) := by decide +kernel
theorem dX4_swapLenders_35 : decode cX4_swapLenders 35 = .ok (.iload_n 2, 1) := by decide +kernel
theorem dX4_swapLenders_36 : decode cX4_swapLenders 36 = .ok (.iaload, 1) := by decide +kernel
theorem dX4_swapLenders_37 : decode cX4_swapLenders 37 = .ok (.aload_n 0, 1) := by decide +kernel
theorem dX4_swapLenders_38 : decode cX4_swapLenders 38 = .ok (.getfield 15, 3) := by decide +kernel
theorem dX4_swapLenders_41 : decode cX4_swapLenders 41 = .ok (.iload_n 1, 1) := by decide +kernel
theorem dX4_swapLenders_42 : decode cX4_swapLenders 42 = .ok (.iaload, 1) := by decide +kernel
theorem dX4_swapLenders_43 : decode cX4_swapLenders 43 = .ok (.if_icmp .ne 5, 3) := by decide +kernel
theorem dX4_swapLenders_46 : decode cX4_swapLenders 46 = .ok (.iconst 0, 1) := by decide +kernel
theorem dX4_swapLenders_47 : decode cX4_swapLenders 47 = .ok (.ireturn, 1) := by decide +kernel
theorem dX4_swapLenders_48 : decode cX4_swapLenders 48 = .ok (.aload_n 0, 1) := by decide +kernel
theorem dX4_swapLenders_49 : decode cX4_swapLenders 49 = .ok (.getfield 15, 3) := by decide +kernel
theorem dX4_swapLenders_52 : decode cX4_swapLenders 52 = .ok (.iload_n 1, 1) := by decide +kernel
theorem dX4_swapLenders_53 : decode cX4_swapLenders 53 = .ok (.iaload, 1) := by decide +kernel
theorem dX4_swapLenders_54 : decode cX4_swapLenders 54 = .ok (.istore_n 3, 1) := by decide +kernel
theorem dX4_swapLenders_55 : decode cX4_swapLenders 55 = .ok (.aload_n 0, 1) := by decide +kernel
theorem dX4_swapLenders_56 : decode cX4_swapLenders 56 = .ok (.getfield 15, 3) := by decide +kernel
theorem dX4_swapLenders_59 : decode cX4_swapLenders 59 = .ok (.iload_n 1, 1) := by decide +kernel
theorem dX4_swapLenders_60 : decode cX4_swapLenders 60 = .ok (.aload_n 0, 1) := by decide +kernel
theorem dX4_swapLenders_61 : decode cX4_swapLenders 61 = .ok (.getfield 15, 3) := by decide +kernel
theorem dX4_swapLenders_64 : decode cX4_swapLenders 64 = .ok (.iload_n 2, 1) := by decide +kernel
theorem dX4_swapLenders_65 : decode cX4_swapLenders 65 = .ok (.iaload, 1) := by decide +kernel
theorem dX4_swapLenders_66 : decode cX4_swapLenders 66 = .ok (.iastore, 1) := by decide +kernel
theorem dX4_swapLenders_67 : decode cX4_swapLenders 67 = .ok (.aload_n 0, 1) := by decide +kernel
theorem dX4_swapLenders_68 : decode cX4_swapLenders 68 = .ok (.getfield 15, 3) := by decide +kernel
theorem dX4_swapLenders_71 : decode cX4_swapLenders 71 = .ok (.iload_n 2, 1) := by decide +kernel
theorem dX4_swapLenders_72 : decode cX4_swapLenders 72 = .ok (.iload_n 3, 1) := by decide +kernel
theorem dX4_swapLenders_73 : decode cX4_swapLenders 73 = .ok (.iastore, 1) := by decide +kernel
theorem dX4_swapLenders_74 : decode cX4_swapLenders 74 = .ok (.iconst 1, 1) := by decide +kernel
theorem dX4_swapLenders_75 : decode cX4_swapLenders 75 = .ok (.ireturn, 1) := by decide +kernel
set_option maxRecDepth 20000 in
theorem ggX4_worthIn_X4_lengthOf : GoodIn wsX4_worthIn wsX4_lengthOf := goodIn_r _ [6, 7, 8, 9, 10, 5, 11, 12, 18, 19, 20, 21, 22, 23] (by decide +kernel) (by decide +kernel)
set_option maxRecDepth 20000 in
theorem gX4_worthIn_X4_lengthOf : GoodIn wsX4_worthIn (wsV RX4 41 RX4 yX4_lengthOf wsX4_lengthOf) := goodIn_app (goodIn_of _ (by decide +kernel)) ggX4_worthIn_X4_lengthOf
set_option maxRecDepth 20000 in
theorem ggX4_worthIn_X4_figureAt : GoodIn wsX4_worthIn wsX4_figureAt := goodIn_r _ [16, 17, 2, 3, 4, 5, 6, 7, 8, 9, 10, 11, 12, 18, 19, 20, 21, 22, 23] (by decide +kernel) (by decide +kernel)
set_option maxRecDepth 20000 in
theorem gX4_worthIn_X4_figureAt : GoodIn wsX4_worthIn (wsV RX4 53 RX4 yX4_figureAt wsX4_figureAt) := goodIn_app (goodIn_of _ (by decide +kernel)) ggX4_worthIn_X4_figureAt
theorem dX4_worthIn_0 : decode cX4_worthIn 0 = .ok (.aload_n 0, 1) := by decide +kernel
theorem dX4_worthIn_1 : decode cX4_worthIn 1 = .ok (.iload_n 1, 1) := by decide +kernel
theorem dX4_worthIn_2 : decode cX4_worthIn 2 = .ok (.invokevirtual 41, 3) := by decide +kernel
theorem dX4_worthIn_5 : decode cX4_worthIn 5 = .ok (.istore_n 3, 1) := by decide +kernel
theorem dX4_worthIn_6 : decode cX4_worthIn 6 = .ok (.iload_n 2, 1) := by decide +kernel
theorem dX4_worthIn_7 : decode cX4_worthIn 7 = .ok (.iconst 2, 1) := by decide +kernel
theorem dX4_worthIn_8 : decode cX4_worthIn 8 = .ok (.if_icmp .ge 14, 3) := by decide +kernel
theorem dX4_worthIn_11 : decode cX4_worthIn 11 = .ok (.iload_n 2, 1) := by decide +kernel
theorem dX4_worthIn_12 : decode cX4_worthIn 12 = .ok (.iconst 1, 1) := by decide +kernel
theorem dX4_worthIn_13 : decode cX4_worthIn 13 = .ok (.if_icmp .ne 7, 3) := by decide +kernel
theorem dX4_worthIn_16 : decode cX4_worthIn 16 = .ok (.iload_n 3, 1) := by decide +kernel
theorem dX4_worthIn_17 : decode cX4_worthIn 17 = .ok (.goto 4, 3) := by decide +kernel
theorem dX4_worthIn_20 : decode cX4_worthIn 20 = .ok (.iconst 0, 1) := by decide +kernel
theorem dX4_worthIn_21 : decode cX4_worthIn 21 = .ok (.ireturn, 1) := by decide +kernel
theorem dX4_worthIn_22 : decode cX4_worthIn 22 = .ok (.iconst 0, 1) := by decide +kernel
theorem dX4_worthIn_23 : decode cX4_worthIn 23 = .ok (.istore 4, 2) := by decide +kernel
theorem dX4_worthIn_25 : decode cX4_worthIn 25 = .ok (.iconst 1, 1) := by decide +kernel
theorem dX4_worthIn_26 : decode cX4_worthIn 26 = .ok (.istore 5, 2) := by decide +kernel
theorem dX4_worthIn_28 : decode cX4_worthIn 28 = .ok (.iconst 0, 1) := by decide +kernel
theorem dX4_worthIn_29 : decode cX4_worthIn 29 = .ok (.istore 6, 2) := by decide +kernel
theorem dX4_worthIn_31 : decode cX4_worthIn 31 = .ok (.iconst 0, 1) := by decide +kernel
theorem dX4_worthIn_32 : decode cX4_worthIn 32 = .ok (.istore 7, 2) := by decide +kernel
theorem dX4_worthIn_34 : decode cX4_worthIn 34 = .ok (.iload 7, 2) := by decide +kernel
theorem dX4_worthIn_36 : decode cX4_worthIn 36 = .ok (.iload_n 3, 1) := by decide +kernel
theorem dX4_worthIn_37 : decode cX4_worthIn 37 = .ok (.if_icmp .ge 47, 3) := by decide +kernel
theorem dX4_worthIn_40 : decode cX4_worthIn 40 = .ok (.aload_n 0, 1) := by decide +kernel
theorem dX4_worthIn_41 : decode cX4_worthIn 41 = .ok (.iload_n 1, 1) := by decide +kernel
theorem dX4_worthIn_42 : decode cX4_worthIn 42 = .ok (.iload 7, 2) := by decide +kernel
theorem dX4_worthIn_44 : decode cX4_worthIn 44 = .ok (.invokevirtual 53, 3) := by decide +kernel
theorem dX4_worthIn_47 : decode cX4_worthIn 47 = .ok (.istore 8, 2) := by decide +kernel
theorem dX4_worthIn_49 : decode cX4_worthIn 49 = .ok (.iload 8, 2) := by decide +kernel
theorem dX4_worthIn_51 : decode cX4_worthIn 51 = .ok (.iload_n 2, 1) := by decide +kernel
theorem dX4_worthIn_52 : decode cX4_worthIn 52 = .ok (.if_icmp .lt 11, 3) := by decide +kernel
theorem dX4_worthIn_55 : decode cX4_worthIn 55 = .ok (.iconst 1, 1) := by decide +kernel
theorem dX4_worthIn_56 : decode cX4_worthIn 56 = .ok (.istore 6, 2) := by decide +kernel
theorem dX4_worthIn_58 : decode cX4_worthIn 58 = .ok (.iload_n 2, 1) := by decide +kernel
theorem dX4_worthIn_59 : decode cX4_worthIn 59 = .ok (.iconst 1, 1) := by decide +kernel
theorem dX4_worthIn_60 : decode cX4_worthIn 60 = .ok (.isub, 1) := by decide +kernel
theorem dX4_worthIn_61 : decode cX4_worthIn 61 = .ok (.istore 8, 2) := by decide +kernel
theorem dX4_worthIn_63 : decode cX4_worthIn 63 = .ok (.iload 4, 2) := by decide +kernel
theorem dX4_worthIn_65 : decode cX4_worthIn 65 = .ok (.iload_n 2, 1) := by decide +kernel
theorem dX4_worthIn_66 : decode cX4_worthIn 66 = .ok (.imul, 1) := by decide +kernel
theorem dX4_worthIn_67 : decode cX4_worthIn 67 = .ok (.iload 8, 2) := by decide +kernel
theorem dX4_worthIn_69 : decode cX4_worthIn 69 = .ok (.iadd, 1) := by decide +kernel
theorem dX4_worthIn_70 : decode cX4_worthIn 70 = .ok (.istore 4, 2) := by decide +kernel
theorem dX4_worthIn_72 : decode cX4_worthIn 72 = .ok (.iload 5, 2) := by decide +kernel
theorem dX4_worthIn_74 : decode cX4_worthIn 74 = .ok (.iload_n 2, 1) := by decide +kernel
theorem dX4_worthIn_75 : decode cX4_worthIn 75 = .ok (.imul, 1) := by decide +kernel
theorem dX4_worthIn_76 : decode cX4_worthIn 76 = .ok (.istore 5, 2) := by decide +kernel
theorem dX4_worthIn_78 : decode cX4_worthIn 78 = .ok (.iinc 7 1, 3) := by decide +kernel
theorem dX4_worthIn_81 : decode cX4_worthIn 81 = .ok (.goto (-47), 3) := by decide +kernel
theorem dX4_worthIn_84 : decode cX4_worthIn 84 = .ok (.iload 6, 2) := by decide +kernel
theorem dX4_worthIn_86 : decode cX4_worthIn 86 = .ok (.ifCond .eq 11, 3) := by decide +kernel
theorem dX4_worthIn_89 : decode cX4_worthIn 89 = .ok (.aload_n 0, 1) := by decide +kernel
theorem dX4_worthIn_90 : decode cX4_worthIn 90 = .ok (.getfield 24, 3) := by decide +kernel
theorem dX4_worthIn_93 : decode cX4_worthIn 93 = .ok (.iconst 2, 1) := by decide +kernel
theorem dX4_worthIn_94 : decode cX4_worthIn 94 = .ok (.if_icmp .ne 6, 3) := by decide +kernel
theorem dX4_worthIn_97 : decode cX4_worthIn 97 = .ok (.iload 4, 2) := by decide +kernel
theorem dX4_worthIn_99 : decode cX4_worthIn 99 = .ok (.ireturn, 1) := by decide +kernel
theorem dX4_worthIn_100 : decode cX4_worthIn 100 = .ok (.aload_n 0, 1) := by decide +kernel
theorem dX4_worthIn_101 : decode cX4_worthIn 101 = .ok (.getfield 24, 3) := by decide +kernel
theorem dX4_worthIn_104 : decode cX4_worthIn 104 = .ok (.iconst 1, 1) := by decide +kernel
theorem dX4_worthIn_105 : decode cX4_worthIn 105 = .ok (.if_icmp .ne 8, 3) := by decide +kernel
theorem dX4_worthIn_108 : decode cX4_worthIn 108 = .ok (.iload 5, 2) := by decide +kernel
theorem dX4_worthIn_110 : decode cX4_worthIn 110 = .ok (.goto 4, 3) := by decide +kernel
theorem dX4_worthIn_113 : decode cX4_worthIn 113 = .ok (.iconst 0, 1) := by decide +kernel
theorem dX4_worthIn_114 : decode cX4_worthIn 114 = .ok (.ireturn, 1) := by decide +kernel
set_option maxRecDepth 20000 in
theorem ggX4_owedBy_X4_debtorOf : GoodIn wsX4_owedBy wsX4_debtorOf := goodIn_r _ [5, 6, 7, 8, 9, 4, 10, 11, 27, 28, 29, 30, 31, 32] (by decide +kernel) (by decide +kernel)
set_option maxRecDepth 20000 in
theorem gX4_owedBy_X4_debtorOf : GoodIn wsX4_owedBy (wsV RX4 57 RX4 yX4_debtorOf wsX4_debtorOf) := goodIn_app (goodIn_of _ (by decide +kernel)) ggX4_owedBy_X4_debtorOf
set_option maxRecDepth 20000 in
theorem ggX4_owedBy_X4_worthIn : GoodIn wsX4_owedBy wsX4_worthIn := goodIn_r _ [15, 16, 17, 18, 19, 4, 20, 21, 7, 8, 9, 10, 11, 22, 23, 24, 25, 26, 27, 28, 29, 30, 31, 32] (by decide +kernel) (by decide +kernel)
set_option maxRecDepth 20000 in
theorem gX4_owedBy_X4_worthIn : GoodIn wsX4_owedBy (wsV RX4 60 RX4 yX4_worthIn wsX4_worthIn) := goodIn_app (goodIn_of _ (by decide +kernel)) ggX4_owedBy_X4_worthIn
theorem dX4_owedBy_0 : decode cX4_owedBy 0 = .ok (.lconst 0, 1) := by decide +kernel
theorem dX4_owedBy_1 : decode cX4_owedBy 1 = .ok (.lstore_n 3, 1) := by decide +kernel
theorem dX4_owedBy_2 : decode cX4_owedBy 2 = .ok (.iconst 0, 1) := by decide +kernel
theorem dX4_owedBy_3 : decode cX4_owedBy 3 = .ok (.istore 5, 2) := by decide +kernel
theorem dX4_owedBy_5 : decode cX4_owedBy 5 = .ok (.iload 5, 2) := by decide +kernel
theorem dX4_owedBy_7 : decode cX4_owedBy 7 = .ok (.bipush 10, 2) := by decide +kernel
theorem dX4_owedBy_9 : decode cX4_owedBy 9 = .ok (.if_icmp .ge 30, 3) := by decide +kernel
theorem dX4_owedBy_12 : decode cX4_owedBy 12 = .ok (.aload_n 0, 1) := by decide +kernel
theorem dX4_owedBy_13 : decode cX4_owedBy 13 = .ok (.iload 5, 2) := by decide +kernel
theorem dX4_owedBy_15 : decode cX4_owedBy 15 = .ok (.invokevirtual 57, 3) := by decide +kernel
theorem dX4_owedBy_18 : decode cX4_owedBy 18 = .ok (.iload_n 1, 1) := by decide +kernel
theorem dX4_owedBy_19 : decode cX4_owedBy 19 = .ok (.if_icmp .ne 14, 3) := by decide +kernel
theorem dX4_owedBy_22 : decode cX4_owedBy 22 = .ok (.lload_n 3, 1) := by decide +kernel
theorem dX4_owedBy_23 : decode cX4_owedBy 23 = .ok (.aload_n 0, 1) := by decide +kernel
theorem dX4_owedBy_24 : decode cX4_owedBy 24 = .ok (.iload 5, 2) := by decide +kernel
theorem dX4_owedBy_26 : decode cX4_owedBy 26 = .ok (.iload_n 2, 1) := by decide +kernel
theorem dX4_owedBy_27 : decode cX4_owedBy 27 = .ok (.invokevirtual 60, 3) := by decide +kernel
theorem dX4_owedBy_30 : decode cX4_owedBy 30 = .ok (.i2l, 1) := by decide +kernel
theorem dX4_owedBy_31 : decode cX4_owedBy 31 = .ok (.ladd, 1) := by decide +kernel
theorem dX4_owedBy_32 : decode cX4_owedBy 32 = .ok (.lstore_n 3, 1) := by decide +kernel
theorem dX4_owedBy_33 : decode cX4_owedBy 33 = .ok (.iinc 5 1, 3) := by decide +kernel
theorem dX4_owedBy_36 : decode cX4_owedBy 36 = .ok (.goto (-31), 3) := by decide +kernel
theorem dX4_owedBy_39 : decode cX4_owedBy 39 = .ok (.lload_n 3, 1) := by decide +kernel
theorem dX4_owedBy_40 : decode cX4_owedBy 40 = .ok (.lreturn, 1) := by decide +kernel
set_option maxRecDepth 20000 in
theorem ggX4_owedTo_X4_lenderOf : GoodIn wsX4_owedTo wsX4_lenderOf := goodIn_r _ [5, 6, 7, 8, 9, 4, 10, 11, 27, 28, 29, 30, 31, 32] (by decide +kernel) (by decide +kernel)
set_option maxRecDepth 20000 in
theorem gX4_owedTo_X4_lenderOf : GoodIn wsX4_owedTo (wsV RX4 63 RX4 yX4_lenderOf wsX4_lenderOf) := goodIn_app (goodIn_of _ (by decide +kernel)) ggX4_owedTo_X4_lenderOf
set_option maxRecDepth 20000 in
theorem ggX4_owedTo_X4_worthIn : GoodIn wsX4_owedTo wsX4_worthIn := goodIn_r _ [15, 16, 17, 18, 19, 4, 20, 21, 7, 8, 9, 10, 11, 22, 23, 24, 25, 26, 27, 28, 29, 30, 31, 32] (by decide +kernel) (by decide +kernel)
set_option maxRecDepth 20000 in
theorem gX4_owedTo_X4_worthIn : GoodIn wsX4_owedTo (wsV RX4 60 RX4 yX4_worthIn wsX4_worthIn) := goodIn_app (goodIn_of _ (by decide +kernel)) ggX4_owedTo_X4_worthIn
theorem dX4_owedTo_0 : decode cX4_owedTo 0 = .ok (.lconst 0, 1) := by decide +kernel
theorem dX4_owedTo_1 : decode cX4_owedTo 1 = .ok (.lstore_n 3, 1) := by decide +kernel
theorem dX4_owedTo_2 : decode cX4_owedTo 2 = .ok (.iconst 0, 1) := by decide +kernel
theorem dX4_owedTo_3 : decode cX4_owedTo 3 = .ok (.istore 5, 2) := by decide +kernel
theorem dX4_owedTo_5 : decode cX4_owedTo 5 = .ok (.iload 5, 2) := by decide +kernel
theorem dX4_owedTo_7 : decode cX4_owedTo 7 = .ok (.bipush 10, 2) := by decide +kernel
theorem dX4_owedTo_9 : decode cX4_owedTo 9 = .ok (.if_icmp .ge 30, 3) := by decide +kernel
theorem dX4_owedTo_12 : decode cX4_owedTo 12 = .ok (.aload_n 0, 1) := by decide +kernel
theorem dX4_owedTo_13 : decode cX4_owedTo 13 = .ok (.iload 5, 2) := by decide +kernel
theorem dX4_owedTo_15 : decode cX4_owedTo 15 = .ok (.invokevirtual 63, 3) := by decide +kernel
theorem dX4_owedTo_18 : decode cX4_owedTo 18 = .ok (.iload_n 1, 1) := by decide +kernel
theorem dX4_owedTo_19 : decode cX4_owedTo 19 = .ok (.if_icmp .ne 14, 3) := by decide +kernel
theorem dX4_owedTo_22 : decode cX4_owedTo 22 = .ok (.lload_n 3, 1) := by decide +kernel
theorem dX4_owedTo_23 : decode cX4_owedTo 23 = .ok (.aload_n 0, 1) := by decide +kernel
theorem dX4_owedTo_24 : decode cX4_owedTo 24 = .ok (.iload 5, 2) := by decide +kernel
theorem dX4_owedTo_26 : decode cX4_owedTo 26 = .ok (.iload_n 2, 1) := by decide +kernel
theorem dX4_owedTo_27 : decode cX4_owedTo 27 = .ok (.invokevirtual 60, 3) := by decide +kernel
theorem dX4_owedTo_30 : decode cX4_owedTo 30 = .ok (.i2l, 1) := by decide +kernel
theorem dX4_owedTo_31 : decode cX4_owedTo 31 = .ok (.ladd, 1) := by decide +kernel
theorem dX4_owedTo_32 : decode cX4_owedTo 32 = .ok (.lstore_n 3, 1) := by decide +kernel
theorem dX4_owedTo_33 : decode cX4_owedTo 33 = .ok (.iinc 5 1, 3) := by decide +kernel
theorem dX4_owedTo_36 : decode cX4_owedTo 36 = .ok (.goto (-31), 3) := by decide +kernel
theorem dX4_owedTo_39 : decode cX4_owedTo 39 = .ok (.lload_n 3, 1) := by decide +kernel
theorem dX4_owedTo_40 : decode cX4_owedTo 40 = .ok (.lreturn, 1) := by decide +kernel
set_option maxRecDepth 20000 in
theorem ggX4_netOf_X4_owedTo : GoodIn wsX4_netOf wsX4_owedTo := goodIn_r _ [5, 6, 7, 8, 4, 9, 10, 11, 12, 13, 14, 15, 16, 17, 18, 19, 20, 21, 22, 23, 24, 25, 26, 27, 28, 29, 30, 40, 41, 42, 43, 44, 45] (by decide +kernel) (by decide +kernel)
set_option maxRecDepth 20000 in
theorem gX4_netOf_X4_owedTo : GoodIn wsX4_netOf (wsV RX4 66 RX4 yX4_owedTo wsX4_owedTo) := goodIn_app (goodIn_of _ (by decide +kernel)) ggX4_netOf_X4_owedTo
set_option maxRecDepth 20000 in
theorem ggX4_netOf_X4_owedBy : GoodIn wsX4_netOf wsX4_owedBy := goodIn_r _ [34, 35, 36, 37, 4, 38, 39, 11, 12, 13, 14, 15, 16, 17, 18, 19, 20, 21, 22, 23, 24, 25, 26, 27, 28, 29, 30, 40, 41, 42, 43, 44, 45] (by decide +kernel) (by decide +kernel)
set_option maxRecDepth 20000 in
theorem gX4_netOf_X4_owedBy : GoodIn wsX4_netOf (wsV RX4 70 RX4 yX4_owedBy wsX4_owedBy) := goodIn_app (goodIn_of _ (by decide +kernel)) ggX4_netOf_X4_owedBy
theorem dX4_netOf_0 : decode cX4_netOf 0 = .ok (.aload_n 0, 1) := by decide +kernel
theorem dX4_netOf_1 : decode cX4_netOf 1 = .ok (.iload_n 1, 1) := by decide +kernel
theorem dX4_netOf_2 : decode cX4_netOf 2 = .ok (.iload_n 2, 1) := by decide +kernel
theorem dX4_netOf_3 : decode cX4_netOf 3 = .ok (.invokevirtual 66, 3) := by decide +kernel
theorem dX4_netOf_6 : decode cX4_netOf 6 = .ok (.aload_n 0, 1) := by decide +kernel
theorem dX4_netOf_7 : decode cX4_netOf 7 = .ok (.iload_n 1, 1) := by decide +kernel
theorem dX4_netOf_8 : decode cX4_netOf 8 = .ok (.iload_n 2, 1) := by decide +kernel
theorem dX4_netOf_9 : decode cX4_netOf 9 = .ok (.invokevirtual 70, 3) := by decide +kernel
theorem dX4_netOf_12 : decode cX4_netOf 12 = .ok (.lsub, 1) := by decide +kernel
theorem dX4_netOf_13 : decode cX4_netOf 13 = .ok (.lreturn, 1) := by decide +kernel
set_option maxRecDepth 20000 in
theorem ggX4_bitsWithout_X4_has : GoodIn wsX4_bitsWithout wsX4_has := goodIn_r _ [5, 6, 17, 18, 19, 20, 21, 22] (by decide +kernel) (by decide +kernel)
set_option maxRecDepth 20000 in
theorem gX4_bitsWithout_X4_has : GoodIn wsX4_bitsWithout (wsV RX4 37 RX4 yX4_has wsX4_has) := goodIn_app (goodIn_of _ (by decide +kernel)) ggX4_bitsWithout_X4_has
set_option maxRecDepth 20000 in
theorem ggX4_bitsWithout_X4_debtorOf : GoodIn wsX4_bitsWithout wsX4_debtorOf := goodIn_r _ [10, 11, 1, 2, 3, 4, 5, 6, 17, 18, 19, 20, 21, 22] (by decide +kernel) (by decide +kernel)
set_option maxRecDepth 20000 in
theorem gX4_bitsWithout_X4_debtorOf : GoodIn wsX4_bitsWithout (wsV RX4 57 RX4 yX4_debtorOf wsX4_debtorOf) := goodIn_app (goodIn_of _ (by decide +kernel)) ggX4_bitsWithout_X4_debtorOf
set_option maxRecDepth 20000 in
theorem ggX4_bitsWithout_X4_lenderOf : GoodIn wsX4_bitsWithout wsX4_lenderOf := goodIn_r _ [15, 16, 1, 2, 3, 4, 5, 6, 17, 18, 19, 20, 21, 22] (by decide +kernel) (by decide +kernel)
set_option maxRecDepth 20000 in
theorem gX4_bitsWithout_X4_lenderOf : GoodIn wsX4_bitsWithout (wsV RX4 63 RX4 yX4_lenderOf wsX4_lenderOf) := goodIn_app (goodIn_of _ (by decide +kernel)) ggX4_bitsWithout_X4_lenderOf
theorem dX4_bitsWithout_0 : decode cX4_bitsWithout 0 = .ok (.iconst 0, 1) := by decide +kernel
theorem dX4_bitsWithout_1 : decode cX4_bitsWithout 1 = .ok (.istore_n 2, 1) := by decide +kernel
theorem dX4_bitsWithout_2 : decode cX4_bitsWithout 2 = .ok (.iconst 0, 1) := by decide +kernel
theorem dX4_bitsWithout_3 : decode cX4_bitsWithout 3 = .ok (.istore_n 3, 1) := by decide +kernel
theorem dX4_bitsWithout_4 : decode cX4_bitsWithout 4 = .ok (.iload_n 3, 1) := by decide +kernel
theorem dX4_bitsWithout_5 : decode cX4_bitsWithout 5 = .ok (.bipush 10, 2) := by decide +kernel
theorem dX4_bitsWithout_7 : decode cX4_bitsWithout 7 = .ok (.if_icmp .ge 41, 3) := by decide +kernel
theorem dX4_bitsWithout_10 : decode cX4_bitsWithout 10 = .ok (.aload_n 0, 1) := by decide +kernel
theorem dX4_bitsWithout_11 : decode cX4_bitsWithout 11 = .ok (.iload_n 3, 1) := by decide +kernel
theorem dX4_bitsWithout_12 : decode cX4_bitsWithout 12 = .ok (.invokevirtual 37, 3) := by decide +kernel
theorem dX4_bitsWithout_15 : decode cX4_bitsWithout 15 = .ok (.ifCond .eq 27, 3) := by decide +kernel
theorem dX4_bitsWithout_18 : decode cX4_bitsWithout 18 = .ok (.aload_n 0, 1) := by decide +kernel
theorem dX4_bitsWithout_19 : decode cX4_bitsWithout 19 = .ok (.iload_n 3, 1) := by decide +kernel
theorem dX4_bitsWithout_20 : decode cX4_bitsWithout 20 = .ok (.invokevirtual 57, 3) := by decide +kernel
theorem dX4_bitsWithout_23 : decode cX4_bitsWithout 23 = .ok (.iload_n 1, 1) := by decide +kernel
theorem dX4_bitsWithout_24 : decode cX4_bitsWithout 24 = .ok (.if_icmp .eq 18, 3) := by decide +kernel
theorem dX4_bitsWithout_27 : decode cX4_bitsWithout 27 = .ok (.aload_n 0, 1) := by decide +kernel
theorem dX4_bitsWithout_28 : decode cX4_bitsWithout 28 = .ok (.iload_n 3, 1) := by decide +kernel
theorem dX4_bitsWithout_29 : decode cX4_bitsWithout 29 = .ok (.invokevirtual 63, 3) := by decide +kernel
theorem dX4_bitsWithout_32 : decode cX4_bitsWithout 32 = .ok (.iload_n 1, 1) := by decide +kernel
theorem dX4_bitsWithout_33 : decode cX4_bitsWithout 33 = .ok (.if_icmp .eq 9, 3) := by decide +kernel
theorem dX4_bitsWithout_36 : decode cX4_bitsWithout 36 = .ok (.iload_n 2, 1) := by decide +kernel
theorem dX4_bitsWithout_37 : decode cX4_bitsWithout 37 = .ok (.iconst 1, 1) := by decide +kernel
theorem dX4_bitsWithout_38 : decode cX4_bitsWithout 38 = .ok (.iload_n 3, 1) := by decide +kernel
theorem dX4_bitsWithout_39 : decode cX4_bitsWithout 39 = .ok (.ishl, 1) := by decide +kernel
theorem dX4_bitsWithout_40 : decode cX4_bitsWithout 40 = .ok (.ior, 1) := by decide +kernel
theorem dX4_bitsWithout_41 : decode cX4_bitsWithout 41 = .ok (.istore_n 2, 1) := by decide +kernel
theorem dX4_bitsWithout_42 : decode cX4_bitsWithout 42 = .ok (.iinc 3 1, 3) := by decide +kernel
theorem dX4_bitsWithout_45 : decode cX4_bitsWithout 45 = .ok (.goto (-41), 3) := by decide +kernel
theorem dX4_bitsWithout_48 : decode cX4_bitsWithout 48 = .ok (.iload_n 2, 1) := by decide +kernel
theorem dX4_bitsWithout_49 : decode cX4_bitsWithout 49 = .ok (.ireturn, 1) := by decide +kernel
