theorem dX6_init_0 : decode cX6_init 0 = .ok (.aload_n 0, 1) := by decide +kernel
theorem dX6_init_1 : decode cX6_init 1 = .ok (.invokespecial 3, 3) := by decide +kernel
theorem dX6_init_4 : decode cX6_init 4 = .ok (.aload_n 0, 1) := by decide +kernel
theorem dX6_init_5 : decode cX6_init 5 = .ok (.bipush 10, 2) := by decide +kernel
theorem dX6_init_7 : decode cX6_init 7 = .ok (.bipush 41, 2) := by decide +kernel
theorem dX6_init_9 : decode cX6_init 9 = .ok (.multianewarray 9 2, 4) := by decide +kernel
theorem dX6_init_13 : decode cX6_init 13 = .ok (.putfield 11, 3) := by decide +kernel
theorem dX6_init_16 : decode cX6_init 16 = .ok (.aload_n 0, 1) := by decide +kernel
theorem dX6_init_17 : decode cX6_init 17 = .ok (.iconst 5, 1) := by decide +kernel
theorem dX6_init_18 : decode cX6_init 18 = .ok (.bipush 41, 2) := by decide +kernel
theorem dX6_init_20 : decode cX6_init 20 = .ok (.multianewarray 16 2, 4) := by decide +kernel
theorem dX6_init_24 : decode cX6_init 24 = .ok (.putfield 18, 3) := by decide +kernel
theorem dX6_init_27 : decode cX6_init 27 = .ok (.return_, 1) := by decide +kernel
set_option maxRecDepth 20000 in
theorem ggX6_fill_X4_worthIn : GoodIn wsX6_fill wsX4_worthIn := goodIn_r _ [8, 9, 10, 11, 12, 7, 13, 14, 15, 16, 17, 18, 19, 20, 21, 22, 23, 24, 51, 52, 53, 54, 55, 56] (by decide +kernel) (by decide +kernel)
set_option maxRecDepth 20000 in
theorem gX6_fill_X4_worthIn : GoodIn wsX6_fill (wsV RX6 27 RX4 yX4_worthIn wsX4_worthIn) := goodIn_app (goodIn_of _ (by decide +kernel)) ggX6_fill_X4_worthIn
set_option maxRecDepth 20000 in
theorem ggX6_fill_X4_lenderOf : GoodIn wsX6_fill wsX4_lenderOf := goodIn_r _ [28, 29, 15, 16, 17, 7, 18, 19, 51, 52, 53, 54, 55, 56] (by decide +kernel) (by decide +kernel)
set_option maxRecDepth 20000 in
theorem gX6_fill_X4_lenderOf : GoodIn wsX6_fill (wsV RX6 33 RX4 yX4_lenderOf wsX4_lenderOf) := goodIn_app (goodIn_of _ (by decide +kernel)) ggX6_fill_X4_lenderOf
set_option maxRecDepth 20000 in
theorem ggX6_fill_X6_addNet : GoodIn wsX6_fill wsX6_addNet := goodIn_r _ [34, 3, 40, 41] (by decide +kernel) (by decide +kernel)
set_option maxRecDepth 20000 in
theorem gX6_fill_X6_addNet : GoodIn wsX6_fill (wsV RX6 37 RX6 yX6_addNet wsX6_addNet) := goodIn_app (goodIn_of _ (by decide +kernel)) ggX6_fill_X6_addNet
set_option maxRecDepth 20000 in
theorem ggX6_fill_X4_debtorOf : GoodIn wsX6_fill wsX4_debtorOf := goodIn_r _ [38, 39, 15, 16, 17, 7, 18, 19, 51, 52, 53, 54, 55, 56] (by decide +kernel) (by decide +kernel)
set_option maxRecDepth 20000 in
theorem gX6_fill_X4_debtorOf : GoodIn wsX6_fill (wsV RX6 41 RX4 yX4_debtorOf wsX4_debtorOf) := goodIn_app (goodIn_of _ (by decide +kernel)) ggX6_fill_X4_debtorOf
theorem dX6_fill_0 : decode cX6_fill 0 = .ok (.iconst 0, 1) := by decide +kernel
theorem dX6_fill_1 : decode cX6_fill 1 = .ok (.istore_n 2, 1) := by decide +kernel
theorem dX6_fill_2 : decode cX6_fill 2 = .ok (.iload_n 2, 1) := by decide +kernel
theorem dX6_fill_3 : decode cX6_fill 3 = .ok (.bipush 41, 2) := by decide +kernel
theorem dX6_fill_5 : decode cX6_fill 5 = .ok (.if_icmp .ge 119, 3) := by decide +kernel
theorem dX6_fill_8 : decode cX6_fill 8 = .ok (.iconst 0, 1) := by decide +kernel
theorem dX6_fill_9 : decode cX6_fill 9 = .ok (.istore_n 3, 1) := by decide +kernel
theorem dX6_fill_10 : decode cX6_fill 10 = .ok (.iload_n 3, 1) := by decide +kernel
theorem dX6_fill_11 : decode cX6_fill 11 = .ok (.bipush 10, 2) := by decide +kernel
theorem dX6_fill_13 : decode cX6_fill 13 = .ok (.if_icmp .ge 26, 3) := by decide +kernel
theorem dX6_fill_16 : decode cX6_fill 16 = .ok (.aload_n 0, 1) := by decide +kernel
theorem dX6_fill_17 : decode cX6_fill 17 = .ok (.getfield 11, 3) := by decide +kernel
theorem dX6_fill_20 : decode cX6_fill 20 = .ok (.iload_n 3, 1) := by decide +kernel
theorem dX6_fill_21 : decode cX6_fill 21 = .ok (.aaload, 1) := by decide +kernel
theorem dX6_fill_22 : decode cX6_fill 22 = .ok (.iload_n 2, 1) := by decide +kernel
theorem dX6_fill_23 : decode cX6_fill 23 = .ok (.aload_n 1, 1) := by decide +kernel
theorem dX6_fill_24 : decode cX6_fill 24 = .ok (.getfield 21, 3) := by decide +kernel
theorem dX6_fill_27 : decode cX6_fill 27 = .ok (.iload_n 3, 1) := by decide +kernel
theorem dX6_fill_28 : decode cX6_fill 28 = .ok (.iload_n 2, 1) := by decide +kernel
theorem dX6_fill_29 : decode cX6_fill 29 = .ok (.invokevirtual 27, 3) := by decide +kernel
theorem dX6_fill_32 : decode cX6_fill 32 = .ok (.iastore, 1) := by decide +kernel
theorem dX6_fill_33 : decode cX6_fill 33 = .ok (.iinc 3 1, 3) := by decide +kernel
theorem dX6_fill_36 : decode cX6_fill 36 = .ok (.goto (-26), 3) := by decide +kernel
theorem dX6_fill_39 : decode cX6_fill 39 = .ok (.iconst 0, 1) := by decide +kernel
theorem dX6_fill_40 : decode cX6_fill 40 = .ok (.istore_n 3, 1) := by decide +kernel
theorem dX6_fill_41 : decode cX6_fill 41 = .ok (.iload_n 3, 1) := by decide +kernel
theorem dX6_fill_42 : decode cX6_fill 42 = .ok (.iconst 5, 1) := by decide +kernel
theorem dX6_fill_43 : decode cX6_fill 43 = .ok (.if_icmp .ge 18, 3) := by decide +kernel
theorem dX6_fill_46 : decode cX6_fill 46 = .ok (.aload_n 0, 1) := by decide +kernel
theorem dX6_fill_47 : decode cX6_fill 47 = .ok (.getfield 18, 3) := by decide +kernel
theorem dX6_fill_50 : decode cX6_fill 50 = .ok (.iload_n 3, 1) := by decide +kernel
theorem dX6_fill_51 : decode cX6_fill 51 = .ok (.aaload, 1) := by decide +kernel
theorem dX6_fill_52 : decode cX6_fill 52 = .ok (.iload_n 2, 1) := by decide +kernel
theorem dX6_fill_53 : decode cX6_fill 53 = .ok (.lconst 0, 1) := by decide +kernel
theorem dX6_fill_54 : decode cX6_fill 54 = .ok (.lastore, 1) := by decide +kernel
theorem dX6_fill_55 : decode cX6_fill 55 = .ok (.iinc 3 1, 3) := by decide +kernel
theorem dX6_fill_58 : decode cX6_fill 58 = .ok (.goto (-17), 3) := by decide +kernel
theorem dX6_fill_61 : decode cX6_fill 61 = .ok (.iconst 0, 1) := by decide +kernel
theorem dX6_fill_62 : decode cX6_fill 62 = .ok (.istore_n 3, 1) := by decide +kernel
theorem dX6_fill_63 : decode cX6_fill 63 = .ok (.iload_n 3, 1) := by decide +kernel
theorem dX6_fill_64 : decode cX6_fill 64 = .ok (.bipush 10, 2) := by decide +kernel
theorem dX6_fill_66 : decode cX6_fill 66 = .ok (.if_icmp .ge 52, 3) := by decide +kernel
theorem dX6_fill_69 : decode cX6_fill 69 = .ok (.aload_n 0, 1) := by decide +kernel
theorem dX6_fill_70 : decode cX6_fill 70 = .ok (.aload_n 1, 1) := by decide +kernel
theorem dX6_fill_71 : decode cX6_fill 71 = .ok (.getfield 21, 3) := by decide +kernel
theorem dX6_fill_74 : decode cX6_fill 74 = .ok (.iload_n 3, 1) := by decide +kernel
theorem dX6_fill_75 : decode cX6_fill 75 = .ok (.invokevirtual 33, 3) := by decide +kernel
theorem dX6_fill_78 : decode cX6_fill 78 = .ok (.iload_n 2, 1) := by decide +kernel
theorem dX6_fill_79 : decode cX6_fill 79 = .ok (.aload_n 0, 1) := by decide +kernel
theorem dX6_fill_80 : decode cX6_fill 80 = .ok (.getfield 11, 3) := by decide +kernel
theorem dX6_fill_83 : decode cX6_fill 83 = .ok (.iload_n 3, 1) := by decide +kernel
theorem dX6_fill_84 : decode cX6_fill 84 = .ok (.aaload, 1) := by decide +kernel
theorem dX6_fill_85 : decode cX6_fill 85 = .ok (.iload_n 2, 1) := by decide +kernel
theorem dX6_fill_86 : decode cX6_fill 86 = .ok (.iaload, 1) := by decide +kernel
theorem dX6_fill_87 : decode cX6_fill 87 = .ok (.invokevirtual 37, 3) := by decide +kernel
theorem dX6_fill_90 : decode cX6_fill 90 = .ok (.aload_n 0, 1) := by decide +kernel
theorem dX6_fill_91 : decode cX6_fill 91 = .ok (.aload_n 1, 1) := by decide +kernel
theorem dX6_fill_92 : decode cX6_fill 92 = .ok (.getfield 21, 3) := by decide +kernel
theorem dX6_fill_95 : decode cX6_fill 95 = .ok (.iload_n 3, 1) := by decide +kernel
theorem dX6_fill_96 : decode cX6_fill 96 = .ok (.invokevirtual 41, 3) := by decide +kernel
theorem dX6_fill_99 : decode cX6_fill 99 = .ok (.iload_n 2, 1) := by decide +kernel
theorem dX6_fill_100 : decode cX6_fill 100 = .ok (.aload_n 0, 1) := by decide +kernel
theorem dX6_fill_101 : decode cX6_fill 101 = .ok (.getfield 11, 3) := by decide +kernel
theorem dX6_fill_104 : decode cX6_fill 104 = .ok (.iload_n 3, 1) := by decide +kernel
theorem dX6_fill_105 : decode cX6_fill 105 = .ok (.aaload, 1) := by decide +kernel
theorem dX6_fill_106 : decode cX6_fill 106 = .ok (.iload_n 2, 1) := by decide +kernel
theorem dX6_fill_107 : decode cX6_fill 107 = .ok (.iaload, 1) := by decide +kernel
theorem dX6_fill_108 : decode cX6_fill 108 = .ok (.ineg, 1) := by decide +kernel
theorem dX6_fill_109 : decode cX6_fill 109 = .ok (.invokevirtual 37, 3) := by decide +kernel
theorem dX6_fill_112 : decode cX6_fill 112 = .ok (.iinc 3 1, 3) := by decide +kernel
theorem dX6_fill_115 : decode cX6_fill 115 = .ok (.goto (-52), 3) := by decide +kernel
theorem dX6_fill_118 : decode cX6_fill 118 = .ok (.iinc 2 1, 3) := by decide +kernel
theorem dX6_fill_121 : decode cX6_fill 121 = .ok (.goto (-119), 3) := by decide +kernel
theorem dX6_fill_124 : decode cX6_fill 124 = .ok (.return_, 1) := by decide +kernel
theorem dX6_addNet_0 : decode cX6_addNet 0 = .ok (.iload_n 1, 1) := by decide +kernel
theorem dX6_addNet_1 : decode cX6_addNet 1 = .ok (.ifCond .lt 31, 3) := by decide +kernel
theorem dX6_addNet_4 : decode cX6_addNet 4 = .ok (.iload_n 1, 1) := by decide +kernel
theorem dX6_addNet_5 : decode cX6_addNet 5 = .ok (.iconst 5, 1) := by decide +kernel
theorem dX6_addNet_6 : decode cX6_addNet 6 = .ok (.if_icmp .ge 26, 3) := by decide +kernel
theorem dX6_addNet_9 : decode cX6_addNet 9 = .ok (.iload_n 2, 1) := by decide +kernel
theorem dX6_addNet_10 : decode cX6_addNet 10 = .ok (.ifCond .lt 22, 3) := by decide +kernel
theorem dX6_addNet_13 : decode cX6_addNet 13 = .ok (.iload_n 2, 1) := by decide +kernel
theorem dX6_addNet_14 : decode cX6_addNet 14 = .ok (.bipush 41, 2) := by decide +kernel
theorem dX6_addNet_16 : decode cX6_addNet 16 = .ok (.if_icmp .ge 16, 3) := by decide +kernel
theorem dX6_addNet_19 : decode cX6_addNet 19 = .ok (.aload_n 0, 1) := by decide +kernel
theorem dX6_addNet_20 : decode cX6_addNet 20 = .ok (.getfield 18, 3) := by decide +kernel
theorem dX6_addNet_23 : decode cX6_addNet 23 = .ok (.iload_n 1, 1) := by decide +kernel
theorem dX6_addNet_24 : decode cX6_addNet 24 = .ok (.aaload, 1) := by decide +kernel
theorem dX6_addNet_25 : decode cX6_addNet 25 = .ok (.iload_n 2, 1) := by decide +kernel
theorem dX6_addNet_26 : decode cX6_addNet 26 = .ok (.dup2, 1) := by decide +kernel
theorem dX6_addNet_27 : decode cX6_addNet 27 = .ok (.laload, 1) := by decide +kernel
theorem dX6_addNet_28 : decode cX6_addNet 28 = .ok (.iload_n 3, 1) := by decide +kernel
theorem dX6_addNet_29 : decode cX6_addNet 29 = .ok (.i2l, 1) := by decide +kernel
theorem dX6_addNet_30 : decode cX6_addNet 30 = .ok (.ladd, 1) := by decide +kernel
theorem dX6_addNet_31 : decode cX6_addNet 31 = .ok (.lastore, 1) := by decide +kernel
theorem dX6_addNet_32 : decode cX6_addNet 32 = .ok (.return_, 1) := by decide +kernel
theorem dX6_worthOf_0 : decode cX6_worthOf 0 = .ok (.iload_n 1, 1) := by decide +kernel
theorem dX6_worthOf_1 : decode cX6_worthOf 1 = .ok (.ifCond .lt 30, 3) := by decide +kernel
theorem dX6_worthOf_4 : decode cX6_worthOf 4 = .ok (.iload_n 1, 1) := by decide +kernel
theorem dX6_worthOf_5 : decode cX6_worthOf 5 = .ok (.bipush 10, 2) := by decide +kernel
theorem dX6_worthOf_7 : decode cX6_worthOf 7 = .ok (.if_icmp .ge 24, 3) := by decide +kernel
theorem dX6_worthOf_10 : decode cX6_worthOf 10 = .ok (.iload_n 2, 1) := by decide +kernel
theorem dX6_worthOf_11 : decode cX6_worthOf 11 = .ok (.ifCond .lt 20, 3) := by decide +kernel
theorem dX6_worthOf_14 : decode cX6_worthOf 14 = .ok (.iload_n 2, 1) := by decide +kernel
theorem dX6_worthOf_15 : decode cX6_worthOf 15 = .ok (.bipush 41, 2) := by decide +kernel
theorem dX6_worthOf_17 : decode cX6_worthOf 17 = .ok (.if_icmp .ge 14, 3) := by decide +kernel
theorem dX6_worthOf_20 : decode cX6_worthOf 20 = .ok (.aload_n 0, 1) := by decide +kernel
theorem dX6_worthOf_21 : decode cX6_worthOf 21 = .ok (.getfield 11, 3) := by decide +kernel
theorem dX6_worthOf_24 : decode cX6_worthOf 24 = .ok (.iload_n 1, 1) := by decide +kernel
theorem dX6_worthOf_25 : decode cX6_worthOf 25 = .ok (.aaload, 1) := by decide +kernel
theorem dX6_worthOf_26 : decode cX6_worthOf 26 = .ok (.iload_n 2, 1) := by decide +kernel
theorem dX6_worthOf_27 : decode cX6_worthOf 27 = .ok (.iaload, 1) := by decide +kernel
theorem dX6_worthOf_28 : decode cX6_worthOf 28 = .ok (.goto 4, 3) := by decide +kernel
theorem dX6_worthOf_31 : decode cX6_worthOf 31 = .ok (.iconst 0, 1) := by decide +kernel
theorem dX6_worthOf_32 : decode cX6_worthOf 32 = .ok (.ireturn, 1) := by decide +kernel
theorem dX6_netIn_0 : decode cX6_netIn 0 = .ok (.iload_n 1, 1) := by decide +kernel
theorem dX6_netIn_1 : decode cX6_netIn 1 = .ok (.ifCond .lt 29, 3) := by decide +kernel
theorem dX6_netIn_4 : decode cX6_netIn 4 = .ok (.iload_n 1, 1) := by decide +kernel
theorem dX6_netIn_5 : decode cX6_netIn 5 = .ok (.iconst 5, 1) := by decide +kernel
theorem dX6_netIn_6 : decode cX6_netIn 6 = .ok (.if_icmp .ge 24, 3) := by decide +kernel
theorem dX6_netIn_9 : decode cX6_netIn 9 = .ok (.iload_n 2, 1) := by decide +kernel
theorem dX6_netIn_10 : decode cX6_netIn 10 = .ok (.ifCond .lt 20, 3) := by decide +kernel
theorem dX6_netIn_13 : decode cX6_netIn 13 = .ok (.iload_n 2, 1) := by decide +kernel
theorem dX6_netIn_14 : decode cX6_netIn 14 = .ok (.bipush 41, 2) := by decide +kernel
theorem dX6_netIn_16 : decode cX6_netIn 16 = .ok (.if_icmp .ge 14, 3) := by decide +kernel
theorem dX6_netIn_19 : decode cX6_netIn 19 = .ok (.aload_n 0, 1) := by decide +kernel
theorem dX6_netIn_20 : decode cX6_netIn 20 = .ok (.getfield 18, 3) := by decide +kernel
theorem dX6_netIn_23 : decode cX6_netIn 23 = .ok (.iload_n 1, 1) := by decide +kernel
theorem dX6_netIn_24 : decode cX6_netIn 24 = .ok (.aaload, 1) := by decide +kernel
theorem dX6_netIn_25 : decode cX6_netIn 25 = .ok (.iload_n 2, 1) := by decide +kernel
theorem dX6_netIn_26 : decode cX6_netIn 26 = .ok (.laload, 1) := by decide +kernel
theorem dX6_netIn_27 : decode cX6_netIn 27 = .ok (.goto 4, 3) := by decide +kernel
theorem dX6_netIn_30 : decode cX6_netIn 30 = .ok (.lconst 0, 1) := by decide +kernel
theorem dX6_netIn_31 : decode cX6_netIn 31 = .ok (.lreturn, 1) := by decide +kernel
set_option maxRecDepth 20000 in
theorem ggX6_spanOf_X6_spanWith : GoodIn wsX6_spanOf wsX6_spanWith := goodIn_r _ [5, 6, 7, 8, 9, 10, 11, 12, 13, 14, 15, 4, 16, 17, 18, 19, 20, 21, 22, 23, 24, 25, 26, 27, 28] (by decide +kernel) (by decide +kernel)
set_option maxRecDepth 20000 in
theorem gX6_spanOf_X6_spanWith : GoodIn wsX6_spanOf (wsV RX6 44 RX6 yX6_spanWith wsX6_spanWith) := goodIn_app (goodIn_of _ (by decide +kernel)) ggX6_spanOf_X6_spanWith
theorem dX6_spanOf_0 : decode cX6_spanOf 0 = .ok (.aload_n 0, 1) := by decide +kernel
theorem dX6_spanOf_1 : decode cX6_spanOf 1 = .ok (.iload_n 1, 1) := by decide +kernel
theorem dX6_spanOf_2 : decode cX6_spanOf 2 = .ok (.iconst (-1), 1) := by decide +kernel
theorem dX6_spanOf_3 : decode cX6_spanOf 3 = .ok (.iconst (-1), 1) := by decide +kernel
theorem dX6_spanOf_4 : decode cX6_spanOf 4 = .ok (.iload_n 2, 1) := by decide +kernel
theorem dX6_spanOf_5 : decode cX6_spanOf 5 = .ok (.iload_n 3, 1) := by decide +kernel
theorem dX6_spanOf_6 : decode cX6_spanOf 6 = .ok (.invokevirtual 44, 3) := by decide +kernel
theorem dX6_spanOf_9 : decode cX6_spanOf 9 = .ok (.lreturn, 1) := by decide +kernel
set_option maxRecDepth 20000 in
theorem ggX6_spanWith_X6_netWith : GoodIn wsX6_spanWith wsX6_netWith := goodIn_r _ [12, 13, 14, 15, 11, 16, 17, 18, 19, 20, 21, 22, 23, 24] (by decide +kernel) (by decide +kernel)
set_option maxRecDepth 20000 in
theorem gX6_spanWith_X6_netWith : GoodIn wsX6_spanWith (wsV RX6 48 RX6 yX6_netWith wsX6_netWith) := goodIn_app (goodIn_of _ (by decide +kernel)) ggX6_spanWith_X6_netWith
theorem dX6_spanWith_0 : decode cX6_spanWith 0 = .ok (.aload_n 0, 1) := by decide +kernel
theorem dX6_spanWith_1 : decode cX6_spanWith 1 = .ok (.iload_n 1, 1) := by decide +kernel
theorem dX6_spanWith_2 : decode cX6_spanWith 2 = .ok (.iload_n 2, 1) := by decide +kernel
theorem dX6_spanWith_3 : decode cX6_spanWith 3 = .ok (.iload_n 3, 1) := by decide +kernel
theorem dX6_spanWith_4 : decode cX6_spanWith 4 = .ok (.iload 4, 2) := by decide +kernel
theorem dX6_spanWith_6 : decode cX6_spanWith 6 = .ok (.invokevirtual 48, 3) := by decide +kernel
theorem dX6_spanWith_9 : decode cX6_spanWith 9 = .ok (.lstore 6, 2) := by decide +kernel
theorem dX6_spanWith_11 : decode cX6_spanWith 11 = .ok (.lload 6, 2) := by decide +kernel
theorem dX6_spanWith_13 : decode cX6_spanWith 13 = .ok (.lstore 8, 2) := by decide +kernel
theorem dX6_spanWith_15 : decode cX6_spanWith 15 = .ok (.iload 4, 2) := by decide +kernel
theorem dX6_spanWith_17 : decode cX6_spanWith 17 = .ok (.iconst 1, 1) := by decide +kernel
theorem dX6_spanWith_18 : decode cX6_spanWith 18 = .ok (.iadd, 1) := by decide +kernel
theorem dX6_spanWith_19 : decode cX6_spanWith 19 = .ok (.istore 10, 2) := by decide +kernel
theorem dX6_spanWith_21 : decode cX6_spanWith 21 = .ok (.iload 10, 2) := by decide +kernel
theorem dX6_spanWith_23 : decode cX6_spanWith 23 = .ok (.iload 5, 2) := by decide +kernel
theorem dX6_spanWith_25 : decode cX6_spanWith 25 = .ok (.if_icmp .gt 38, 3) := by decide +kernel
theorem dX6_spanWith_28 : decode cX6_spanWith 28 = .ok (.aload_n 0, 1) := by decide +kernel
theorem dX6_spanWith_29 : decode cX6_spanWith 29 = .ok (.iload_n 1, 1) := by decide +kernel
theorem dX6_spanWith_30 : decode cX6_spanWith 30 = .ok (.iload_n 2, 1) := by decide +kernel
theorem dX6_spanWith_31 : decode cX6_spanWith 31 = .ok (.iload_n 3, 1) := by decide +kernel
theorem dX6_spanWith_32 : decode cX6_spanWith 32 = .ok (.iload 10, 2) := by decide +kernel
theorem dX6_spanWith_34 : decode cX6_spanWith 34 = .ok (.invokevirtual 48, 3) := by decide +kernel
theorem dX6_spanWith_37 : decode cX6_spanWith 37 = .ok (.lstore 11, 2) := by decide +kernel
theorem dX6_spanWith_39 : decode cX6_spanWith 39 = .ok (.lload 6, 2) := by decide +kernel
theorem dX6_spanWith_41 : decode cX6_spanWith 41 = .ok (.lload 11, 2) := by decide +kernel
theorem dX6_spanWith_43 : decode cX6_spanWith 43 = .ok (.invokestatic 52, 3) := by decide +kernel
theorem dX6_spanWith_46 : decode cX6_spanWith 46 = .ok (.lstore 6, 2) := by decide +kernel
theorem dX6_spanWith_48 : decode cX6_spanWith 48 = .ok (.lload 8, 2) := by decide +kernel
theorem dX6_spanWith_50 : decode cX6_spanWith 50 = .ok (.lload 11, 2) := by decide +kernel
theorem dX6_spanWith_52 : decode cX6_spanWith 52 = .ok (.invokestatic 58, 3) := by decide +kernel
theorem dX6_spanWith_55 : decode cX6_spanWith 55 = .ok (.lstore 8, 2) := by decide +kernel
theorem dX6_spanWith_57 : decode cX6_spanWith 57 = .ok (.iinc 10 1, 3) := by decide +kernel
theorem dX6_spanWith_60 : decode cX6_spanWith 60 = .ok (.goto (-39), 3) := by decide +kernel
theorem dX6_spanWith_63 : decode cX6_spanWith 63 = .ok (.lload 6, 2) := by decide +kernel
theorem dX6_spanWith_65 : decode cX6_spanWith 65 = .ok (.lload 8, 2) := by decide +kernel
theorem dX6_spanWith_67 : decode cX6_spanWith 67 = .ok (.lsub, 1) := by decide +kernel
theorem dX6_spanWith_68 : decode cX6_spanWith 68 = .ok (.lreturn, 1) := by decide +kernel
set_option maxRecDepth 20000 in
theorem ggX6_netWith_X6_netIn : GoodIn wsX6_netWith wsX6_netIn := goodIn_r _ [5, 6, 12, 13] (by decide +kernel) (by decide +kernel)
set_option maxRecDepth 20000 in
theorem gX6_netWith_X6_netIn : GoodIn wsX6_netWith (wsV RX6 61 RX6 yX6_netIn wsX6_netIn) := goodIn_app (goodIn_of _ (by decide +kernel)) ggX6_netWith_X6_netIn
set_option maxRecDepth 20000 in
theorem ggX6_netWith_X6_worthOf : GoodIn wsX6_netWith wsX6_worthOf := goodIn_r _ [10, 11, 12, 13] (by decide +kernel) (by decide +kernel)
set_option maxRecDepth 20000 in
theorem gX6_netWith_X6_worthOf : GoodIn wsX6_netWith (wsV RX6 65 RX6 yX6_worthOf wsX6_worthOf) := goodIn_app (goodIn_of _ (by decide +kernel)) ggX6_netWith_X6_worthOf
theorem dX6_netWith_0 : decode cX6_netWith 0 = .ok (.aload_n 0, 1) := by decide +kernel
theorem dX6_netWith_1 : decode cX6_netWith 1 = .ok (.iload_n 1, 1) := by decide +kernel
theorem dX6_netWith_2 : decode cX6_netWith 2 = .ok (.iload 4, 2) := by decide +kernel
theorem dX6_netWith_4 : decode cX6_netWith 4 = .ok (.invokevirtual 61, 3) := by decide +kernel
theorem dX6_netWith_7 : decode cX6_netWith 7 = .ok (.aload_n 0, 1) := by decide +kernel
theorem dX6_netWith_8 : decode cX6_netWith 8 = .ok (.iload_n 2, 1) := by decide +kernel
theorem dX6_netWith_9 : decode cX6_netWith 9 = .ok (.iload 4, 2) := by decide +kernel
theorem dX6_netWith_11 : decode cX6_netWith 11 = .ok (.invokevirtual 65, 3) := by decide +kernel
theorem dX6_netWith_14 : decode cX6_netWith 14 = .ok (.i2l, 1) := by decide +kernel
theorem dX6_netWith_15 : decode cX6_netWith 15 = .ok (.lsub, 1) := by decide +kernel
theorem dX6_netWith_16 : decode cX6_netWith 16 = .ok (.aload_n 0, 1) := by decide +kernel
theorem dX6_netWith_17 : decode cX6_netWith 17 = .ok (.iload_n 3, 1) := by decide +kernel
theorem dX6_netWith_18 : decode cX6_netWith 18 = .ok (.iload 4, 2) := by decide +kernel
theorem dX6_netWith_20 : decode cX6_netWith 20 = .ok (.invokevirtual 65, 3) := by decide +kernel
theorem dX6_netWith_23 : decode cX6_netWith 23 = .ok (.i2l, 1) := by decide +kernel
theorem dX6_netWith_24 : decode cX6_netWith 24 = .ok (.ladd, 1) := by decide +kernel
theorem dX6_netWith_25 : decode cX6_netWith 25 = .ok (.lreturn, 1) := by decide +kernel
set_option maxRecDepth 20000 in
theorem ggX6_standsAlike_X6_netWithSet : GoodIn wsX6_standsAlike wsX6_netWithSet := goodIn_r _ [5, 6, 7, 8, 4, 9, 10, 11, 12, 13, 14, 15, 16, 17] (by decide +kernel) (by decide +kernel)
set_option maxRecDepth 20000 in
theorem gX6_standsAlike_X6_netWithSet : GoodIn wsX6_standsAlike (wsV RX6 68 RX6 yX6_netWithSet wsX6_netWithSet) := goodIn_app (goodIn_of _ (by decide +kernel)) ggX6_standsAlike_X6_netWithSet
theorem dX6_standsAlike_0 : decode cX6_standsAlike 0 = .ok (.aload_n 0, 1) := by decide +kernel
theorem dX6_standsAlike_1 : decode cX6_standsAlike 1 = .ok (.iload_n 1, 1) := by decide +kernel
theorem dX6_standsAlike_2 : decode cX6_standsAlike 2 = .ok (.iload_n 2, 1) := by decide +kernel
theorem dX6_standsAlike_3 : decode cX6_standsAlike 3 = .ok (.iload_n 3, 1) := by decide +kernel
theorem dX6_standsAlike_4 : decode cX6_standsAlike 4 = .ok (.iload 4, 2) := by decide +kernel
theorem dX6_standsAlike_6 : decode cX6_standsAlike 6 = .ok (.invokevirtual 68, 3) := by decide +kernel
theorem dX6_standsAlike_9 : decode cX6_standsAlike 9 = .ok (.lstore 6, 2) := by decide +kernel
theorem dX6_standsAlike_11 : decode cX6_standsAlike 11 = .ok (.iload 4, 2) := by decide +kernel
theorem dX6_standsAlike_13 : decode cX6_standsAlike 13 = .ok (.iconst 1, 1) := by decide +kernel
theorem dX6_standsAlike_14 : decode cX6_standsAlike 14 = .ok (.iadd, 1) := by decide +kernel
theorem dX6_standsAlike_15 : decode cX6_standsAlike 15 = .ok (.istore 8, 2) := by decide +kernel
theorem dX6_standsAlike_17 : decode cX6_standsAlike 17 = .ok (.iload 8, 2) := by decide +kernel
theorem dX6_standsAlike_19 : decode cX6_standsAlike 19 = .ok (.iload 5, 2) := by decide +kernel
theorem dX6_standsAlike_21 : decode cX6_standsAlike 21 = .ok (.if_icmp .gt 26, 3) := by decide +kernel
theorem dX6_standsAlike_24 : decode cX6_standsAlike 24 = .ok (.aload_n 0, 1) := by decide +kernel
theorem dX6_standsAlike_25 : decode cX6_standsAlike 25 = .ok (.iload_n 1, 1) := by decide +kernel
theorem dX6_standsAlike_26 : decode cX6_standsAlike 26 = .ok (.iload_n 2, 1) := by decide +kernel
theorem dX6_standsAlike_27 : decode cX6_standsAlike 27 = .ok (.iload_n 3, 1) := by decide +kernel
theorem dX6_standsAlike_28 : decode cX6_standsAlike 28 = .ok (.iload 8, 2) := by decide +kernel
theorem dX6_standsAlike_30 : decode cX6_standsAlike 30 = .ok (.invokevirtual 68, 3) := by decide +kernel
theorem dX6_standsAlike_33 : decode cX6_standsAlike 33 = .ok (.lload 6, 2) := by decide +kernel
theorem dX6_standsAlike_35 : decode cX6_standsAlike 35 = .ok (.lcmp, 1) := by decide +kernel
theorem dX6_standsAlike_36 : decode cX6_standsAlike 36 = .ok (.ifCond .eq 5, 3) := by decide +kernel
theorem dX6_standsAlike_39 : decode cX6_standsAlike 39 = .ok (.iconst 0, 1) := by decide +kernel
theorem dX6_standsAlike_40 : decode cX6_standsAlike 40 = .ok (.ireturn, 1) := by decide +kernel
theorem dX6_standsAlike_41 : decode cX6_standsAlike 41 = .ok (.iinc 8 1, 3) := by decide +kernel
theorem dX6_standsAlike_44 : decode cX6_standsAlike 44 = .ok (.goto (-27), 3) := by decide +kernel
theorem dX6_standsAlike_47 : decode cX6_standsAlike 47 = .ok (.iconst 1, 1) := by decide +kernel
theorem dX6_standsAlike_48 : decode cX6_standsAlike 48 = .ok (.ireturn, 1) := by decide +kernel
set_option maxRecDepth 20000 in
theorem ggX6_netWithSet_X6_worthOf : GoodIn wsX6_netWithSet wsX6_worthOf := goodIn_r _ [5, 6, 12, 13] (by decide +kernel) (by decide +kernel)
set_option maxRecDepth 20000 in
theorem gX6_netWithSet_X6_worthOf : GoodIn wsX6_netWithSet (wsV RX6 65 RX6 yX6_worthOf wsX6_worthOf) := goodIn_app (goodIn_of _ (by decide +kernel)) ggX6_netWithSet_X6_worthOf
set_option maxRecDepth 20000 in
theorem ggX6_netWithSet_X6_netIn : GoodIn wsX6_netWithSet wsX6_netIn := goodIn_r _ [10, 11, 12, 13] (by decide +kernel) (by decide +kernel)
set_option maxRecDepth 20000 in
theorem gX6_netWithSet_X6_netIn : GoodIn wsX6_netWithSet (wsV RX6 61 RX6 yX6_netIn wsX6_netIn) := goodIn_app (goodIn_of _ (by decide +kernel)) ggX6_netWithSet_X6_netIn
theorem dX6_netWithSet_0 : decode cX6_netWithSet 0 = .ok (.lconst 0, 1) := by decide +kernel
theorem dX6_netWithSet_1 : decode cX6_netWithSet 1 = .ok (.lstore 5, 2) := by decide +kernel
theorem dX6_netWithSet_3 : decode cX6_netWithSet 3 = .ok (.iconst 0, 1) := by decide +kernel
theorem dX6_netWithSet_4 : decode cX6_netWithSet 4 = .ok (.istore 7, 2) := by decide +kernel
theorem dX6_netWithSet_6 : decode cX6_netWithSet 6 = .ok (.iload 7, 2) := by decide +kernel
theorem dX6_netWithSet_8 : decode cX6_netWithSet 8 = .ok (.bipush 10, 2) := by decide +kernel
theorem dX6_netWithSet_10 : decode cX6_netWithSet 10 = .ok (.if_icmp .ge 32, 3) := by decide +kernel
theorem dX6_netWithSet_13 : decode cX6_netWithSet 13 = .ok (.iload_n 2, 1) := by decide +kernel
theorem dX6_netWithSet_14 : decode cX6_netWithSet 14 = .ok (.iload 7, 2) := by decide +kernel
theorem dX6_netWithSet_16 : decode cX6_netWithSet 16 = .ok (.ishr, 1) := by decide +kernel
theorem dX6_netWithSet_17 : decode cX6_netWithSet 17 = .ok (.iconst 1, 1) := by decide +kernel
theorem dX6_netWithSet_18 : decode cX6_netWithSet 18 = .ok (.iand, 1) := by decide +kernel
theorem dX6_netWithSet_19 : decode cX6_netWithSet 19 = .ok (.ifCond .eq 17, 3) := by decide +kernel
theorem dX6_netWithSet_22 : decode cX6_netWithSet 22 = .ok (.lload 5, 2) := by decide +kernel
theorem dX6_netWithSet_24 : decode cX6_netWithSet 24 = .ok (.aload_n 0, 1) := by decide +kernel
theorem dX6_netWithSet_25 : decode cX6_netWithSet 25 = .ok (.iload 7, 2) := by decide +kernel
theorem dX6_netWithSet_27 : decode cX6_netWithSet 27 = .ok (.iload 4, 2) := by decide +kernel
theorem dX6_netWithSet_29 : decode cX6_netWithSet 29 = .ok (.invokevirtual 65, 3) := by decide +kernel
theorem dX6_netWithSet_32 : decode cX6_netWithSet 32 = .ok (.i2l, 1) := by decide +kernel
theorem dX6_netWithSet_33 : decode cX6_netWithSet 33 = .ok (.ladd, 1) := by decide +kernel
theorem dX6_netWithSet_34 : decode cX6_netWithSet 34 = .ok (.lstore 5, 2) := by decide +kernel
theorem dX6_netWithSet_36 : decode cX6_netWithSet 36 = .ok (.iinc 7 1, 3) := by decide +kernel
theorem dX6_netWithSet_39 : decode cX6_netWithSet 39 = .ok (.goto (-33), 3) := by decide +kernel
theorem dX6_netWithSet_42 : decode cX6_netWithSet 42 = .ok (.aload_n 0, 1) := by decide +kernel
theorem dX6_netWithSet_43 : decode cX6_netWithSet 43 = .ok (.iload_n 1, 1) := by decide +kernel
theorem dX6_netWithSet_44 : decode cX6_netWithSet 44 = .ok (.iload 4, 2) := by decide +kernel
theorem dX6_netWithSet_46 : decode cX6_netWithSet 46 = .ok (.invokevirtual 61, 3) := by decide +kernel
theorem dX6_netWithSet_49 : decode cX6_netWithSet 49 = .ok (.iload_n 3, 1) := by decide +kernel
theorem dX6_netWithSet_50 : decode cX6_netWithSet 50 = .ok (.ifCond .eq 9, 3) := by decide +kernel
theorem dX6_netWithSet_53 : decode cX6_netWithSet 53 = .ok (.lload 5, 2) := by decide +kernel
theorem dX6_netWithSet_55 : decode cX6_netWithSet 55 = .ok (.lneg, 1) := by decide +kernel
theorem dX6_netWithSet_56 : decode cX6_netWithSet 56 = .ok (.goto 5, 3) := by decide +kernel
theorem dX6_netWithSet_59 : decode cX6_netWithSet 59 = .ok (.lload 5, 2) := by decide +kernel
theorem dX6_netWithSet_61 : decode cX6_netWithSet 61 = .ok (.ladd, 1) := by decide +kernel
theorem dX6_netWithSet_62 : decode cX6_netWithSet 62 = .ok (.lreturn, 1) := by decide +kernel
set_option maxRecDepth 20000 in
theorem ggX6_misreadIn_X6_worthOf : GoodIn wsX6_misreadIn wsX6_worthOf := goodIn_r _ [12, 13, 14, 15] (by decide +kernel) (by decide +kernel)
set_option maxRecDepth 20000 in
theorem gX6_misreadIn_X6_worthOf : GoodIn wsX6_misreadIn (wsV RX6 65 RX6 yX6_worthOf wsX6_worthOf) := goodIn_app (goodIn_of _ (by decide +kernel)) ggX6_misreadIn_X6_worthOf
theorem dX6_misreadIn_0 : decode cX6_misreadIn 0 = .ok (.iconst 0, 1) := by decide +kernel
theorem dX6_misreadIn_1 : decode cX6_misreadIn 1 = .ok (.istore 4, 2) := by decide +kernel
theorem dX6_misreadIn_3 : decode cX6_misreadIn 3 = .ok (.iconst 0, 1) := by decide +kernel
theorem dX6_misreadIn_4 : decode cX6_misreadIn 4 = .ok (.istore 5, 2) := by decide +kernel
theorem dX6_misreadIn_6 : decode cX6_misreadIn 6 = .ok (.iload 5, 2) := by decide +kernel
theorem dX6_misreadIn_8 : decode cX6_misreadIn 8 = .ok (.bipush 10, 2) := by decide +kernel
theorem dX6_misreadIn_10 : decode cX6_misreadIn 10 = .ok (.if_icmp .ge 58, 3) := by decide +kernel
theorem dX6_misreadIn_13 : decode cX6_misreadIn 13 = .ok (.aload_n 0, 1) := by decide +kernel
theorem dX6_misreadIn_14 : decode cX6_misreadIn 14 = .ok (.iload 5, 2) := by decide +kernel
theorem dX6_misreadIn_16 : decode cX6_misreadIn 16 = .ok (.iload_n 1, 1) := by decide +kernel
theorem dX6_misreadIn_17 : decode cX6_misreadIn 17 = .ok (.invokevirtual 65, 3) := by decide +kernel
theorem dX6_misreadIn_20 : decode cX6_misreadIn 20 = .ok (.istore 6, 2) := by decide +kernel
theorem dX6_misreadIn_22 : decode cX6_misreadIn 22 = .ok (.iload 4, 2) := by decide +kernel
theorem dX6_misreadIn_24 : decode cX6_misreadIn 24 = .ok (.iload 6, 2) := by decide +kernel
theorem dX6_misreadIn_26 : decode cX6_misreadIn 26 = .ok (.aload_n 0, 1) := by decide +kernel
theorem dX6_misreadIn_27 : decode cX6_misreadIn 27 = .ok (.iload 5, 2) := by decide +kernel
theorem dX6_misreadIn_29 : decode cX6_misreadIn 29 = .ok (.iload_n 2, 1) := by decide +kernel
theorem dX6_misreadIn_30 : decode cX6_misreadIn 30 = .ok (.invokevirtual 65, 3) := by decide +kernel
theorem dX6_misreadIn_33 : decode cX6_misreadIn 33 = .ok (.isub, 1) := by decide +kernel
theorem dX6_misreadIn_34 : decode cX6_misreadIn 34 = .ok (.invokestatic 72, 3) := by decide +kernel
theorem dX6_misreadIn_37 : decode cX6_misreadIn 37 = .ok (.invokestatic 75, 3) := by decide +kernel
theorem dX6_misreadIn_40 : decode cX6_misreadIn 40 = .ok (.istore 4, 2) := by decide +kernel
theorem dX6_misreadIn_42 : decode cX6_misreadIn 42 = .ok (.iload 4, 2) := by decide +kernel
theorem dX6_misreadIn_44 : decode cX6_misreadIn 44 = .ok (.iload 6, 2) := by decide +kernel
theorem dX6_misreadIn_46 : decode cX6_misreadIn 46 = .ok (.aload_n 0, 1) := by decide +kernel
theorem dX6_misreadIn_47 : decode cX6_misreadIn 47 = .ok (.iload 5, 2) := by decide +kernel
theorem dX6_misreadIn_49 : decode cX6_misreadIn 49 = .ok (.iload_n 3, 1) := by decide +kernel
theorem dX6_misreadIn_50 : decode cX6_misreadIn 50 = .ok (.invokevirtual 65, 3) := by decide +kernel
theorem dX6_misreadIn_53 : decode cX6_misreadIn 53 = .ok (.isub, 1) := by decide +kernel
theorem dX6_misreadIn_54 : decode cX6_misreadIn 54 = .ok (.invokestatic 72, 3) := by decide +kernel
theorem dX6_misreadIn_57 : decode cX6_misreadIn 57 = .ok (.invokestatic 75, 3) := by decide +kernel
theorem dX6_misreadIn_60 : decode cX6_misreadIn 60 = .ok (.istore 4, 2) := by decide +kernel
theorem dX6_misreadIn_62 : decode cX6_misreadIn 62 = .ok (.iinc 5 1, 3) := by decide +kernel
theorem dX6_misreadIn_65 : decode cX6_misreadIn 65 = .ok (.goto (-59), 3) := by decide +kernel
theorem dX6_misreadIn_68 : decode cX6_misreadIn 68 = .ok (.iload 4, 2) := by decide +kernel
theorem dX6_misreadIn_70 : decode cX6_misreadIn 70 = .ok (.ireturn, 1) := by decide +kernel
