theorem dX5_init_0 : decode cX5_init 0 = .ok (.aload_n 0, 1) := by decide +kernel
theorem dX5_init_1 : decode cX5_init 1 = .ok (.invokespecial 3, 3) := by decide +kernel
theorem dX5_init_4 : decode cX5_init 4 = .ok (.aload_n 0, 1) := by decide +kernel
theorem dX5_init_5 : decode cX5_init 5 = .ok (.iconst 5, 1) := by decide +kernel
theorem dX5_init_6 : decode cX5_init 6 = .ok (.newarray .int, 2) := by decide +kernel
theorem dX5_init_8 : decode cX5_init 8 = .ok (.putfield 9, 3) := by decide +kernel
theorem dX5_init_11 : decode cX5_init 11 = .ok (.aload_n 0, 1) := by decide +kernel
theorem dX5_init_12 : decode cX5_init 12 = .ok (.iconst 5, 1) := by decide +kernel
theorem dX5_init_13 : decode cX5_init 13 = .ok (.newarray .int, 2) := by decide +kernel
theorem dX5_init_15 : decode cX5_init 15 = .ok (.putfield 15, 3) := by decide +kernel
theorem dX5_init_18 : decode cX5_init 18 = .ok (.aload_n 0, 1) := by decide +kernel
theorem dX5_init_19 : decode cX5_init 19 = .ok (.iconst 5, 1) := by decide +kernel
theorem dX5_init_20 : decode cX5_init 20 = .ok (.newarray .int, 2) := by decide +kernel
theorem dX5_init_22 : decode cX5_init 22 = .ok (.putfield 18, 3) := by decide +kernel
theorem dX5_init_25 : decode cX5_init 25 = .ok (.aload_n 0, 1) := by decide +kernel
theorem dX5_init_26 : decode cX5_init 26 = .ok (.iconst 5, 1) := by decide +kernel
theorem dX5_init_27 : decode cX5_init 27 = .ok (.bipush 26, 2) := by decide +kernel
theorem dX5_init_29 : decode cX5_init 29 = .ok (.multianewarray 21 2, 4) := by decide +kernel
theorem dX5_init_33 : decode cX5_init 33 = .ok (.putfield 23, 3) := by decide +kernel
theorem dX5_init_36 : decode cX5_init 36 = .ok (.return_, 1) := by decide +kernel
theorem dX5_firstOf_0 : decode cX5_firstOf 0 = .ok (.iload_n 1, 1) := by decide +kernel
theorem dX5_firstOf_1 : decode cX5_firstOf 1 = .ok (.ifCond .lt 17, 3) := by decide +kernel
theorem dX5_firstOf_4 : decode cX5_firstOf 4 = .ok (.iload_n 1, 1) := by decide +kernel
theorem dX5_firstOf_5 : decode cX5_firstOf 5 = .ok (.iconst 5, 1) := by decide +kernel
theorem dX5_firstOf_6 : decode cX5_firstOf 6 = .ok (.if_icmp .ge 12, 3) := by decide +kernel
theorem dX5_firstOf_9 : decode cX5_firstOf 9 = .ok (.aload_n 0, 1) := by decide +kernel
theorem dX5_firstOf_10 : decode cX5_firstOf 10 = .ok (.getfield 18, 3) := by decide +kernel
theorem dX5_firstOf_13 : decode cX5_firstOf 13 = .ok (.iload_n 1, 1) := by decide +kernel
theorem dX5_firstOf_14 : decode cX5_firstOf 14 = .ok (.iaload, 1) := by decide +kernel
theorem dX5_firstOf_15 : decode cX5_firstOf 15 = .ok (.goto 4, 3) := by decide +kernel
theorem dX5_firstOf_18 : decode cX5_firstOf 18 = .ok (.iconst 0, 1) := by decide +kernel
theorem dX5_firstOf_19 : decode cX5_firstOf 19 = .ok (.ireturn, 1) := by decide +kernel
set_option maxRecDepth 20000 in
theorem ggX5_play_X5_setUp : GoodIn wsX5_play wsX5_setUp := goodIn_r _ [12, 13, 14, 15, 2, 16, 17, 18, 19, 20, 21, 22, 23, 24, 25, 26, 27, 28, 29, 30, 31, 32, 33, 34, 35, 36, 37, 38, 39, 40, 41, 42, 43, 44, 11, 45, 46, 47, 48, 49, 50, 51, 52, 53, 54, 70, 71, 72, 73, 74, 75, 76, 77, 78, 63, 64, 65, 66, 67, 68, 69, 79, 80] (by decide +kernel) (by decide +kernel)
set_option maxRecDepth 20000 in
theorem gX5_play_X5_setUp : GoodIn wsX5_play (wsV RX5 26 RX5 yX5_setUp wsX5_setUp) := goodIn_app (goodIn_of _ (by decide +kernel)) ggX5_play_X5_setUp
set_option maxRecDepth 20000 in
theorem ggX5_play_X5_rowRests : GoodIn wsX5_play wsX5_rowRests := goodIn_r _ [58, 2, 14, 15, 21, 49, 50, 51, 52, 53, 54, 63, 64, 65, 66, 67, 68, 69, 79, 80] (by decide +kernel) (by decide +kernel)
set_option maxRecDepth 20000 in
theorem gX5_play_X5_rowRests : GoodIn wsX5_play (wsV RX5 34 RX5 yX5_rowRests wsX5_rowRests) := goodIn_app (goodIn_of _ (by decide +kernel)) ggX5_play_X5_rowRests
set_option maxRecDepth 20000 in
theorem ggX5_play_X5_toNextRow : GoodIn wsX5_play wsX5_toNextRow := goodIn_r _ [62, 2, 16, 63, 64, 65, 66, 67, 68, 69] (by decide +kernel) (by decide +kernel)
set_option maxRecDepth 20000 in
theorem gX5_play_X5_toNextRow : GoodIn wsX5_play (wsV RX5 44 RX5 yX5_toNextRow wsX5_toNextRow) := goodIn_app (goodIn_of _ (by decide +kernel)) ggX5_play_X5_toNextRow
theorem dX5_play_0 : decode cX5_play 0 = .ok (.aload_n 0, 1) := by decide +kernel
theorem dX5_play_1 : decode cX5_play 1 = .ok (.aload_n 1, 1) := by decide +kernel
theorem dX5_play_2 : decode cX5_play 2 = .ok (.aload_n 2, 1) := by decide +kernel
theorem dX5_play_3 : decode cX5_play 3 = .ok (.invokevirtual 26, 3) := by decide +kernel
theorem dX5_play_6 : decode cX5_play 6 = .ok (.aload_n 0, 1) := by decide +kernel
theorem dX5_play_7 : decode cX5_play 7 = .ok (.iconst 0, 1) := by decide +kernel
theorem dX5_play_8 : decode cX5_play 8 = .ok (.putfield 30, 3) := by decide +kernel
theorem dX5_play_11 : decode cX5_play 11 = .ok (.iconst 0, 1) := by decide +kernel
theorem dX5_play_12 : decode cX5_play 12 = .ok (.istore_n 3, 1) := by decide +kernel
theorem dX5_play_13 : decode cX5_play 13 = .ok (.iload_n 3, 1) := by decide +kernel
theorem dX5_play_14 : decode cX5_play 14 = .ok (.sipush 7776, 3) := by decide +kernel
theorem dX5_play_17 : decode cX5_play 17 = .ok (.if_icmp .ge 56, 3) := by decide +kernel
theorem dX5_play_20 : decode cX5_play 20 = .ok (.aload_n 0, 1) := by decide +kernel
theorem dX5_play_21 : decode cX5_play 21 = .ok (.aload_n 2, 1) := by decide +kernel
theorem dX5_play_22 : decode cX5_play 22 = .ok (.invokevirtual 34, 3) := by decide +kernel
theorem dX5_play_25 : decode cX5_play 25 = .ok (.ifCond .eq 34, 3) := by decide +kernel
theorem dX5_play_28 : decode cX5_play 28 = .ok (.aload_n 0, 1) := by decide +kernel
theorem dX5_play_29 : decode cX5_play 29 = .ok (.getfield 30, 3) := by decide +kernel
theorem dX5_play_32 : decode cX5_play 32 = .ok (.ifCond .ne 17, 3) := by decide +kernel
theorem dX5_play_35 : decode cX5_play 35 = .ok (.aload_n 0, 1) := by decide +kernel
theorem dX5_play_36 : decode cX5_play 36 = .ok (.getfield 15, 3) := by decide +kernel
theorem dX5_play_39 : decode cX5_play 39 = .ok (.iconst 0, 1) := by decide +kernel
theorem dX5_play_40 : decode cX5_play 40 = .ok (.aload_n 0, 1) := by decide +kernel
theorem dX5_play_41 : decode cX5_play 41 = .ok (.getfield 18, 3) := by decide +kernel
theorem dX5_play_44 : decode cX5_play 44 = .ok (.iconst 0, 1) := by decide +kernel
theorem dX5_play_45 : decode cX5_play 45 = .ok (.iconst 5, 1) := by decide +kernel
theorem dX5_play_46 : decode cX5_play 46 = .ok (.invokestatic 38, 3) := by decide +kernel
theorem dX5_play_49 : decode cX5_play 49 = .ok (.aload_n 0, 1) := by decide +kernel
theorem dX5_play_50 : decode cX5_play 50 = .ok (.dup, 1) := by decide +kernel
theorem dX5_play_51 : decode cX5_play 51 = .ok (.getfield 30, 3) := by decide +kernel
theorem dX5_play_54 : decode cX5_play 54 = .ok (.iconst 1, 1) := by decide +kernel
theorem dX5_play_55 : decode cX5_play 55 = .ok (.iadd, 1) := by decide +kernel
theorem dX5_play_56 : decode cX5_play 56 = .ok (.putfield 30, 3) := by decide +kernel
theorem dX5_play_59 : decode cX5_play 59 = .ok (.aload_n 0, 1) := by decide +kernel
theorem dX5_play_60 : decode cX5_play 60 = .ok (.invokevirtual 44, 3) := by decide +kernel
theorem dX5_play_63 : decode cX5_play 63 = .ok (.ifCond .ne 4, 3) := by decide +kernel
theorem dX5_play_66 : decode cX5_play 66 = .ok (.return_, 1) := by decide +kernel
theorem dX5_play_67 : decode cX5_play 67 = .ok (.iinc 3 1, 3) := by decide +kernel
theorem dX5_play_70 : decode cX5_play 70 = .ok (.goto (-57), 3) := by decide +kernel
theorem dX5_play_73 : decode cX5_play 73 = .ok (.return_, 1) := by decide +kernel
set_option maxRecDepth 20000 in
theorem ggX5_setUp_X9_allGoats : GoodIn wsX5_setUp wsX9_allGoats := goodIn_r _ [15, 16, 17, 18, 14, 19, 20, 21, 22, 23, 24, 25, 45, 46, 47, 48, 49, 50, 51, 52, 53] (by decide +kernel) (by decide +kernel)
set_option maxRecDepth 20000 in
theorem gX5_setUp_X9_allGoats : GoodIn wsX5_setUp (wsV RX5 54 RX9 yX9_allGoats wsX9_allGoats) := goodIn_app (goodIn_of _ (by decide +kernel)) ggX5_setUp_X9_allGoats
set_option maxRecDepth 20000 in
theorem ggX5_setUp_X9_hidesOf : GoodIn wsX5_setUp wsX9_hidesOf := goodIn_r _ [29, 30, 21, 22, 23, 14, 24, 25, 45, 46, 47, 48, 49, 50, 51, 52, 53] (by decide +kernel) (by decide +kernel)
set_option maxRecDepth 20000 in
theorem gX5_setUp_X9_hidesOf : GoodIn wsX5_setUp (wsV RX5 61 RX9 yX9_hidesOf wsX9_hidesOf) := goodIn_app (goodIn_of _ (by decide +kernel)) ggX5_setUp_X9_hidesOf
set_option maxRecDepth 20000 in
theorem ggX5_setUp_X9_goatsOf : GoodIn wsX5_setUp wsX9_goatsOf := goodIn_r _ [19, 20, 21, 22, 23, 14, 24, 25, 45, 46, 47, 48, 49, 50, 51, 52, 53] (by decide +kernel) (by decide +kernel)
set_option maxRecDepth 20000 in
theorem gX5_setUp_X9_goatsOf : GoodIn wsX5_setUp (wsV RX5 65 RX9 yX9_goatsOf wsX9_goatsOf) := goodIn_app (goodIn_of _ (by decide +kernel)) ggX5_setUp_X9_goatsOf
set_option maxRecDepth 20000 in
theorem ggX5_setUp_X5_bestReply : GoodIn wsX5_setUp wsX5_bestReply := goodIn_r _ [35, 36, 37, 8, 38, 39, 40, 41, 42, 43, 44, 61, 62] (by decide +kernel) (by decide +kernel)
set_option maxRecDepth 20000 in
theorem gX5_setUp_X5_bestReply : GoodIn wsX5_setUp (va_wsS RX5 74 yX5_bestReply wsX5_bestReply) := goodIn_app (goodIn_of _ (by decide +kernel)) ggX5_setUp_X5_bestReply
theorem dX5_setUp_0 : decode cX5_setUp 0 = .ok (.aload_n 0, 1) := by decide +kernel
theorem dX5_setUp_1 : decode cX5_setUp 1 = .ok (.aload_n 1, 1) := by decide +kernel
theorem dX5_setUp_2 : decode cX5_setUp 2 = .ok (.getfield 48, 3) := by decide +kernel
theorem dX5_setUp_5 : decode cX5_setUp 5 = .ok (.putfield 53, 3) := by decide +kernel
theorem dX5_setUp_8 : decode cX5_setUp 8 = .ok (.aload_n 0, 1) := by decide +kernel
theorem dX5_setUp_9 : decode cX5_setUp 9 = .ok (.aload_n 1, 1) := by decide +kernel
theorem dX5_setUp_10 : decode cX5_setUp 10 = .ok (.invokevirtual 54, 3) := by decide +kernel
theorem dX5_setUp_13 : decode cX5_setUp 13 = .ok (.putfield 58, 3) := by decide +kernel
theorem dX5_setUp_16 : decode cX5_setUp 16 = .ok (.iconst 0, 1) := by decide +kernel
theorem dX5_setUp_17 : decode cX5_setUp 17 = .ok (.istore_n 3, 1) := by decide +kernel
theorem dX5_setUp_18 : decode cX5_setUp 18 = .ok (.iload_n 3, 1) := by decide +kernel
theorem dX5_setUp_19 : decode cX5_setUp 19 = .ok (.iconst 5, 1) := by decide +kernel
theorem dX5_setUp_20 : decode cX5_setUp 20 = .ok (.if_icmp .ge 78, 3) := by decide +kernel
theorem dX5_setUp_23 : decode cX5_setUp 23 = .ok (.aload_n 0, 1) := by decide +kernel
theorem dX5_setUp_24 : decode cX5_setUp 24 = .ok (.getfield 15, 3) := by decide +kernel
theorem dX5_setUp_27 : decode cX5_setUp 27 = .ok (.iload_n 3, 1) := by decide +kernel
theorem dX5_setUp_28 : decode cX5_setUp 28 = .ok (.iconst 0, 1) := by decide +kernel
theorem dX5_setUp_29 : decode cX5_setUp 29 = .ok (.iastore, 1) := by decide +kernel
theorem dX5_setUp_30 : decode cX5_setUp 30 = .ok (.aload_n 0, 1) := by decide +kernel
theorem dX5_setUp_31 : decode cX5_setUp 31 = .ok (.getfield 9, 3) := by decide +kernel
theorem dX5_setUp_34 : decode cX5_setUp 34 = .ok (.iload_n 3, 1) := by decide +kernel
theorem dX5_setUp_35 : decode cX5_setUp 35 = .ok (.aload_n 1, 1) := by decide +kernel
theorem dX5_setUp_36 : decode cX5_setUp 36 = .ok (.iload_n 3, 1) := by decide +kernel
theorem dX5_setUp_37 : decode cX5_setUp 37 = .ok (.invokevirtual 61, 3) := by decide +kernel
theorem dX5_setUp_40 : decode cX5_setUp 40 = .ok (.aload_n 1, 1) := by decide +kernel
theorem dX5_setUp_41 : decode cX5_setUp 41 = .ok (.iload_n 3, 1) := by decide +kernel
theorem dX5_setUp_42 : decode cX5_setUp 42 = .ok (.invokevirtual 65, 3) := by decide +kernel
theorem dX5_setUp_45 : decode cX5_setUp 45 = .ok (.invokestatic 68, 3) := by decide +kernel
theorem dX5_setUp_48 : decode cX5_setUp 48 = .ok (.iastore, 1) := by decide +kernel
theorem dX5_setUp_49 : decode cX5_setUp 49 = .ok (.iconst 0, 1) := by decide +kernel
theorem dX5_setUp_50 : decode cX5_setUp 50 = .ok (.istore 4, 2) := by decide +kernel
theorem dX5_setUp_52 : decode cX5_setUp 52 = .ok (.iload 4, 2) := by decide +kernel
theorem dX5_setUp_54 : decode cX5_setUp 54 = .ok (.bipush 25, 2) := by decide +kernel
theorem dX5_setUp_56 : decode cX5_setUp 56 = .ok (.if_icmp .gt 36, 3) := by decide +kernel
theorem dX5_setUp_59 : decode cX5_setUp 59 = .ok (.aload_n 0, 1) := by decide +kernel
theorem dX5_setUp_60 : decode cX5_setUp 60 = .ok (.getfield 23, 3) := by decide +kernel
theorem dX5_setUp_63 : decode cX5_setUp 63 = .ok (.iload_n 3, 1) := by decide +kernel
theorem dX5_setUp_64 : decode cX5_setUp 64 = .ok (.aaload, 1) := by decide +kernel
theorem dX5_setUp_65 : decode cX5_setUp 65 = .ok (.iload 4, 2) := by decide +kernel
theorem dX5_setUp_67 : decode cX5_setUp 67 = .ok (.aload_n 2, 1) := by decide +kernel
theorem dX5_setUp_68 : decode cX5_setUp 68 = .ok (.iload_n 3, 1) := by decide +kernel
theorem dX5_setUp_69 : decode cX5_setUp 69 = .ok (.aload_n 0, 1) := by decide +kernel
theorem dX5_setUp_70 : decode cX5_setUp 70 = .ok (.getfield 9, 3) := by decide +kernel
theorem dX5_setUp_73 : decode cX5_setUp 73 = .ok (.iload_n 3, 1) := by decide +kernel
theorem dX5_setUp_74 : decode cX5_setUp 74 = .ok (.iaload, 1) := by decide +kernel
theorem dX5_setUp_75 : decode cX5_setUp 75 = .ok (.aload_n 0, 1) := by decide +kernel
theorem dX5_setUp_76 : decode cX5_setUp 76 = .ok (.getfield 58, 3) := by decide +kernel
theorem dX5_setUp_79 : decode cX5_setUp 79 = .ok (.iload 4, 2) := by decide +kernel
theorem dX5_setUp_81 : decode cX5_setUp 81 = .ok (.isub, 1) := by decide +kernel
theorem dX5_setUp_82 : decode cX5_setUp 82 = .ok (.invokestatic 74, 3) := by decide +kernel
theorem dX5_setUp_85 : decode cX5_setUp 85 = .ok (.lastore, 1) := by decide +kernel
theorem dX5_setUp_86 : decode cX5_setUp 86 = .ok (.iinc 4 1, 3) := by decide +kernel
theorem dX5_setUp_89 : decode cX5_setUp 89 = .ok (.goto (-37), 3) := by decide +kernel
theorem dX5_setUp_92 : decode cX5_setUp 92 = .ok (.iinc 3 1, 3) := by decide +kernel
theorem dX5_setUp_95 : decode cX5_setUp 95 = .ok (.goto (-77), 3) := by decide +kernel
theorem dX5_setUp_98 : decode cX5_setUp 98 = .ok (.return_, 1) := by decide +kernel
set_option maxRecDepth 20000 in
theorem ggX5_bestReply_X6_netIn : GoodIn wsX5_bestReply wsX6_netIn := goodIn_r _ [9, 10, 11, 12] (by decide +kernel) (by decide +kernel)
set_option maxRecDepth 20000 in
theorem gX5_bestReply_X6_netIn : GoodIn wsX5_bestReply (wsV RX5 78 RX6 yX6_netIn wsX6_netIn) := goodIn_app (goodIn_of _ (by decide +kernel)) ggX5_bestReply_X6_netIn
theorem dX5_bestReply_0 : decode cX5_bestReply 0 = .ok (.aload_n 0, 1) := by decide +kernel
theorem dX5_bestReply_1 : decode cX5_bestReply 1 = .ok (.iload_n 1, 1) := by decide +kernel
theorem dX5_bestReply_2 : decode cX5_bestReply 2 = .ok (.iload_n 3, 1) := by decide +kernel
theorem dX5_bestReply_3 : decode cX5_bestReply 3 = .ok (.invokevirtual 78, 3) := by decide +kernel
theorem dX5_bestReply_6 : decode cX5_bestReply 6 = .ok (.lstore 4, 2) := by decide +kernel
theorem dX5_bestReply_8 : decode cX5_bestReply 8 = .ok (.iconst 1, 1) := by decide +kernel
theorem dX5_bestReply_9 : decode cX5_bestReply 9 = .ok (.istore 6, 2) := by decide +kernel
theorem dX5_bestReply_11 : decode cX5_bestReply 11 = .ok (.iload 6, 2) := by decide +kernel
theorem dX5_bestReply_13 : decode cX5_bestReply 13 = .ok (.iload_n 2, 1) := by decide +kernel
theorem dX5_bestReply_14 : decode cX5_bestReply 14 = .ok (.if_icmp .gt 25, 3) := by decide +kernel
theorem dX5_bestReply_17 : decode cX5_bestReply 17 = .ok (.lload 4, 2) := by decide +kernel
theorem dX5_bestReply_19 : decode cX5_bestReply 19 = .ok (.aload_n 0, 1) := by decide +kernel
theorem dX5_bestReply_20 : decode cX5_bestReply 20 = .ok (.iload_n 1, 1) := by decide +kernel
theorem dX5_bestReply_21 : decode cX5_bestReply 21 = .ok (.iload_n 3, 1) := by decide +kernel
theorem dX5_bestReply_22 : decode cX5_bestReply 22 = .ok (.iload 6, 2) := by decide +kernel
theorem dX5_bestReply_24 : decode cX5_bestReply 24 = .ok (.isub, 1) := by decide +kernel
theorem dX5_bestReply_25 : decode cX5_bestReply 25 = .ok (.invokevirtual 78, 3) := by decide +kernel
theorem dX5_bestReply_28 : decode cX5_bestReply 28 = .ok (.invokestatic 84, 3) := by decide +kernel
theorem dX5_bestReply_31 : decode cX5_bestReply 31 = .ok (.lstore 4, 2) := by decide +kernel
theorem dX5_bestReply_33 : decode cX5_bestReply 33 = .ok (.iinc 6 1, 3) := by decide +kernel
theorem dX5_bestReply_36 : decode cX5_bestReply 36 = .ok (.goto (-25), 3) := by decide +kernel
theorem dX5_bestReply_39 : decode cX5_bestReply 39 = .ok (.lload 4, 2) := by decide +kernel
theorem dX5_bestReply_41 : decode cX5_bestReply 41 = .ok (.lreturn, 1) := by decide +kernel
set_option maxRecDepth 20000 in
theorem ggX5_rowRests_X6_netIn : GoodIn wsX5_rowRests wsX6_netIn := goodIn_r _ [9, 10, 18, 19] (by decide +kernel) (by decide +kernel)
set_option maxRecDepth 20000 in
theorem gX5_rowRests_X6_netIn : GoodIn wsX5_rowRests (wsV RX5 78 RX6 yX6_netIn wsX6_netIn) := goodIn_app (goodIn_of _ (by decide +kernel)) ggX5_rowRests_X6_netIn
theorem dX5_rowRests_0 : decode cX5_rowRests 0 = .ok (.iconst 0, 1) := by decide +kernel
theorem dX5_rowRests_1 : decode cX5_rowRests 1 = .ok (.istore_n 2, 1) := by decide +kernel
theorem dX5_rowRests_2 : decode cX5_rowRests 2 = .ok (.iconst 0, 1) := by decide +kernel
theorem dX5_rowRests_3 : decode cX5_rowRests 3 = .ok (.istore_n 3, 1) := by decide +kernel
theorem dX5_rowRests_4 : decode cX5_rowRests 4 = .ok (.iload_n 3, 1) := by decide +kernel
theorem dX5_rowRests_5 : decode cX5_rowRests 5 = .ok (.iconst 5, 1) := by decide +kernel
theorem dX5_rowRests_6 : decode cX5_rowRests 6 = .ok (.if_icmp .ge 18, 3) := by decide +kernel
theorem dX5_rowRests_9 : decode cX5_rowRests 9 = .ok (.iload_n 2, 1) := by decide +kernel
theorem dX5_rowRests_10 : decode cX5_rowRests 10 = .ok (.aload_n 0, 1) := by decide +kernel
theorem dX5_rowRests_11 : decode cX5_rowRests 11 = .ok (.getfield 15, 3) := by decide +kernel
theorem dX5_rowRests_14 : decode cX5_rowRests 14 = .ok (.iload_n 3, 1) := by decide +kernel
theorem dX5_rowRests_15 : decode cX5_rowRests 15 = .ok (.iaload, 1) := by decide +kernel
theorem dX5_rowRests_16 : decode cX5_rowRests 16 = .ok (.iadd, 1) := by decide +kernel
theorem dX5_rowRests_17 : decode cX5_rowRests 17 = .ok (.istore_n 2, 1) := by decide +kernel
theorem dX5_rowRests_18 : decode cX5_rowRests 18 = .ok (.iinc 3 1, 3) := by decide +kernel
theorem dX5_rowRests_21 : decode cX5_rowRests 21 = .ok (.goto (-17), 3) := by decide +kernel
theorem dX5_rowRests_24 : decode cX5_rowRests 24 = .ok (.iconst 0, 1) := by decide +kernel
theorem dX5_rowRests_25 : decode cX5_rowRests 25 = .ok (.istore_n 3, 1) := by decide +kernel
theorem dX5_rowRests_26 : decode cX5_rowRests 26 = .ok (.iload_n 3, 1) := by decide +kernel
theorem dX5_rowRests_27 : decode cX5_rowRests 27 = .ok (.iconst 5, 1) := by decide +kernel
theorem dX5_rowRests_28 : decode cX5_rowRests 28 = .ok (.if_icmp .ge 65, 3) := by decide +kernel
theorem dX5_rowRests_31 : decode cX5_rowRests 31 = .ok (.iload_n 3, 1) := by decide +kernel
theorem dX5_rowRests_32 : decode cX5_rowRests 32 = .ok (.aload_n 0, 1) := by decide +kernel
theorem dX5_rowRests_33 : decode cX5_rowRests 33 = .ok (.getfield 53, 3) := by decide +kernel
theorem dX5_rowRests_36 : decode cX5_rowRests 36 = .ok (.if_icmp .ge 57, 3) := by decide +kernel
theorem dX5_rowRests_39 : decode cX5_rowRests 39 = .ok (.iload_n 2, 1) := by decide +kernel
theorem dX5_rowRests_40 : decode cX5_rowRests 40 = .ok (.aload_n 0, 1) := by decide +kernel
theorem dX5_rowRests_41 : decode cX5_rowRests 41 = .ok (.getfield 15, 3) := by decide +kernel
theorem dX5_rowRests_44 : decode cX5_rowRests 44 = .ok (.iload_n 3, 1) := by decide +kernel
theorem dX5_rowRests_45 : decode cX5_rowRests 45 = .ok (.iaload, 1) := by decide +kernel
theorem dX5_rowRests_46 : decode cX5_rowRests 46 = .ok (.isub, 1) := by decide +kernel
theorem dX5_rowRests_47 : decode cX5_rowRests 47 = .ok (.istore 4, 2) := by decide +kernel
theorem dX5_rowRests_49 : decode cX5_rowRests 49 = .ok (.iload 4, 2) := by decide +kernel
theorem dX5_rowRests_51 : decode cX5_rowRests 51 = .ok (.ifCond .lt 36, 3) := by decide +kernel
theorem dX5_rowRests_54 : decode cX5_rowRests 54 = .ok (.iload 4, 2) := by decide +kernel
theorem dX5_rowRests_56 : decode cX5_rowRests 56 = .ok (.bipush 25, 2) := by decide +kernel
theorem dX5_rowRests_58 : decode cX5_rowRests 58 = .ok (.if_icmp .gt 29, 3) := by decide +kernel
theorem dX5_rowRests_61 : decode cX5_rowRests 61 = .ok (.aload_n 1, 1) := by decide +kernel
theorem dX5_rowRests_62 : decode cX5_rowRests 62 = .ok (.iload_n 3, 1) := by decide +kernel
theorem dX5_rowRests_63 : decode cX5_rowRests 63 = .ok (.aload_n 0, 1) := by decide +kernel
theorem dX5_rowRests_64 : decode cX5_rowRests 64 = .ok (.getfield 58, 3) := by decide +kernel
theorem dX5_rowRests_67 : decode cX5_rowRests 67 = .ok (.iload_n 2, 1) := by decide +kernel
theorem dX5_rowRests_68 : decode cX5_rowRests 68 = .ok (.isub, 1) := by decide +kernel
theorem dX5_rowRests_69 : decode cX5_rowRests 69 = .ok (.invokevirtual 78, 3) := by decide +kernel
theorem dX5_rowRests_72 : decode cX5_rowRests 72 = .ok (.aload_n 0, 1) := by decide +kernel
theorem dX5_rowRests_73 : decode cX5_rowRests 73 = .ok (.getfield 23, 3) := by decide +kernel
theorem dX5_rowRests_76 : decode cX5_rowRests 76 = .ok (.iload_n 3, 1) := by decide +kernel
theorem dX5_rowRests_77 : decode cX5_rowRests 77 = .ok (.aaload, 1) := by decide +kernel
theorem dX5_rowRests_78 : decode cX5_rowRests 78 = .ok (.iload 4, 2) := by decide +kernel
theorem dX5_rowRests_80 : decode cX5_rowRests 80 = .ok (.laload, 1) := by decide +kernel
theorem dX5_rowRests_81 : decode cX5_rowRests 81 = .ok (.lcmp, 1) := by decide +kernel
theorem dX5_rowRests_82 : decode cX5_rowRests 82 = .ok (.ifCond .ge 5, 3) := by decide +kernel
theorem dX5_rowRests_85 : decode cX5_rowRests 85 = .ok (.iconst 0, 1) := by decide +kernel
theorem dX5_rowRests_86 : decode cX5_rowRests 86 = .ok (.ireturn, 1) := by decide +kernel
theorem dX5_rowRests_87 : decode cX5_rowRests 87 = .ok (.iinc 3 1, 3) := by decide +kernel
theorem dX5_rowRests_90 : decode cX5_rowRests 90 = .ok (.goto (-64), 3) := by decide +kernel
theorem dX5_rowRests_93 : decode cX5_rowRests 93 = .ok (.iconst 1, 1) := by decide +kernel
theorem dX5_rowRests_94 : decode cX5_rowRests 94 = .ok (.ireturn, 1) := by decide +kernel
theorem dX5_toNextRow_0 : decode cX5_toNextRow 0 = .ok (.iconst 4, 1) := by decide +kernel
theorem dX5_toNextRow_1 : decode cX5_toNextRow 1 = .ok (.istore_n 1, 1) := by decide +kernel
theorem dX5_toNextRow_2 : decode cX5_toNextRow 2 = .ok (.iload_n 1, 1) := by decide +kernel
theorem dX5_toNextRow_3 : decode cX5_toNextRow 3 = .ok (.ifCond .lt 43, 3) := by decide +kernel
theorem dX5_toNextRow_6 : decode cX5_toNextRow 6 = .ok (.aload_n 0, 1) := by decide +kernel
theorem dX5_toNextRow_7 : decode cX5_toNextRow 7 = .ok (.getfield 15, 3) := by decide +kernel
theorem dX5_toNextRow_10 : decode cX5_toNextRow 10 = .ok (.iload_n 1, 1) := by decide +kernel
theorem dX5_toNextRow_11 : decode cX5_toNextRow 11 = .ok (.iaload, 1) := by decide +kernel
theorem dX5_toNextRow_12 : decode cX5_toNextRow 12 = .ok (.aload_n 0, 1) := by decide +kernel
theorem dX5_toNextRow_13 : decode cX5_toNextRow 13 = .ok (.getfield 9, 3) := by decide +kernel
theorem dX5_toNextRow_16 : decode cX5_toNextRow 16 = .ok (.iload_n 1, 1) := by decide +kernel
theorem dX5_toNextRow_17 : decode cX5_toNextRow 17 = .ok (.iaload, 1) := by decide +kernel
theorem dX5_toNextRow_18 : decode cX5_toNextRow 18 = .ok (.if_icmp .ge 15, 3) := by decide +kernel
theorem dX5_toNextRow_21 : decode cX5_toNextRow 21 = .ok (.aload_n 0, 1) := by decide +kernel
theorem dX5_toNextRow_22 : decode cX5_toNextRow 22 = .ok (.getfield 15, 3) := by decide +kernel
theorem dX5_toNextRow_25 : decode cX5_toNextRow 25 = .ok (.iload_n 1, 1) := by decide +kernel
theorem dX5_toNextRow_26 : decode cX5_toNextRow 26 = .ok (.dup2, 1) := by decide +kernel
theorem dX5_toNextRow_27 : decode cX5_toNextRow 27 = .ok (.iaload, 1) := by decide +kernel
theorem dX5_toNextRow_28 : decode cX5_toNextRow 28 = .ok (.iconst 1, 1) := by decide +kernel
theorem dX5_toNextRow_29 : decode cX5_toNextRow 29 = .ok (.iadd, 1) := by decide +kernel
theorem dX5_toNextRow_30 : decode cX5_toNextRow 30 = .ok (.iastore, 1) := by decide +kernel
theorem dX5_toNextRow_31 : decode cX5_toNextRow 31 = .ok (.iconst 1, 1) := by decide +kernel
theorem dX5_toNextRow_32 : decode cX5_toNextRow 32 = .ok (.ireturn, 1) := by decide +kernel
theorem dX5_toNextRow_33 : decode cX5_toNextRow 33 = .ok (.aload_n 0, 1) := by decide +kernel
theorem dX5_toNextRow_34 : decode cX5_toNextRow 34 = .ok (.getfield 15, 3) := by decide +kernel
theorem dX5_toNextRow_37 : decode cX5_toNextRow 37 = .ok (.iload_n 1, 1) := by decide +kernel
theorem dX5_toNextRow_38 : decode cX5_toNextRow 38 = .ok (.iconst 0, 1) := by decide +kernel
theorem dX5_toNextRow_39 : decode cX5_toNextRow 39 = .ok (.iastore, 1) := by decide +kernel
theorem dX5_toNextRow_40 : decode cX5_toNextRow 40 = .ok (.iinc 1 (-1), 3) := by decide +kernel
theorem dX5_toNextRow_43 : decode cX5_toNextRow 43 = .ok (.goto (-41), 3) := by decide +kernel
theorem dX5_toNextRow_46 : decode cX5_toNextRow 46 = .ok (.iconst 0, 1) := by decide +kernel
theorem dX5_toNextRow_47 : decode cX5_toNextRow 47 = .ok (.ireturn, 1) := by decide +kernel
